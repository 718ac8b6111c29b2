/-! the next way: the class -/
section NxtC
variable {h : am_H} {k : Nat} {w : Nat → Int} {ly is : am_V}
theorem lk_par (O : LiO h ly is k) (W : h.1 36 = cI 0 6 w) (hw : ∀ j, j < 6 → -100 ≤ w j ∧ w j ≤ 100) {i : Nat} (hi : ¬ w (i + 1) < w i) {l3 l4 : am_V} : ∀ d : Nat, i + 1 + d ≤ 5 → gv mLie_turnsToNextWay 47 [vR 28, vI (i : Int), vI ((i + 1 + d : Nat) : Int), l3, l4] [] h = gv mLie_turnsToNextWay 73 [vR 28, vI (i : Int), vI ((pq w (w i) (i + 1 + d) : Nat) : Int), l3, l4] [] h := by
  unfold LiO at O
  intro d
  induction d with
  | zero =>
    intro hd
    have r1 := hw i (by omega)
    have r2 := hw (i + 1) (by omega)
    have ep : pq w (w i) (i + 1 + 0) = i + 1 := by
      show (if w (i + 1) < w i then pq w (w i) i else i + 1) = i + 1
      rw [if_neg hi]
    rw [e_Lie_turnsToNextWay_47, ep]
    simp (disch := omega) only [e_Lie_turnsToNextWay_0, e_Lie_turnsToNextWay_1, e_Lie_turnsToNextWay_4, e_Lie_turnsToNextWay_5, e_Lie_turnsToNextWay_6, e_Lie_turnsToNextWay_8, e_Lie_turnsToNextWay_11, e_Lie_turnsToNextWay_12, e_Lie_turnsToNextWay_15, e_Lie_turnsToNextWay_16, e_Lie_turnsToNextWay_17, e_Lie_turnsToNextWay_18, e_Lie_turnsToNextWay_21, e_Lie_turnsToNextWay_22, e_Lie_turnsToNextWay_23, e_Lie_turnsToNextWay_24, e_Lie_turnsToNextWay_25, e_Lie_turnsToNextWay_28, e_Lie_turnsToNextWay_31, e_Lie_turnsToNextWay_35, e_Lie_turnsToNextWay_38, e_Lie_turnsToNextWay_39, e_Lie_turnsToNextWay_40, e_Lie_turnsToNextWay_41, e_Lie_turnsToNextWay_44, e_Lie_turnsToNextWay_45, e_Lie_turnsToNextWay_46, e_Lie_turnsToNextWay_48, e_Lie_turnsToNextWay_49, e_Lie_turnsToNextWay_52, e_Lie_turnsToNextWay_53, e_Lie_turnsToNextWay_56, e_Lie_turnsToNextWay_57, e_Lie_turnsToNextWay_58, e_Lie_turnsToNextWay_59, e_Lie_turnsToNextWay_62, e_Lie_turnsToNextWay_63, e_Lie_turnsToNextWay_64, e_Lie_turnsToNextWay_67, e_Lie_turnsToNextWay_70, e_Lie_turnsToNextWay_74, e_Lie_turnsToNextWay_75, e_Lie_turnsToNextWay_76, e_Lie_turnsToNextWay_79, e_Lie_turnsToNextWay_80, e_Lie_turnsToNextWay_81, e_Lie_turnsToNextWay_82, e_Lie_turnsToNextWay_83, e_Lie_turnsToNextWay_84, e_Lie_turnsToNextWay_87, e_Lie_turnsToNextWay_88, e_Lie_turnsToNextWay_89, e_Lie_turnsToNextWay_92, e_Lie_turnsToNextWay_94, e_Lie_turnsToNextWay_97, e_Lie_turnsToNextWay_98, e_Lie_turnsToNextWay_99, e_Lie_turnsToNextWay_101, e_Lie_turnsToNextWay_104, e_Lie_turnsToNextWay_107, e_Lie_turnsToNextWay_110, e_Lie_turnsToNextWay_113, e_Lie_turnsToNextWay_114, alk_in, ask_in, blk_in, bsk_in, qlk_in, ack_in, rcv_in, rcA_in, bk_i, bk_l, bk_v, hS_same, hS_ne, hS_hS, hS_2, am_10, am_01, am_00, if_true, if_false, gf_2_0, pf_2_0, gf_2_1, pf_2_1, gf_2_2, pf_2_2, gf_2_3, pf_2_3, gf_2_4, pf_2_4, gf_2_5, pf_2_5, gf_2_6, pf_2_6, gf_2_7, pf_2_7, gf_2_8, pf_2_8, O, W, Int.toNat_natCast, Nat.add_zero]
    by_cases q : ((i + 1 : Nat) : Int) ≤ (i : Int)
    · omega
    · first
      | rw [if_neg q]; first
        | rw [if_neg hi]
        | rw [if_pos (by omega)]
      | rw [if_pos (by omega)]; first
        | rw [if_neg hi]
        | rw [if_pos (by omega)]
  | succ d ih =>
    intro hd
    have e1 := ih (by omega)
    have r1 := hw i (by omega)
    have r2 := hw (i + 1 + d + 1) (by omega)
    have r3 := hw (i + 1 + (d + 1)) (by omega)
    have ep : pq w (w i) (i + 1 + (d + 1)) = if w (i + 1 + d + 1) < w i then pq w (w i) (i + 1 + d) else i + 1 + d + 1 := rfl
    have t3 : ((i + 1 + (d + 1) : Nat) : Int) + -1 = ((i + 1 + d : Nat) : Int) := by omega
    have t4 : i + 1 + (d + 1) = i + 1 + d + 1 := by omega
    rw [e_Lie_turnsToNextWay_47, ep]
    simp (disch := omega) only [e_Lie_turnsToNextWay_0, e_Lie_turnsToNextWay_1, e_Lie_turnsToNextWay_4, e_Lie_turnsToNextWay_5, e_Lie_turnsToNextWay_6, e_Lie_turnsToNextWay_8, e_Lie_turnsToNextWay_11, e_Lie_turnsToNextWay_12, e_Lie_turnsToNextWay_15, e_Lie_turnsToNextWay_16, e_Lie_turnsToNextWay_17, e_Lie_turnsToNextWay_18, e_Lie_turnsToNextWay_21, e_Lie_turnsToNextWay_22, e_Lie_turnsToNextWay_23, e_Lie_turnsToNextWay_24, e_Lie_turnsToNextWay_25, e_Lie_turnsToNextWay_28, e_Lie_turnsToNextWay_31, e_Lie_turnsToNextWay_35, e_Lie_turnsToNextWay_38, e_Lie_turnsToNextWay_39, e_Lie_turnsToNextWay_40, e_Lie_turnsToNextWay_41, e_Lie_turnsToNextWay_44, e_Lie_turnsToNextWay_45, e_Lie_turnsToNextWay_46, e_Lie_turnsToNextWay_48, e_Lie_turnsToNextWay_49, e_Lie_turnsToNextWay_52, e_Lie_turnsToNextWay_53, e_Lie_turnsToNextWay_56, e_Lie_turnsToNextWay_57, e_Lie_turnsToNextWay_58, e_Lie_turnsToNextWay_59, e_Lie_turnsToNextWay_62, e_Lie_turnsToNextWay_63, e_Lie_turnsToNextWay_64, e_Lie_turnsToNextWay_67, e_Lie_turnsToNextWay_70, e_Lie_turnsToNextWay_74, e_Lie_turnsToNextWay_75, e_Lie_turnsToNextWay_76, e_Lie_turnsToNextWay_79, e_Lie_turnsToNextWay_80, e_Lie_turnsToNextWay_81, e_Lie_turnsToNextWay_82, e_Lie_turnsToNextWay_83, e_Lie_turnsToNextWay_84, e_Lie_turnsToNextWay_87, e_Lie_turnsToNextWay_88, e_Lie_turnsToNextWay_89, e_Lie_turnsToNextWay_92, e_Lie_turnsToNextWay_94, e_Lie_turnsToNextWay_97, e_Lie_turnsToNextWay_98, e_Lie_turnsToNextWay_99, e_Lie_turnsToNextWay_101, e_Lie_turnsToNextWay_104, e_Lie_turnsToNextWay_107, e_Lie_turnsToNextWay_110, e_Lie_turnsToNextWay_113, e_Lie_turnsToNextWay_114, alk_in, ask_in, blk_in, bsk_in, qlk_in, ack_in, rcv_in, rcA_in, bk_i, bk_l, bk_v, hS_same, hS_ne, hS_hS, hS_2, am_10, am_01, am_00, if_true, if_false, gf_2_0, pf_2_0, gf_2_1, pf_2_1, gf_2_2, pf_2_2, gf_2_3, pf_2_3, gf_2_4, pf_2_4, gf_2_5, pf_2_5, gf_2_6, pf_2_6, gf_2_7, pf_2_7, gf_2_8, pf_2_8, O, W, Int.toNat_natCast, t3]
    rw [t4]
    have q0 : ¬ ((i + 1 + d + 1 : Nat) : Int) ≤ (i : Int) := by omega
    by_cases q : w (i + 1 + d + 1) < w i
    · rw [if_pos q]
      first
      | rw [if_neg q0]; first
        | rw [if_pos q]; exact e1
        | rw [if_neg (by omega)]; exact e1
      | rw [if_pos (by omega)]; first
        | rw [if_pos q]; exact e1
        | rw [if_neg (by omega)]; exact e1
    · rw [if_neg q]
      first
      | rw [if_neg q0]; first
        | rw [if_neg q]
        | rw [if_pos (by omega)]
      | rw [if_pos (by omega)]; first
        | rw [if_neg q]
        | rw [if_pos (by omega)]
theorem lk_rev {l1 l2 : am_V} : ∀ (f a b : Nat) (h : am_H) (w : Nat → Int), LiO h ly is k → h.1 36 = cI 0 6 w → (a ≤ 6 ∧ b ≤ 5) → b ≤ a + 2 * f → ∃ h', gv mLie_turnsToNextWay 91 [vR 28, l1, l2, vI (a : Int), vI (b : Int)] [] h = some (some (vI 1), h') ∧ h'.1 36 = cI 0 6 (rv w a b f) ∧ Fr 36 37 h h' := by
  intro f
  induction f with
  | zero =>
    intro a b h w O W hb hf
    refine ⟨h, ?_, W, Fr.rf⟩
    rw [e_Lie_turnsToNextWay_91]
    simp (disch := omega) only [e_Lie_turnsToNextWay_0, e_Lie_turnsToNextWay_1, e_Lie_turnsToNextWay_4, e_Lie_turnsToNextWay_5, e_Lie_turnsToNextWay_6, e_Lie_turnsToNextWay_8, e_Lie_turnsToNextWay_11, e_Lie_turnsToNextWay_12, e_Lie_turnsToNextWay_15, e_Lie_turnsToNextWay_16, e_Lie_turnsToNextWay_17, e_Lie_turnsToNextWay_18, e_Lie_turnsToNextWay_21, e_Lie_turnsToNextWay_22, e_Lie_turnsToNextWay_23, e_Lie_turnsToNextWay_24, e_Lie_turnsToNextWay_25, e_Lie_turnsToNextWay_28, e_Lie_turnsToNextWay_31, e_Lie_turnsToNextWay_35, e_Lie_turnsToNextWay_38, e_Lie_turnsToNextWay_39, e_Lie_turnsToNextWay_40, e_Lie_turnsToNextWay_41, e_Lie_turnsToNextWay_44, e_Lie_turnsToNextWay_45, e_Lie_turnsToNextWay_46, e_Lie_turnsToNextWay_48, e_Lie_turnsToNextWay_49, e_Lie_turnsToNextWay_52, e_Lie_turnsToNextWay_53, e_Lie_turnsToNextWay_56, e_Lie_turnsToNextWay_57, e_Lie_turnsToNextWay_58, e_Lie_turnsToNextWay_59, e_Lie_turnsToNextWay_62, e_Lie_turnsToNextWay_63, e_Lie_turnsToNextWay_64, e_Lie_turnsToNextWay_67, e_Lie_turnsToNextWay_70, e_Lie_turnsToNextWay_74, e_Lie_turnsToNextWay_75, e_Lie_turnsToNextWay_76, e_Lie_turnsToNextWay_79, e_Lie_turnsToNextWay_80, e_Lie_turnsToNextWay_81, e_Lie_turnsToNextWay_82, e_Lie_turnsToNextWay_83, e_Lie_turnsToNextWay_84, e_Lie_turnsToNextWay_87, e_Lie_turnsToNextWay_88, e_Lie_turnsToNextWay_89, e_Lie_turnsToNextWay_92, e_Lie_turnsToNextWay_94, e_Lie_turnsToNextWay_98, e_Lie_turnsToNextWay_99, e_Lie_turnsToNextWay_101, e_Lie_turnsToNextWay_104, e_Lie_turnsToNextWay_107, e_Lie_turnsToNextWay_110, e_Lie_turnsToNextWay_113, e_Lie_turnsToNextWay_114]
    rw [if_neg (by omega)]
  | succ f ih =>
    intro a b h w O W hb hf
    have er : rv w a b (f + 1) = if a < b then rv (sw w a b) (a + 1) (b - 1) f else w := rfl
    rw [er]
    by_cases q : a < b
    · rw [if_pos q]
      have c1 := c_swap O W (a := a) (b := b) (by omega) (by omega)
      have f1 : Fr 36 37 h (hS h 36 (cI 0 6 (sw w a b))) := Fr.st (by omega)
      obtain ⟨h2, e2, W2, f2⟩ := ih (a + 1) (b - 1) _ (sw w a b) ((f1.at (by omega)).trans O) hS_same (by omega) (by omega)
      refine ⟨h2, ?_, W2, f1.tr f2⟩
      unfold LiO at O
      have t3 : (b : Int) + -1 = ((b - 1 : Nat) : Int) := by omega
      rw [e_Lie_turnsToNextWay_91, ← e2]
      simp (disch := omega) only [e_Lie_turnsToNextWay_0, e_Lie_turnsToNextWay_1, e_Lie_turnsToNextWay_4, e_Lie_turnsToNextWay_5, e_Lie_turnsToNextWay_6, e_Lie_turnsToNextWay_8, e_Lie_turnsToNextWay_11, e_Lie_turnsToNextWay_12, e_Lie_turnsToNextWay_15, e_Lie_turnsToNextWay_16, e_Lie_turnsToNextWay_17, e_Lie_turnsToNextWay_18, e_Lie_turnsToNextWay_21, e_Lie_turnsToNextWay_22, e_Lie_turnsToNextWay_23, e_Lie_turnsToNextWay_24, e_Lie_turnsToNextWay_25, e_Lie_turnsToNextWay_28, e_Lie_turnsToNextWay_31, e_Lie_turnsToNextWay_35, e_Lie_turnsToNextWay_38, e_Lie_turnsToNextWay_39, e_Lie_turnsToNextWay_40, e_Lie_turnsToNextWay_41, e_Lie_turnsToNextWay_44, e_Lie_turnsToNextWay_45, e_Lie_turnsToNextWay_46, e_Lie_turnsToNextWay_48, e_Lie_turnsToNextWay_49, e_Lie_turnsToNextWay_52, e_Lie_turnsToNextWay_53, e_Lie_turnsToNextWay_56, e_Lie_turnsToNextWay_57, e_Lie_turnsToNextWay_58, e_Lie_turnsToNextWay_59, e_Lie_turnsToNextWay_62, e_Lie_turnsToNextWay_63, e_Lie_turnsToNextWay_64, e_Lie_turnsToNextWay_67, e_Lie_turnsToNextWay_70, e_Lie_turnsToNextWay_74, e_Lie_turnsToNextWay_75, e_Lie_turnsToNextWay_76, e_Lie_turnsToNextWay_79, e_Lie_turnsToNextWay_80, e_Lie_turnsToNextWay_81, e_Lie_turnsToNextWay_82, e_Lie_turnsToNextWay_83, e_Lie_turnsToNextWay_84, e_Lie_turnsToNextWay_87, e_Lie_turnsToNextWay_88, e_Lie_turnsToNextWay_89, e_Lie_turnsToNextWay_92, e_Lie_turnsToNextWay_94, e_Lie_turnsToNextWay_97, e_Lie_turnsToNextWay_98, e_Lie_turnsToNextWay_99, e_Lie_turnsToNextWay_101, e_Lie_turnsToNextWay_104, e_Lie_turnsToNextWay_107, e_Lie_turnsToNextWay_110, e_Lie_turnsToNextWay_114, alk_in, ask_in, blk_in, bsk_in, qlk_in, ack_in, rcv_in, rcA_in, bk_i, bk_l, bk_v, hS_same, hS_ne, hS_hS, hS_2, am_10, am_01, am_00, if_true, if_false, gf_2_0, pf_2_0, gf_2_1, pf_2_1, gf_2_2, pf_2_2, gf_2_3, pf_2_3, gf_2_4, pf_2_4, gf_2_5, pf_2_5, gf_2_6, pf_2_6, gf_2_7, pf_2_7, gf_2_8, pf_2_8, O, c1, t3]
      rw [if_pos (by omega)]; rfl
    · rw [if_neg q]
      refine ⟨h, ?_, W, Fr.rf⟩
      rw [e_Lie_turnsToNextWay_91]
      simp (disch := omega) only [e_Lie_turnsToNextWay_0, e_Lie_turnsToNextWay_1, e_Lie_turnsToNextWay_4, e_Lie_turnsToNextWay_5, e_Lie_turnsToNextWay_6, e_Lie_turnsToNextWay_8, e_Lie_turnsToNextWay_11, e_Lie_turnsToNextWay_12, e_Lie_turnsToNextWay_15, e_Lie_turnsToNextWay_16, e_Lie_turnsToNextWay_17, e_Lie_turnsToNextWay_18, e_Lie_turnsToNextWay_21, e_Lie_turnsToNextWay_22, e_Lie_turnsToNextWay_23, e_Lie_turnsToNextWay_24, e_Lie_turnsToNextWay_25, e_Lie_turnsToNextWay_28, e_Lie_turnsToNextWay_31, e_Lie_turnsToNextWay_35, e_Lie_turnsToNextWay_38, e_Lie_turnsToNextWay_39, e_Lie_turnsToNextWay_40, e_Lie_turnsToNextWay_41, e_Lie_turnsToNextWay_44, e_Lie_turnsToNextWay_45, e_Lie_turnsToNextWay_46, e_Lie_turnsToNextWay_48, e_Lie_turnsToNextWay_49, e_Lie_turnsToNextWay_52, e_Lie_turnsToNextWay_53, e_Lie_turnsToNextWay_56, e_Lie_turnsToNextWay_57, e_Lie_turnsToNextWay_58, e_Lie_turnsToNextWay_59, e_Lie_turnsToNextWay_62, e_Lie_turnsToNextWay_63, e_Lie_turnsToNextWay_64, e_Lie_turnsToNextWay_67, e_Lie_turnsToNextWay_70, e_Lie_turnsToNextWay_74, e_Lie_turnsToNextWay_75, e_Lie_turnsToNextWay_76, e_Lie_turnsToNextWay_79, e_Lie_turnsToNextWay_80, e_Lie_turnsToNextWay_81, e_Lie_turnsToNextWay_82, e_Lie_turnsToNextWay_83, e_Lie_turnsToNextWay_84, e_Lie_turnsToNextWay_87, e_Lie_turnsToNextWay_88, e_Lie_turnsToNextWay_89, e_Lie_turnsToNextWay_92, e_Lie_turnsToNextWay_94, e_Lie_turnsToNextWay_98, e_Lie_turnsToNextWay_99, e_Lie_turnsToNextWay_101, e_Lie_turnsToNextWay_104, e_Lie_turnsToNextWay_107, e_Lie_turnsToNextWay_110, e_Lie_turnsToNextWay_113, e_Lie_turnsToNextWay_114]
      rw [if_neg (by omega)]
theorem k_turns (O : LiO h ly is k) (hk : k ≤ 6) (W : h.1 36 = cI 0 6 w) (hw : ∀ j, j < 6 → -100 ≤ w j ∧ w j ≤ 100) : ∃ h', ev mLie_turnsToNextWay [vR 28] h = some (some (vI (match nxt k w with | none => 0 | some _ => 1)), h') ∧ h'.1 36 = cI 0 6 (match nxt k w with | none => w | some g => g) ∧ Fr 36 37 h h' := by
  have O' := O
  unfold LiO at O
  unfold nxt
  have pl := pv_le w (k - 1)
  have st : gv mLie_turnsToNextWay 0 [vR 28, vU, vU, vU, vU] [] h = gv mLie_turnsToNextWay 34 [vR 28, vI (if k = 0 then -2 else ((pv w (k - 1) : Nat) : Int) - 1), vU, vU, vU] [] h := by
    by_cases q : k = 0
    · subst q
      rw [if_pos rfl]
      simp (disch := omega) only [e_Lie_turnsToNextWay_0, e_Lie_turnsToNextWay_1, e_Lie_turnsToNextWay_4, e_Lie_turnsToNextWay_5, e_Lie_turnsToNextWay_6, alk_in, ask_in, blk_in, bsk_in, qlk_in, ack_in, rcv_in, rcA_in, bk_i, bk_l, bk_v, hS_same, hS_ne, hS_hS, hS_2, am_10, am_01, am_00, if_true, if_false, gf_2_0, pf_2_0, gf_2_1, pf_2_1, gf_2_2, pf_2_2, gf_2_3, pf_2_3, gf_2_4, pf_2_4, gf_2_5, pf_2_5, gf_2_6, pf_2_6, gf_2_7, pf_2_7, gf_2_8, pf_2_8, O]
      rw [e_Lie_turnsToNextWay_7]
      simp (disch := omega) only [e_Lie_turnsToNextWay_8]
      rw [if_pos (by omega)]; rfl
    · rw [if_neg q]
      have e := lk_piv O' W hw (l2 := vU) (l3 := vU) (l4 := vU) (k - 1) (by omega)
      rw [← e]
      simp (disch := omega) only [e_Lie_turnsToNextWay_0, e_Lie_turnsToNextWay_1, e_Lie_turnsToNextWay_4, e_Lie_turnsToNextWay_5, e_Lie_turnsToNextWay_6, alk_in, ask_in, blk_in, bsk_in, qlk_in, ack_in, rcv_in, rcA_in, bk_i, bk_l, bk_v, hS_same, hS_ne, hS_hS, hS_2, am_10, am_01, am_00, if_true, if_false, gf_2_0, pf_2_0, gf_2_1, pf_2_1, gf_2_2, pf_2_2, gf_2_3, pf_2_3, gf_2_4, pf_2_4, gf_2_5, pf_2_5, gf_2_6, pf_2_6, gf_2_7, pf_2_7, gf_2_8, pf_2_8, O]
      rw [show (k : Int) - 2 = ((k - 1 : Nat) : Int) - 1 by omega]
  rw [ev_Lie_turnsToNextWay, st]
  cases e : pv w (k - 1) with
  | zero =>
    refine ⟨h, ?_, W, Fr.rf⟩
    by_cases q : k = 0
    · rw [if_pos q]
      simp (disch := omega) only [e_Lie_turnsToNextWay_34, e_Lie_turnsToNextWay_35, e_Lie_turnsToNextWay_38, e_Lie_turnsToNextWay_39, alk_in, ask_in, blk_in, bsk_in, qlk_in, ack_in, rcv_in, rcA_in, bk_i, bk_l, bk_v, hS_same, hS_ne, hS_hS, hS_2, am_10, am_01, am_00, if_true, if_false]
      rw [if_pos (by omega)]
    · rw [if_neg q]
      simp (disch := omega) only [e_Lie_turnsToNextWay_34, e_Lie_turnsToNextWay_35, e_Lie_turnsToNextWay_38, e_Lie_turnsToNextWay_39, alk_in, ask_in, blk_in, bsk_in, qlk_in, ack_in, rcv_in, rcA_in, bk_i, bk_l, bk_v, hS_same, hS_ne, hS_hS, hS_2, am_10, am_01, am_00, if_true, if_false]
      rw [if_pos (by omega)]
  | succ i =>
    have at' := pv_at w (k - 1) i e
    rw [e] at pl
    rw [if_neg (by omega)]
    have pr := pq_r w i at' (k - 1 - (i + 1))
    rw [show i + 1 + (k - 1 - (i + 1)) = k - 1 by omega] at pr
    have e2 := lk_par O' W hw at' (l3 := vU) (l4 := vU) (k - 1 - (i + 1)) (by omega)
    rw [show i + 1 + (k - 1 - (i + 1)) = k - 1 by omega] at e2
    have c1 := c_swap O' W (a := i) (b := pq w (w i) (k - 1)) (by omega) (by omega)
    have f1 : Fr 36 37 h (hS h 36 (cI 0 6 (sw w i (pq w (w i) (k - 1))))) := Fr.st (by omega)
    obtain ⟨h3, e3, W3, f3⟩ := lk_rev (l1 := vI (i : Int)) (l2 := vI ((pq w (w i) (k - 1) : Nat) : Int)) 6 (i + 1) (k - 1) _ _ ((f1.at (by omega)).trans O') hS_same (by omega) (by omega)
    refine ⟨h3, ?_, W3, f1.tr f3⟩
    have t1 : ((i + 1 : Nat) : Int) - 1 = (i : Int) := by omega
    have t2 : (k : Int) - 1 = ((k - 1 : Nat) : Int) := by omega
    rw [t1]
    simp (disch := omega) only [e_Lie_turnsToNextWay_34, e_Lie_turnsToNextWay_35, e_Lie_turnsToNextWay_38, e_Lie_turnsToNextWay_39, e_Lie_turnsToNextWay_40, e_Lie_turnsToNextWay_41, e_Lie_turnsToNextWay_44, e_Lie_turnsToNextWay_45, e_Lie_turnsToNextWay_46, alk_in, ask_in, blk_in, bsk_in, qlk_in, ack_in, rcv_in, rcA_in, bk_i, bk_l, bk_v, hS_same, hS_ne, hS_hS, hS_2, am_10, am_01, am_00, if_true, if_false, gf_2_0, pf_2_0, gf_2_1, pf_2_1, gf_2_2, pf_2_2, gf_2_3, pf_2_3, gf_2_4, pf_2_4, gf_2_5, pf_2_5, gf_2_6, pf_2_6, gf_2_7, pf_2_7, gf_2_8, pf_2_8, O, t2]
    rw [if_neg (by omega)]
    refine Eq.trans e2 ?_
    rw [← e3]
    simp (disch := omega) only [e_Lie_turnsToNextWay_73, e_Lie_turnsToNextWay_74, e_Lie_turnsToNextWay_75, e_Lie_turnsToNextWay_76, e_Lie_turnsToNextWay_79, e_Lie_turnsToNextWay_80, e_Lie_turnsToNextWay_81, e_Lie_turnsToNextWay_82, e_Lie_turnsToNextWay_83, e_Lie_turnsToNextWay_84, e_Lie_turnsToNextWay_87, e_Lie_turnsToNextWay_88, e_Lie_turnsToNextWay_89, alk_in, ask_in, blk_in, bsk_in, qlk_in, ack_in, rcv_in, rcA_in, bk_i, bk_l, bk_v, hS_same, hS_ne, hS_hS, hS_2, am_10, am_01, am_00, if_true, if_false, gf_2_0, pf_2_0, gf_2_1, pf_2_1, gf_2_2, pf_2_2, gf_2_3, pf_2_3, gf_2_4, pf_2_4, gf_2_5, pf_2_5, gf_2_6, pf_2_6, gf_2_7, pf_2_7, gf_2_8, pf_2_8, O, c1, t2]
    rfl
end NxtC
