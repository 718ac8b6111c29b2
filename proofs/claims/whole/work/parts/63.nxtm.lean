/-! the next way: the model -/
section NxtM
variable {h : am_H} {k : Nat} {w : Nat → Int} {x0 x2 x7 x11 x12 x13 x14 x15 : am_V}
theorem lm_piv (o : MoA h x0 x2 x7 x11 x12 x13 x14 x15) (W : h.1 133 = cI 0 6 w) (hw : ∀ j, j < 6 → -100 ≤ w j ∧ w j ≤ 100) {l1 l3 l4 l5 l6 : am_V} : ∀ p : Nat, p ≤ 5 → gv mMod_nextRow 4 [vR 120, l1, vI ((p : Int) - 1), l3, l4, l5, l6] [] h = gv mMod_nextRow 31 [vR 120, l1, vI (((pv w p : Nat) : Int) - 1), l3, l4, l5, l6] [] h := by
  unfold MoA at o
  intro p
  induction p with
  | zero =>
    intro _
    rw [e_Mod_nextRow_4]
    simp (disch := omega) only [e_Mod_nextRow_0, e_Mod_nextRow_1, e_Mod_nextRow_2, e_Mod_nextRow_3, e_Mod_nextRow_5, e_Mod_nextRow_8, e_Mod_nextRow_9, e_Mod_nextRow_12, e_Mod_nextRow_13, e_Mod_nextRow_14, e_Mod_nextRow_15, e_Mod_nextRow_18, e_Mod_nextRow_19, e_Mod_nextRow_20, e_Mod_nextRow_21, e_Mod_nextRow_22, e_Mod_nextRow_25, e_Mod_nextRow_28, e_Mod_nextRow_32, e_Mod_nextRow_35, e_Mod_nextRow_36, e_Mod_nextRow_37, e_Mod_nextRow_38, e_Mod_nextRow_39, e_Mod_nextRow_40, e_Mod_nextRow_42, e_Mod_nextRow_45, e_Mod_nextRow_46, e_Mod_nextRow_47, e_Mod_nextRow_48, e_Mod_nextRow_51, e_Mod_nextRow_52, e_Mod_nextRow_53, e_Mod_nextRow_56, e_Mod_nextRow_59, e_Mod_nextRow_62, e_Mod_nextRow_63, e_Mod_nextRow_66, e_Mod_nextRow_67, e_Mod_nextRow_68, e_Mod_nextRow_70, e_Mod_nextRow_71, e_Mod_nextRow_74, e_Mod_nextRow_75, e_Mod_nextRow_76, e_Mod_nextRow_79, e_Mod_nextRow_80, e_Mod_nextRow_81, e_Mod_nextRow_82, e_Mod_nextRow_83, e_Mod_nextRow_86, e_Mod_nextRow_87, e_Mod_nextRow_89, e_Mod_nextRow_90, e_Mod_nextRow_91, e_Mod_nextRow_92, e_Mod_nextRow_93, e_Mod_nextRow_95, e_Mod_nextRow_96, e_Mod_nextRow_97, e_Mod_nextRow_98, e_Mod_nextRow_102, e_Mod_nextRow_104, e_Mod_nextRow_107, e_Mod_nextRow_108, e_Mod_nextRow_111, e_Mod_nextRow_113, e_Mod_nextRow_114, e_Mod_nextRow_116, e_Mod_nextRow_117, e_Mod_nextRow_120, e_Mod_nextRow_122, e_Mod_nextRow_123, e_Mod_nextRow_126, e_Mod_nextRow_128, e_Mod_nextRow_129, e_Mod_nextRow_130, e_Mod_nextRow_131, e_Mod_nextRow_134, e_Mod_nextRow_136, e_Mod_nextRow_138, e_Mod_nextRow_139, e_Mod_nextRow_142, e_Mod_nextRow_145, e_Mod_nextRow_148, e_Mod_nextRow_149]
    rw [if_pos (by omega)]; rfl
  | succ p ih =>
    intro hp
    have e1 := ih (by omega)
    have t1 : (((p + 1 : Nat) : Int) - 1).toNat = p := by omega
    have t2 : (((p + 1 : Nat) : Int) - 1 + 1).toNat = p + 1 := by omega
    have t3 : ((p + 1 : Nat) : Int) - 1 + -1 = (p : Int) - 1 := by omega
    have r1 := hw p (by omega)
    have r2 := hw (p + 1) (by omega)
    have ep : pv w (p + 1) = if w (p + 1) < w p then pv w p else p + 1 := rfl
    rw [e_Mod_nextRow_4, ep]
    simp (disch := omega) only [e_Mod_nextRow_0, e_Mod_nextRow_1, e_Mod_nextRow_2, e_Mod_nextRow_3, e_Mod_nextRow_5, e_Mod_nextRow_8, e_Mod_nextRow_9, e_Mod_nextRow_12, e_Mod_nextRow_13, e_Mod_nextRow_14, e_Mod_nextRow_15, e_Mod_nextRow_18, e_Mod_nextRow_19, e_Mod_nextRow_20, e_Mod_nextRow_21, e_Mod_nextRow_22, e_Mod_nextRow_25, e_Mod_nextRow_28, e_Mod_nextRow_32, e_Mod_nextRow_35, e_Mod_nextRow_36, e_Mod_nextRow_37, e_Mod_nextRow_38, e_Mod_nextRow_39, e_Mod_nextRow_40, e_Mod_nextRow_42, e_Mod_nextRow_45, e_Mod_nextRow_46, e_Mod_nextRow_47, e_Mod_nextRow_48, e_Mod_nextRow_51, e_Mod_nextRow_52, e_Mod_nextRow_53, e_Mod_nextRow_56, e_Mod_nextRow_59, e_Mod_nextRow_62, e_Mod_nextRow_63, e_Mod_nextRow_66, e_Mod_nextRow_67, e_Mod_nextRow_68, e_Mod_nextRow_70, e_Mod_nextRow_71, e_Mod_nextRow_74, e_Mod_nextRow_75, e_Mod_nextRow_76, e_Mod_nextRow_79, e_Mod_nextRow_80, e_Mod_nextRow_81, e_Mod_nextRow_82, e_Mod_nextRow_83, e_Mod_nextRow_86, e_Mod_nextRow_87, e_Mod_nextRow_89, e_Mod_nextRow_90, e_Mod_nextRow_91, e_Mod_nextRow_92, e_Mod_nextRow_93, e_Mod_nextRow_95, e_Mod_nextRow_96, e_Mod_nextRow_97, e_Mod_nextRow_98, e_Mod_nextRow_102, e_Mod_nextRow_104, e_Mod_nextRow_107, e_Mod_nextRow_108, e_Mod_nextRow_111, e_Mod_nextRow_113, e_Mod_nextRow_114, e_Mod_nextRow_116, e_Mod_nextRow_117, e_Mod_nextRow_120, e_Mod_nextRow_122, e_Mod_nextRow_123, e_Mod_nextRow_126, e_Mod_nextRow_128, e_Mod_nextRow_129, e_Mod_nextRow_130, e_Mod_nextRow_131, e_Mod_nextRow_134, e_Mod_nextRow_136, e_Mod_nextRow_138, e_Mod_nextRow_139, e_Mod_nextRow_142, e_Mod_nextRow_145, e_Mod_nextRow_148, e_Mod_nextRow_149, alk_in, ask_in, blk_in, bsk_in, qlk_in, ack_in, rcv_in, rcA_in, bk_i, bk_l, bk_v, hS_same, hS_ne, hS_hS, hS_2, am_10, am_01, am_00, if_true, if_false, gf_12_0, pf_12_0, gf_12_1, pf_12_1, gf_12_2, pf_12_2, gf_12_3, pf_12_3, gf_12_4, pf_12_4, gf_12_5, pf_12_5, gf_12_6, pf_12_6, gf_12_7, pf_12_7, gf_12_8, pf_12_8, gf_12_9, pf_12_9, gf_12_10, pf_12_10, gf_12_11, pf_12_11, gf_12_12, pf_12_12, gf_12_13, pf_12_13, gf_12_14, pf_12_14, gf_12_15, pf_12_15, gf_12_16, pf_12_16, gf_12_17, pf_12_17, gf_12_18, pf_12_18, gf_12_19, pf_12_19, gf_12_20, pf_12_20, o, W, t1, t2, t3]
    rw [if_neg (by omega)]
    by_cases q : w (p + 1) < w p
    · rw [if_pos q]
      first
      | rw [if_pos q]; exact e1
      | rw [if_neg (by omega)]; exact e1
    · rw [if_neg q]
      first
      | rw [if_neg q]
      | rw [if_pos (by omega)]
theorem lm_par (o : MoA h x0 x2 x7 x11 x12 x13 x14 x15) (W : h.1 133 = cI 0 6 w) (hw : ∀ j, j < 6 → -100 ≤ w j ∧ w j ≤ 100) {i : Nat} (hi : ¬ w (i + 1) < w i) {l1 l4 l5 l6 : am_V} : ∀ d : Nat, i + 1 + d ≤ 5 → gv mMod_nextRow 41 [vR 120, l1, vI (i : Int), vI ((i + 1 + d : Nat) : Int), l4, l5, l6] [] h = gv mMod_nextRow 62 [vR 120, l1, vI (i : Int), vI ((pq w (w i) (i + 1 + d) : Nat) : Int), l4, l5, l6] [] h := by
  unfold MoA at o
  intro d
  induction d with
  | zero =>
    intro hd
    have r1 := hw i (by omega)
    have r2 := hw (i + 1) (by omega)
    have ep : pq w (w i) (i + 1 + 0) = i + 1 := by
      show (if w (i + 1) < w i then pq w (w i) i else i + 1) = i + 1
      rw [if_neg hi]
    rw [e_Mod_nextRow_41, ep]
    simp (disch := omega) only [e_Mod_nextRow_0, e_Mod_nextRow_1, e_Mod_nextRow_2, e_Mod_nextRow_3, e_Mod_nextRow_5, e_Mod_nextRow_8, e_Mod_nextRow_9, e_Mod_nextRow_12, e_Mod_nextRow_13, e_Mod_nextRow_14, e_Mod_nextRow_15, e_Mod_nextRow_18, e_Mod_nextRow_19, e_Mod_nextRow_20, e_Mod_nextRow_21, e_Mod_nextRow_22, e_Mod_nextRow_25, e_Mod_nextRow_28, e_Mod_nextRow_32, e_Mod_nextRow_35, e_Mod_nextRow_36, e_Mod_nextRow_37, e_Mod_nextRow_38, e_Mod_nextRow_39, e_Mod_nextRow_40, e_Mod_nextRow_42, e_Mod_nextRow_45, e_Mod_nextRow_46, e_Mod_nextRow_47, e_Mod_nextRow_48, e_Mod_nextRow_51, e_Mod_nextRow_52, e_Mod_nextRow_53, e_Mod_nextRow_56, e_Mod_nextRow_59, e_Mod_nextRow_63, e_Mod_nextRow_66, e_Mod_nextRow_67, e_Mod_nextRow_68, e_Mod_nextRow_70, e_Mod_nextRow_71, e_Mod_nextRow_74, e_Mod_nextRow_75, e_Mod_nextRow_76, e_Mod_nextRow_79, e_Mod_nextRow_80, e_Mod_nextRow_81, e_Mod_nextRow_82, e_Mod_nextRow_83, e_Mod_nextRow_86, e_Mod_nextRow_87, e_Mod_nextRow_89, e_Mod_nextRow_90, e_Mod_nextRow_91, e_Mod_nextRow_92, e_Mod_nextRow_93, e_Mod_nextRow_95, e_Mod_nextRow_96, e_Mod_nextRow_97, e_Mod_nextRow_98, e_Mod_nextRow_102, e_Mod_nextRow_104, e_Mod_nextRow_107, e_Mod_nextRow_108, e_Mod_nextRow_111, e_Mod_nextRow_113, e_Mod_nextRow_114, e_Mod_nextRow_116, e_Mod_nextRow_117, e_Mod_nextRow_120, e_Mod_nextRow_122, e_Mod_nextRow_123, e_Mod_nextRow_126, e_Mod_nextRow_128, e_Mod_nextRow_129, e_Mod_nextRow_130, e_Mod_nextRow_131, e_Mod_nextRow_134, e_Mod_nextRow_136, e_Mod_nextRow_138, e_Mod_nextRow_139, e_Mod_nextRow_142, e_Mod_nextRow_145, e_Mod_nextRow_148, e_Mod_nextRow_149, alk_in, ask_in, blk_in, bsk_in, qlk_in, ack_in, rcv_in, rcA_in, bk_i, bk_l, bk_v, hS_same, hS_ne, hS_hS, hS_2, am_10, am_01, am_00, if_true, if_false, gf_12_0, pf_12_0, gf_12_1, pf_12_1, gf_12_2, pf_12_2, gf_12_3, pf_12_3, gf_12_4, pf_12_4, gf_12_5, pf_12_5, gf_12_6, pf_12_6, gf_12_7, pf_12_7, gf_12_8, pf_12_8, gf_12_9, pf_12_9, gf_12_10, pf_12_10, gf_12_11, pf_12_11, gf_12_12, pf_12_12, gf_12_13, pf_12_13, gf_12_14, pf_12_14, gf_12_15, pf_12_15, gf_12_16, pf_12_16, gf_12_17, pf_12_17, gf_12_18, pf_12_18, gf_12_19, pf_12_19, gf_12_20, pf_12_20, o, W, Int.toNat_natCast, Nat.add_zero]
    first
    | rw [if_neg hi]
    | rw [if_pos (by omega)]
  | succ d ih =>
    intro hd
    have e1 := ih (by omega)
    have r1 := hw i (by omega)
    have r2 := hw (i + 1 + d + 1) (by omega)
    have r3 := hw (i + 1 + (d + 1)) (by omega)
    have ep : pq w (w i) (i + 1 + (d + 1)) = if w (i + 1 + d + 1) < w i then pq w (w i) (i + 1 + d) else i + 1 + d + 1 := rfl
    have t3 : ((i + 1 + (d + 1) : Nat) : Int) + -1 = ((i + 1 + d : Nat) : Int) := by omega
    have t4 : i + 1 + (d + 1) = i + 1 + d + 1 := by omega
    rw [e_Mod_nextRow_41, ep]
    simp (disch := omega) only [e_Mod_nextRow_0, e_Mod_nextRow_1, e_Mod_nextRow_2, e_Mod_nextRow_3, e_Mod_nextRow_5, e_Mod_nextRow_8, e_Mod_nextRow_9, e_Mod_nextRow_12, e_Mod_nextRow_13, e_Mod_nextRow_14, e_Mod_nextRow_15, e_Mod_nextRow_18, e_Mod_nextRow_19, e_Mod_nextRow_20, e_Mod_nextRow_21, e_Mod_nextRow_22, e_Mod_nextRow_25, e_Mod_nextRow_28, e_Mod_nextRow_32, e_Mod_nextRow_35, e_Mod_nextRow_36, e_Mod_nextRow_37, e_Mod_nextRow_38, e_Mod_nextRow_39, e_Mod_nextRow_40, e_Mod_nextRow_42, e_Mod_nextRow_45, e_Mod_nextRow_46, e_Mod_nextRow_47, e_Mod_nextRow_48, e_Mod_nextRow_51, e_Mod_nextRow_52, e_Mod_nextRow_53, e_Mod_nextRow_56, e_Mod_nextRow_59, e_Mod_nextRow_63, e_Mod_nextRow_66, e_Mod_nextRow_67, e_Mod_nextRow_68, e_Mod_nextRow_70, e_Mod_nextRow_71, e_Mod_nextRow_74, e_Mod_nextRow_75, e_Mod_nextRow_76, e_Mod_nextRow_79, e_Mod_nextRow_80, e_Mod_nextRow_81, e_Mod_nextRow_82, e_Mod_nextRow_83, e_Mod_nextRow_86, e_Mod_nextRow_87, e_Mod_nextRow_89, e_Mod_nextRow_90, e_Mod_nextRow_91, e_Mod_nextRow_92, e_Mod_nextRow_93, e_Mod_nextRow_95, e_Mod_nextRow_96, e_Mod_nextRow_97, e_Mod_nextRow_98, e_Mod_nextRow_102, e_Mod_nextRow_104, e_Mod_nextRow_107, e_Mod_nextRow_108, e_Mod_nextRow_111, e_Mod_nextRow_113, e_Mod_nextRow_114, e_Mod_nextRow_116, e_Mod_nextRow_117, e_Mod_nextRow_120, e_Mod_nextRow_122, e_Mod_nextRow_123, e_Mod_nextRow_126, e_Mod_nextRow_128, e_Mod_nextRow_129, e_Mod_nextRow_130, e_Mod_nextRow_131, e_Mod_nextRow_134, e_Mod_nextRow_136, e_Mod_nextRow_138, e_Mod_nextRow_139, e_Mod_nextRow_142, e_Mod_nextRow_145, e_Mod_nextRow_148, e_Mod_nextRow_149, alk_in, ask_in, blk_in, bsk_in, qlk_in, ack_in, rcv_in, rcA_in, bk_i, bk_l, bk_v, hS_same, hS_ne, hS_hS, hS_2, am_10, am_01, am_00, if_true, if_false, gf_12_0, pf_12_0, gf_12_1, pf_12_1, gf_12_2, pf_12_2, gf_12_3, pf_12_3, gf_12_4, pf_12_4, gf_12_5, pf_12_5, gf_12_6, pf_12_6, gf_12_7, pf_12_7, gf_12_8, pf_12_8, gf_12_9, pf_12_9, gf_12_10, pf_12_10, gf_12_11, pf_12_11, gf_12_12, pf_12_12, gf_12_13, pf_12_13, gf_12_14, pf_12_14, gf_12_15, pf_12_15, gf_12_16, pf_12_16, gf_12_17, pf_12_17, gf_12_18, pf_12_18, gf_12_19, pf_12_19, gf_12_20, pf_12_20, o, W, Int.toNat_natCast, t3]
    rw [t4]
    by_cases q : w (i + 1 + d + 1) < w i
    · rw [if_pos q]
      first
      | rw [if_pos q]; exact e1
      | rw [if_neg (by omega)]; exact e1
    · rw [if_neg q]
      first
      | rw [if_neg q]
      | rw [if_pos (by omega)]
theorem lm_rev {l1 l2 l3 : am_V} : ∀ (f a b : Nat) (h : am_H) (w : Nat → Int) (l4 : am_V), MoA h x0 x2 x7 x11 x12 x13 x14 x15 → h.1 133 = cI 0 6 w → (a ≤ 6 ∧ b ≤ 5) → b ≤ a + 2 * f → ∃ h', gv mMod_nextRow 100 [vR 120, l1, l2, l3, l4, vI (a : Int), vI (b : Int)] [] h = some (some (vI 1), h') ∧ h'.1 133 = cI 0 6 (rv w a b f) ∧ FE [133] h h' := by
  intro f
  induction f with
  | zero =>
    intro a b h w l4 o W hb hf
    refine ⟨h, ?_, W, FE.rf⟩
    rw [e_Mod_nextRow_100]
    simp (disch := omega) only [e_Mod_nextRow_0, e_Mod_nextRow_1, e_Mod_nextRow_2, e_Mod_nextRow_3, e_Mod_nextRow_5, e_Mod_nextRow_8, e_Mod_nextRow_9, e_Mod_nextRow_12, e_Mod_nextRow_13, e_Mod_nextRow_14, e_Mod_nextRow_15, e_Mod_nextRow_18, e_Mod_nextRow_19, e_Mod_nextRow_20, e_Mod_nextRow_21, e_Mod_nextRow_22, e_Mod_nextRow_25, e_Mod_nextRow_28, e_Mod_nextRow_32, e_Mod_nextRow_35, e_Mod_nextRow_36, e_Mod_nextRow_37, e_Mod_nextRow_38, e_Mod_nextRow_39, e_Mod_nextRow_40, e_Mod_nextRow_42, e_Mod_nextRow_45, e_Mod_nextRow_46, e_Mod_nextRow_47, e_Mod_nextRow_48, e_Mod_nextRow_51, e_Mod_nextRow_52, e_Mod_nextRow_53, e_Mod_nextRow_56, e_Mod_nextRow_59, e_Mod_nextRow_63, e_Mod_nextRow_66, e_Mod_nextRow_67, e_Mod_nextRow_68, e_Mod_nextRow_70, e_Mod_nextRow_71, e_Mod_nextRow_74, e_Mod_nextRow_75, e_Mod_nextRow_76, e_Mod_nextRow_79, e_Mod_nextRow_80, e_Mod_nextRow_81, e_Mod_nextRow_82, e_Mod_nextRow_83, e_Mod_nextRow_86, e_Mod_nextRow_87, e_Mod_nextRow_89, e_Mod_nextRow_90, e_Mod_nextRow_91, e_Mod_nextRow_92, e_Mod_nextRow_93, e_Mod_nextRow_95, e_Mod_nextRow_96, e_Mod_nextRow_97, e_Mod_nextRow_98, e_Mod_nextRow_102, e_Mod_nextRow_104, e_Mod_nextRow_108, e_Mod_nextRow_111, e_Mod_nextRow_113, e_Mod_nextRow_114, e_Mod_nextRow_116, e_Mod_nextRow_117, e_Mod_nextRow_120, e_Mod_nextRow_122, e_Mod_nextRow_123, e_Mod_nextRow_126, e_Mod_nextRow_128, e_Mod_nextRow_129, e_Mod_nextRow_130, e_Mod_nextRow_131, e_Mod_nextRow_134, e_Mod_nextRow_136, e_Mod_nextRow_138, e_Mod_nextRow_139, e_Mod_nextRow_142, e_Mod_nextRow_145, e_Mod_nextRow_148, e_Mod_nextRow_149]
    rw [if_neg (by omega)]
  | succ f ih =>
    intro a b h w l4 o W hb hf
    have er : rv w a b (f + 1) = if a < b then rv (sw w a b) (a + 1) (b - 1) f else w := rfl
    rw [er]
    by_cases q : a < b
    · rw [if_pos q]
      have f1 : FE [133] h (hS h 133 (cI 0 6 (sw w a b))) := FE.st (by decide)
      obtain ⟨h2, e2, W2, f2⟩ := ih (a + 1) (b - 1) _ (sw w a b) (vI (w a)) (f1.at o (by decide)) hS_same (by omega) (by omega)
      refine ⟨h2, ?_, W2, f1.tr f2⟩
      unfold MoA at o
      have t3 : (b : Int) + -1 = ((b - 1 : Nat) : Int) := by omega
      rw [e_Mod_nextRow_100, ← e2]
      simp (disch := omega) only [e_Mod_nextRow_0, e_Mod_nextRow_1, e_Mod_nextRow_2, e_Mod_nextRow_3, e_Mod_nextRow_5, e_Mod_nextRow_8, e_Mod_nextRow_9, e_Mod_nextRow_12, e_Mod_nextRow_13, e_Mod_nextRow_14, e_Mod_nextRow_15, e_Mod_nextRow_18, e_Mod_nextRow_19, e_Mod_nextRow_20, e_Mod_nextRow_21, e_Mod_nextRow_22, e_Mod_nextRow_25, e_Mod_nextRow_28, e_Mod_nextRow_32, e_Mod_nextRow_35, e_Mod_nextRow_36, e_Mod_nextRow_37, e_Mod_nextRow_38, e_Mod_nextRow_39, e_Mod_nextRow_40, e_Mod_nextRow_42, e_Mod_nextRow_45, e_Mod_nextRow_46, e_Mod_nextRow_47, e_Mod_nextRow_48, e_Mod_nextRow_51, e_Mod_nextRow_52, e_Mod_nextRow_53, e_Mod_nextRow_56, e_Mod_nextRow_59, e_Mod_nextRow_63, e_Mod_nextRow_66, e_Mod_nextRow_67, e_Mod_nextRow_68, e_Mod_nextRow_70, e_Mod_nextRow_71, e_Mod_nextRow_74, e_Mod_nextRow_75, e_Mod_nextRow_76, e_Mod_nextRow_79, e_Mod_nextRow_80, e_Mod_nextRow_81, e_Mod_nextRow_82, e_Mod_nextRow_83, e_Mod_nextRow_86, e_Mod_nextRow_87, e_Mod_nextRow_89, e_Mod_nextRow_90, e_Mod_nextRow_91, e_Mod_nextRow_92, e_Mod_nextRow_93, e_Mod_nextRow_95, e_Mod_nextRow_96, e_Mod_nextRow_97, e_Mod_nextRow_98, e_Mod_nextRow_102, e_Mod_nextRow_104, e_Mod_nextRow_107, e_Mod_nextRow_108, e_Mod_nextRow_111, e_Mod_nextRow_113, e_Mod_nextRow_114, e_Mod_nextRow_116, e_Mod_nextRow_117, e_Mod_nextRow_120, e_Mod_nextRow_122, e_Mod_nextRow_123, e_Mod_nextRow_126, e_Mod_nextRow_128, e_Mod_nextRow_129, e_Mod_nextRow_130, e_Mod_nextRow_131, e_Mod_nextRow_134, e_Mod_nextRow_136, e_Mod_nextRow_138, e_Mod_nextRow_139, e_Mod_nextRow_142, e_Mod_nextRow_145, e_Mod_nextRow_149, alk_in, ask_in, blk_in, bsk_in, qlk_in, ack_in, rcv_in, rcA_in, bk_i, bk_l, bk_v, hS_same, hS_ne, hS_hS, hS_2, am_10, am_01, am_00, if_true, if_false, gf_12_0, pf_12_0, gf_12_1, pf_12_1, gf_12_2, pf_12_2, gf_12_3, pf_12_3, gf_12_4, pf_12_4, gf_12_5, pf_12_5, gf_12_6, pf_12_6, gf_12_7, pf_12_7, gf_12_8, pf_12_8, gf_12_9, pf_12_9, gf_12_10, pf_12_10, gf_12_11, pf_12_11, gf_12_12, pf_12_12, gf_12_13, pf_12_13, gf_12_14, pf_12_14, gf_12_15, pf_12_15, gf_12_16, pf_12_16, gf_12_17, pf_12_17, gf_12_18, pf_12_18, gf_12_19, pf_12_19, gf_12_20, pf_12_20, o, W, Int.toNat_natCast, t3]
      rw [if_pos (by omega)]; rfl
    · rw [if_neg q]
      refine ⟨h, ?_, W, FE.rf⟩
      rw [e_Mod_nextRow_100]
      simp (disch := omega) only [e_Mod_nextRow_0, e_Mod_nextRow_1, e_Mod_nextRow_2, e_Mod_nextRow_3, e_Mod_nextRow_5, e_Mod_nextRow_8, e_Mod_nextRow_9, e_Mod_nextRow_12, e_Mod_nextRow_13, e_Mod_nextRow_14, e_Mod_nextRow_15, e_Mod_nextRow_18, e_Mod_nextRow_19, e_Mod_nextRow_20, e_Mod_nextRow_21, e_Mod_nextRow_22, e_Mod_nextRow_25, e_Mod_nextRow_28, e_Mod_nextRow_32, e_Mod_nextRow_35, e_Mod_nextRow_36, e_Mod_nextRow_37, e_Mod_nextRow_38, e_Mod_nextRow_39, e_Mod_nextRow_40, e_Mod_nextRow_42, e_Mod_nextRow_45, e_Mod_nextRow_46, e_Mod_nextRow_47, e_Mod_nextRow_48, e_Mod_nextRow_51, e_Mod_nextRow_52, e_Mod_nextRow_53, e_Mod_nextRow_56, e_Mod_nextRow_59, e_Mod_nextRow_63, e_Mod_nextRow_66, e_Mod_nextRow_67, e_Mod_nextRow_68, e_Mod_nextRow_70, e_Mod_nextRow_71, e_Mod_nextRow_74, e_Mod_nextRow_75, e_Mod_nextRow_76, e_Mod_nextRow_79, e_Mod_nextRow_80, e_Mod_nextRow_81, e_Mod_nextRow_82, e_Mod_nextRow_83, e_Mod_nextRow_86, e_Mod_nextRow_87, e_Mod_nextRow_89, e_Mod_nextRow_90, e_Mod_nextRow_91, e_Mod_nextRow_92, e_Mod_nextRow_93, e_Mod_nextRow_95, e_Mod_nextRow_96, e_Mod_nextRow_97, e_Mod_nextRow_98, e_Mod_nextRow_102, e_Mod_nextRow_104, e_Mod_nextRow_108, e_Mod_nextRow_111, e_Mod_nextRow_113, e_Mod_nextRow_114, e_Mod_nextRow_116, e_Mod_nextRow_117, e_Mod_nextRow_120, e_Mod_nextRow_122, e_Mod_nextRow_123, e_Mod_nextRow_126, e_Mod_nextRow_128, e_Mod_nextRow_129, e_Mod_nextRow_130, e_Mod_nextRow_131, e_Mod_nextRow_134, e_Mod_nextRow_136, e_Mod_nextRow_138, e_Mod_nextRow_139, e_Mod_nextRow_142, e_Mod_nextRow_145, e_Mod_nextRow_148, e_Mod_nextRow_149]
      rw [if_neg (by omega)]
theorem q_next_row (o : MoA h x0 x2 x7 x11 x12 x13 x14 x15) (hk : k ≤ 6) (W : h.1 133 = cI 0 6 w) (hw : ∀ j, j < 6 → -100 ≤ w j ∧ w j ≤ 100) : ∃ h', ev mMod_nextRow [vR 120, vI (k : Int)] h = some (some (vI (match nxt k w with | none => 0 | some _ => 1)), h') ∧ h'.1 133 = cI 0 6 (match nxt k w with | none => w | some g => g) ∧ FE [133] h h' := by
  have o' := o
  unfold MoA at o
  unfold nxt
  have pl := pv_le w (k - 1)
  have st : gv mMod_nextRow 0 [vR 120, vI (k : Int), vU, vU, vU, vU, vU] [] h = gv mMod_nextRow 31 [vR 120, vI (k : Int), vI (if k = 0 then -2 else ((pv w (k - 1) : Nat) : Int) - 1), vU, vU, vU, vU] [] h := by
    by_cases q : k = 0
    · subst q
      rw [if_pos rfl]
      simp (disch := omega) only [e_Mod_nextRow_0, e_Mod_nextRow_1, e_Mod_nextRow_2, e_Mod_nextRow_3, alk_in, ask_in, blk_in, bsk_in, qlk_in, ack_in, rcv_in, rcA_in, bk_i, bk_l, bk_v, hS_same, hS_ne, hS_hS, hS_2, am_10, am_01, am_00, if_true, if_false]
      rw [e_Mod_nextRow_4]
      simp (disch := omega) only [e_Mod_nextRow_5]
      rw [if_pos (by omega)]; rfl
    · rw [if_neg q]
      have e := lm_piv o' W hw (l1 := vI (k : Int)) (l3 := vU) (l4 := vU) (l5 := vU) (l6 := vU) (k - 1) (by omega)
      rw [← e]
      simp (disch := omega) only [e_Mod_nextRow_0, e_Mod_nextRow_1, e_Mod_nextRow_2, e_Mod_nextRow_3, alk_in, ask_in, blk_in, bsk_in, qlk_in, ack_in, rcv_in, rcA_in, bk_i, bk_l, bk_v, hS_same, hS_ne, hS_hS, hS_2, am_10, am_01, am_00, if_true, if_false]
      rw [show (k : Int) - 2 = ((k - 1 : Nat) : Int) - 1 by omega]
  rw [ev_Mod_nextRow, st]
  cases e : pv w (k - 1) with
  | zero =>
    refine ⟨h, ?_, W, FE.rf⟩
    by_cases q : k = 0
    · rw [if_pos q]
      simp (disch := omega) only [e_Mod_nextRow_31, e_Mod_nextRow_32, e_Mod_nextRow_35, e_Mod_nextRow_36, alk_in, ask_in, blk_in, bsk_in, qlk_in, ack_in, rcv_in, rcA_in, bk_i, bk_l, bk_v, hS_same, hS_ne, hS_hS, hS_2, am_10, am_01, am_00, if_true, if_false]
      rw [if_pos (by omega)]
    · rw [if_neg q]
      simp (disch := omega) only [e_Mod_nextRow_31, e_Mod_nextRow_32, e_Mod_nextRow_35, e_Mod_nextRow_36, alk_in, ask_in, blk_in, bsk_in, qlk_in, ack_in, rcv_in, rcA_in, bk_i, bk_l, bk_v, hS_same, hS_ne, hS_hS, hS_2, am_10, am_01, am_00, if_true, if_false]
      rw [if_pos (by omega)]
  | succ i =>
    have at' := pv_at w (k - 1) i e
    rw [e] at pl
    rw [if_neg (by omega)]
    have pr := pq_r w i at' (k - 1 - (i + 1))
    rw [show i + 1 + (k - 1 - (i + 1)) = k - 1 by omega] at pr
    have e2 := lm_par o' W hw at' (l1 := vI (k : Int)) (l4 := vU) (l5 := vU) (l6 := vU) (k - 1 - (i + 1)) (by omega)
    rw [show i + 1 + (k - 1 - (i + 1)) = k - 1 by omega] at e2
    have f1 : FE [133] h (hS h 133 (cI 0 6 (sw w i (pq w (w i) (k - 1))))) := FE.st (by decide)
    obtain ⟨h3, e3, W3, f3⟩ := lm_rev (l1 := vI (k : Int)) (l2 := vI (i : Int)) (l3 := vI ((pq w (w i) (k - 1) : Nat) : Int)) 6 (i + 1) (k - 1) _ _ (vI (w i)) (f1.at o' (by decide)) hS_same (by omega) (by omega)
    refine ⟨h3, ?_, W3, f1.tr f3⟩
    have t1 : ((i + 1 : Nat) : Int) - 1 = (i : Int) := by omega
    have t2 : (k : Int) - 1 = ((k - 1 : Nat) : Int) := by omega
    rw [t1]
    simp (disch := omega) only [e_Mod_nextRow_31, e_Mod_nextRow_32, e_Mod_nextRow_35, e_Mod_nextRow_36, e_Mod_nextRow_37, e_Mod_nextRow_38, e_Mod_nextRow_39, e_Mod_nextRow_40, alk_in, ask_in, blk_in, bsk_in, qlk_in, ack_in, rcv_in, rcA_in, bk_i, bk_l, bk_v, hS_same, hS_ne, hS_hS, hS_2, am_10, am_01, am_00, if_true, if_false, gf_12_0, pf_12_0, gf_12_1, pf_12_1, gf_12_2, pf_12_2, gf_12_3, pf_12_3, gf_12_4, pf_12_4, gf_12_5, pf_12_5, gf_12_6, pf_12_6, gf_12_7, pf_12_7, gf_12_8, pf_12_8, gf_12_9, pf_12_9, gf_12_10, pf_12_10, gf_12_11, pf_12_11, gf_12_12, pf_12_12, gf_12_13, pf_12_13, gf_12_14, pf_12_14, gf_12_15, pf_12_15, gf_12_16, pf_12_16, gf_12_17, pf_12_17, gf_12_18, pf_12_18, gf_12_19, pf_12_19, gf_12_20, pf_12_20, o, t2]
    rw [if_neg (by omega)]
    refine Eq.trans e2 ?_
    rw [← e3]
    simp (disch := omega) only [e_Mod_nextRow_62, e_Mod_nextRow_63, e_Mod_nextRow_66, e_Mod_nextRow_67, e_Mod_nextRow_68, e_Mod_nextRow_70, e_Mod_nextRow_71, e_Mod_nextRow_74, e_Mod_nextRow_75, e_Mod_nextRow_76, e_Mod_nextRow_79, e_Mod_nextRow_80, e_Mod_nextRow_81, e_Mod_nextRow_82, e_Mod_nextRow_83, e_Mod_nextRow_86, e_Mod_nextRow_87, e_Mod_nextRow_89, e_Mod_nextRow_90, e_Mod_nextRow_91, e_Mod_nextRow_92, e_Mod_nextRow_93, e_Mod_nextRow_95, e_Mod_nextRow_96, e_Mod_nextRow_97, e_Mod_nextRow_98, alk_in, ask_in, blk_in, bsk_in, qlk_in, ack_in, rcv_in, rcA_in, bk_i, bk_l, bk_v, hS_same, hS_ne, hS_hS, hS_2, am_10, am_01, am_00, if_true, if_false, gf_12_0, pf_12_0, gf_12_1, pf_12_1, gf_12_2, pf_12_2, gf_12_3, pf_12_3, gf_12_4, pf_12_4, gf_12_5, pf_12_5, gf_12_6, pf_12_6, gf_12_7, pf_12_7, gf_12_8, pf_12_8, gf_12_9, pf_12_9, gf_12_10, pf_12_10, gf_12_11, pf_12_11, gf_12_12, pf_12_12, gf_12_13, pf_12_13, gf_12_14, pf_12_14, gf_12_15, pf_12_15, gf_12_16, pf_12_16, gf_12_17, pf_12_17, gf_12_18, pf_12_18, gf_12_19, pf_12_19, gf_12_20, pf_12_20, o, W, Int.toNat_natCast, t2]
    rfl
end NxtM
