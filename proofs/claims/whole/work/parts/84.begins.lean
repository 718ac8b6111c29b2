/-! the model: begins, gaol -/
section BeginM
variable {x0 x2 x7 x11 x12 x13 x14 x15 : am_V}
theorem lb_told {A : Nat → Int} {l2 : am_V} : ∀ (d k : Nat) (h : am_H) (B : Nat → Int), k + d = 29 → MoA h x0 x2 x7 x11 x12 x13 x14 x15 → h.1 123 = cI 0 29 A → h.1 122 = cI 0 29 B → (∀ j, j < k → B j = A j) → ∃ h' B', gv mMod_begins 2 [vR 120, vI (k : Int), l2] [] h = gv mMod_begins 26 [vR 120, vI 29, l2] [] h' ∧ h'.1 122 = cI 0 29 B' ∧ (∀ j, j < 29 → B' j = A j) ∧ FE [122] h h' := by
  intro d
  induction d with
  | zero =>
    intro k h B hk o A1 B1 H
    have : k = 29 := by omega
    subst this
    refine ⟨h, B, ?_, B1, H, FE.rf⟩
    rw [e_Mod_begins_2]
    simp (disch := omega) only [e_Mod_begins_0, e_Mod_begins_1, e_Mod_begins_3, e_Mod_begins_5, e_Mod_begins_8, e_Mod_begins_9, e_Mod_begins_12, e_Mod_begins_13, e_Mod_begins_14, e_Mod_begins_17, e_Mod_begins_18, e_Mod_begins_19, e_Mod_begins_20, e_Mod_begins_23, e_Mod_begins_27, e_Mod_begins_30, e_Mod_begins_31, e_Mod_begins_32, e_Mod_begins_33, e_Mod_begins_34, e_Mod_begins_35, e_Mod_begins_36, e_Mod_begins_38, e_Mod_begins_41, e_Mod_begins_42, e_Mod_begins_43, e_Mod_begins_46, e_Mod_begins_47, e_Mod_begins_48, e_Mod_begins_51, e_Mod_begins_52, e_Mod_begins_55, e_Mod_begins_56, e_Mod_begins_57, e_Mod_begins_58, e_Mod_begins_61, e_Mod_begins_62, e_Mod_begins_63, e_Mod_begins_64, e_Mod_begins_65, e_Mod_begins_65b, e_Mod_begins_68, e_Mod_begins_69, e_Mod_begins_72, e_Mod_begins_74, e_Mod_begins_75, e_Mod_begins_76, e_Mod_begins_77, e_Mod_begins_80, e_Mod_begins_82, e_Mod_begins_83, e_Mod_begins_84, e_Mod_begins_87, e_Mod_begins_89, e_Mod_begins_90, e_Mod_begins_91, e_Mod_begins_92, e_Mod_begins_92b, e_Mod_begins_95, e_Mod_begins_96, e_Mod_begins_99, e_Mod_begins_101, e_Mod_begins_102, e_Mod_begins_103, e_Mod_begins_104, e_Mod_begins_107, e_Mod_begins_108, e_Mod_begins_109, e_Mod_begins_110, e_Mod_begins_113, e_Mod_begins_115, e_Mod_begins_116, e_Mod_begins_117, e_Mod_begins_118, e_Mod_begins_118b, e_Mod_begins_121, e_Mod_begins_122, e_Mod_begins_125, e_Mod_begins_127, e_Mod_begins_128, e_Mod_begins_129, e_Mod_begins_130, e_Mod_begins_133, e_Mod_begins_134, e_Mod_begins_135, e_Mod_begins_138, e_Mod_begins_141, e_Mod_begins_142, e_Mod_begins_143, e_Mod_begins_146, e_Mod_begins_147, e_Mod_begins_148, e_Mod_begins_151, e_Mod_begins_152, e_Mod_begins_155, e_Mod_begins_156, e_Mod_begins_157, e_Mod_begins_158, e_Mod_begins_159, e_Mod_begins_162, e_Mod_begins_163, e_Mod_begins_164, e_Mod_begins_165, alk_in, ask_in, blk_in, bsk_in, qlk_in, ack_in, rcv_in, rcA_in, bk_i, bk_l, bk_v, hS_same, hS_ne, hS_hS, hS_2, am_10, am_01, am_00, if_true, if_false]
    rw [if_neg (by omega)]; rfl
  | succ d ih =>
    intro k h B hk o A1 B1 H
    have f1 : FE [122] h (hS h 122 (cI 0 29 (fun j => if j = k then A k else B j))) := FE.st (by decide)
    obtain ⟨h2, B', e2, B2, H2, f2⟩ := ih (k + 1) (hS h 122 (cI 0 29 (fun j => if j = k then A k else B j))) _ (by omega) (f1.at o (by decide)) (f1.at A1 (by decide)) hS_same (fun j hj => by
      by_cases q : j = k
      · subst q; exact if_pos rfl
      · exact (if_neg q).trans (H j (by omega)))
    refine ⟨h2, B', ?_, B2, H2, f1.tr f2⟩
    unfold MoA at o
    rw [e_Mod_begins_2, ← e2]
    simp (disch := omega) only [e_Mod_begins_0, e_Mod_begins_1, e_Mod_begins_3, e_Mod_begins_5, e_Mod_begins_8, e_Mod_begins_9, e_Mod_begins_12, e_Mod_begins_13, e_Mod_begins_14, e_Mod_begins_17, e_Mod_begins_18, e_Mod_begins_19, e_Mod_begins_20, e_Mod_begins_23, e_Mod_begins_27, e_Mod_begins_30, e_Mod_begins_31, e_Mod_begins_32, e_Mod_begins_33, e_Mod_begins_34, e_Mod_begins_35, e_Mod_begins_36, e_Mod_begins_38, e_Mod_begins_41, e_Mod_begins_42, e_Mod_begins_43, e_Mod_begins_46, e_Mod_begins_47, e_Mod_begins_48, e_Mod_begins_51, e_Mod_begins_52, e_Mod_begins_55, e_Mod_begins_56, e_Mod_begins_57, e_Mod_begins_58, e_Mod_begins_61, e_Mod_begins_62, e_Mod_begins_63, e_Mod_begins_64, e_Mod_begins_65, e_Mod_begins_65b, e_Mod_begins_68, e_Mod_begins_69, e_Mod_begins_72, e_Mod_begins_74, e_Mod_begins_75, e_Mod_begins_76, e_Mod_begins_77, e_Mod_begins_80, e_Mod_begins_82, e_Mod_begins_83, e_Mod_begins_84, e_Mod_begins_87, e_Mod_begins_89, e_Mod_begins_90, e_Mod_begins_91, e_Mod_begins_92, e_Mod_begins_92b, e_Mod_begins_95, e_Mod_begins_96, e_Mod_begins_99, e_Mod_begins_101, e_Mod_begins_102, e_Mod_begins_103, e_Mod_begins_104, e_Mod_begins_107, e_Mod_begins_108, e_Mod_begins_109, e_Mod_begins_110, e_Mod_begins_113, e_Mod_begins_115, e_Mod_begins_116, e_Mod_begins_117, e_Mod_begins_118, e_Mod_begins_118b, e_Mod_begins_121, e_Mod_begins_122, e_Mod_begins_125, e_Mod_begins_127, e_Mod_begins_128, e_Mod_begins_129, e_Mod_begins_130, e_Mod_begins_133, e_Mod_begins_134, e_Mod_begins_135, e_Mod_begins_138, e_Mod_begins_141, e_Mod_begins_142, e_Mod_begins_143, e_Mod_begins_146, e_Mod_begins_147, e_Mod_begins_148, e_Mod_begins_151, e_Mod_begins_152, e_Mod_begins_155, e_Mod_begins_156, e_Mod_begins_157, e_Mod_begins_158, e_Mod_begins_159, e_Mod_begins_162, e_Mod_begins_163, e_Mod_begins_164, e_Mod_begins_165, alk_in, ask_in, blk_in, bsk_in, qlk_in, ack_in, rcv_in, rcA_in, bk_i, bk_l, bk_v, hS_same, hS_ne, hS_hS, hS_2, am_10, am_01, am_00, if_true, if_false, gf_12_0, pf_12_0, gf_12_1, pf_12_1, gf_12_2, pf_12_2, gf_12_3, pf_12_3, gf_12_4, pf_12_4, gf_12_5, pf_12_5, gf_12_6, pf_12_6, gf_12_7, pf_12_7, gf_12_8, pf_12_8, gf_12_9, pf_12_9, gf_12_10, pf_12_10, gf_12_11, pf_12_11, gf_12_12, pf_12_12, gf_12_13, pf_12_13, gf_12_14, pf_12_14, gf_12_15, pf_12_15, gf_12_16, pf_12_16, gf_12_17, pf_12_17, gf_12_18, pf_12_18, gf_12_19, pf_12_19, gf_12_20, pf_12_20, o, A1, B1, Int.toNat_natCast]
    rw [if_pos (by omega)]; rfl
theorem lb_now {B : Nat → Int} {n : Nat} (hn : n ≤ 6) (hB : B 1 = (n : Int)) : ∀ (d k : Nat) (h : am_H) (F : Nat → Int) (l2 : am_V), k + d = 6 → MoA h x0 x2 x7 x11 x12 x13 x14 x15 → h.1 122 = cI 0 29 B → h.1 124 = cI 0 19 F → F 0 = 0 → (∀ j, j < k → j < n → F (1 + j) = B (11 + j) ∧ F (7 + j) = B (17 + j) ∧ F (13 + j) = B (23 + j)) → ∃ h' F' l2', gv mMod_begins 35 [vR 120, vI (k : Int), l2] [] h = gv mMod_begins 141 [vR 120, vI 6, l2'] [] h' ∧ h'.1 124 = cI 0 19 F' ∧ F' 0 = 0 ∧ (∀ j, j < n → F' (1 + j) = B (11 + j) ∧ F' (7 + j) = B (17 + j) ∧ F' (13 + j) = B (23 + j)) ∧ FE [124] h h' := by
  intro d
  induction d with
  | zero =>
    intro k h F l2 hk o B1 F1 F0 H
    have : k = 6 := by omega
    subst this
    refine ⟨h, F, l2, ?_, F1, F0, fun j hj => H j (by omega) hj, FE.rf⟩
    rw [e_Mod_begins_35]
    simp (disch := omega) only [e_Mod_begins_0, e_Mod_begins_1, e_Mod_begins_2, e_Mod_begins_3, e_Mod_begins_5, e_Mod_begins_8, e_Mod_begins_9, e_Mod_begins_12, e_Mod_begins_13, e_Mod_begins_14, e_Mod_begins_17, e_Mod_begins_18, e_Mod_begins_19, e_Mod_begins_20, e_Mod_begins_23, e_Mod_begins_26, e_Mod_begins_27, e_Mod_begins_30, e_Mod_begins_31, e_Mod_begins_32, e_Mod_begins_33, e_Mod_begins_34, e_Mod_begins_36, e_Mod_begins_38, e_Mod_begins_41, e_Mod_begins_42, e_Mod_begins_43, e_Mod_begins_46, e_Mod_begins_47, e_Mod_begins_48, e_Mod_begins_51, e_Mod_begins_52, e_Mod_begins_55, e_Mod_begins_56, e_Mod_begins_57, e_Mod_begins_58, e_Mod_begins_61, e_Mod_begins_62, e_Mod_begins_63, e_Mod_begins_64, e_Mod_begins_65, e_Mod_begins_65b, e_Mod_begins_68, e_Mod_begins_69, e_Mod_begins_72, e_Mod_begins_74, e_Mod_begins_75, e_Mod_begins_76, e_Mod_begins_77, e_Mod_begins_80, e_Mod_begins_82, e_Mod_begins_83, e_Mod_begins_84, e_Mod_begins_87, e_Mod_begins_89, e_Mod_begins_90, e_Mod_begins_91, e_Mod_begins_92, e_Mod_begins_92b, e_Mod_begins_95, e_Mod_begins_96, e_Mod_begins_99, e_Mod_begins_101, e_Mod_begins_102, e_Mod_begins_103, e_Mod_begins_104, e_Mod_begins_107, e_Mod_begins_108, e_Mod_begins_109, e_Mod_begins_110, e_Mod_begins_113, e_Mod_begins_115, e_Mod_begins_116, e_Mod_begins_117, e_Mod_begins_118, e_Mod_begins_118b, e_Mod_begins_121, e_Mod_begins_122, e_Mod_begins_125, e_Mod_begins_127, e_Mod_begins_128, e_Mod_begins_129, e_Mod_begins_130, e_Mod_begins_133, e_Mod_begins_134, e_Mod_begins_135, e_Mod_begins_138, e_Mod_begins_142, e_Mod_begins_143, e_Mod_begins_146, e_Mod_begins_147, e_Mod_begins_148, e_Mod_begins_151, e_Mod_begins_152, e_Mod_begins_155, e_Mod_begins_156, e_Mod_begins_157, e_Mod_begins_158, e_Mod_begins_159, e_Mod_begins_162, e_Mod_begins_163, e_Mod_begins_164, e_Mod_begins_165, alk_in, ask_in, blk_in, bsk_in, qlk_in, ack_in, rcv_in, rcA_in, bk_i, bk_l, bk_v, hS_same, hS_ne, hS_hS, hS_2, am_10, am_01, am_00, if_true, if_false]
    rw [if_neg (by omega)]; rfl
  | succ d ih =>
    intro k h F l2 hk o B1 F1 F0 H
    have key : ∀ (l : am_V) (c1 c2 c3 : Int), (k < n → c1 = B (11 + k) ∧ c2 = B (17 + k) ∧ c3 = B (23 + k)) → gv mMod_begins 35 [vR 120, vI (k : Int), l2] [] h = gv mMod_begins 35 [vR 120, vI ((k + 1 : Nat) : Int), l] [] (hS h 124 (cI 0 19 (fun j => if j = 13 + k then c3 else if j = 7 + k then c2 else if j = 1 + k then c1 else F j))) → ∃ h' F' l2', gv mMod_begins 35 [vR 120, vI (k : Int), l2] [] h = gv mMod_begins 141 [vR 120, vI 6, l2'] [] h' ∧ h'.1 124 = cI 0 19 F' ∧ F' 0 = 0 ∧ (∀ j, j < n → F' (1 + j) = B (11 + j) ∧ F' (7 + j) = B (17 + j) ∧ F' (13 + j) = B (23 + j)) ∧ FE [124] h h' := by
      intro l c1 c2 c3 hc e
      have f1 : FE [124] h (hS h 124 (cI 0 19 (fun j => if j = 13 + k then c3 else if j = 7 + k then c2 else if j = 1 + k then c1 else F j))) := FE.st (by decide)
      obtain ⟨h2, F', l2', e2, F2, F3, H2, f2⟩ := ih (k + 1) (hS h 124 (cI 0 19 (fun j => if j = 13 + k then c3 else if j = 7 + k then c2 else if j = 1 + k then c1 else F j))) _ l (by omega) (f1.at o (by decide)) (f1.at B1 (by decide)) hS_same ((if_neg (by omega)).trans ((if_neg (by omega)).trans ((if_neg (by omega)).trans F0))) (fun j hj hjn => by
        by_cases q : j = k
        · subst q
          have c := hc hjn
          refine ⟨?_, ?_, ?_⟩
          · rw [if_neg (by omega), if_neg (by omega), if_pos rfl]; exact c.1
          · rw [if_neg (by omega), if_pos rfl]; exact c.2.1
          · rw [if_pos rfl]; exact c.2.2
        · have c := H j (by omega) hjn
          refine ⟨?_, ?_, ?_⟩
          · rw [if_neg (by omega), if_neg (by omega), if_neg (by omega)]; exact c.1
          · rw [if_neg (by omega), if_neg (by omega), if_neg (by omega)]; exact c.2.1
          · rw [if_neg (by omega), if_neg (by omega), if_neg (by omega)]; exact c.2.2)
      exact ⟨h2, F', l2', e.trans e2, F2, F3, H2, f1.tr f2⟩
    unfold MoA at o
    by_cases q : k < n
    · refine key (vI 1) (B (11 + k)) (B (17 + k)) (B (23 + k)) (fun _ => ⟨rfl, rfl, rfl⟩) ?_
      rw [e_Mod_begins_35]
      simp (disch := omega) only [e_Mod_begins_0, e_Mod_begins_1, e_Mod_begins_2, e_Mod_begins_3, e_Mod_begins_5, e_Mod_begins_8, e_Mod_begins_9, e_Mod_begins_12, e_Mod_begins_13, e_Mod_begins_14, e_Mod_begins_17, e_Mod_begins_18, e_Mod_begins_19, e_Mod_begins_20, e_Mod_begins_23, e_Mod_begins_26, e_Mod_begins_27, e_Mod_begins_30, e_Mod_begins_31, e_Mod_begins_32, e_Mod_begins_33, e_Mod_begins_34, e_Mod_begins_36, e_Mod_begins_38, e_Mod_begins_41, e_Mod_begins_42, e_Mod_begins_43, e_Mod_begins_46, e_Mod_begins_47, e_Mod_begins_48, e_Mod_begins_51, e_Mod_begins_52, e_Mod_begins_55, e_Mod_begins_56, e_Mod_begins_57, e_Mod_begins_58, e_Mod_begins_61, e_Mod_begins_62, e_Mod_begins_63, e_Mod_begins_64, e_Mod_begins_65, e_Mod_begins_65b, e_Mod_begins_68, e_Mod_begins_69, e_Mod_begins_72, e_Mod_begins_74, e_Mod_begins_75, e_Mod_begins_76, e_Mod_begins_77, e_Mod_begins_80, e_Mod_begins_82, e_Mod_begins_83, e_Mod_begins_84, e_Mod_begins_87, e_Mod_begins_89, e_Mod_begins_90, e_Mod_begins_91, e_Mod_begins_92, e_Mod_begins_92b, e_Mod_begins_95, e_Mod_begins_96, e_Mod_begins_99, e_Mod_begins_101, e_Mod_begins_102, e_Mod_begins_103, e_Mod_begins_104, e_Mod_begins_107, e_Mod_begins_108, e_Mod_begins_109, e_Mod_begins_110, e_Mod_begins_113, e_Mod_begins_115, e_Mod_begins_116, e_Mod_begins_117, e_Mod_begins_118, e_Mod_begins_118b, e_Mod_begins_121, e_Mod_begins_122, e_Mod_begins_125, e_Mod_begins_127, e_Mod_begins_128, e_Mod_begins_129, e_Mod_begins_130, e_Mod_begins_133, e_Mod_begins_134, e_Mod_begins_135, e_Mod_begins_138, e_Mod_begins_142, e_Mod_begins_143, e_Mod_begins_146, e_Mod_begins_147, e_Mod_begins_148, e_Mod_begins_151, e_Mod_begins_152, e_Mod_begins_155, e_Mod_begins_156, e_Mod_begins_157, e_Mod_begins_158, e_Mod_begins_159, e_Mod_begins_162, e_Mod_begins_163, e_Mod_begins_164, e_Mod_begins_165, alk_in, ask_in, blk_in, bsk_in, qlk_in, ack_in, rcv_in, rcA_in, bk_i, bk_l, bk_v, hS_same, hS_ne, hS_hS, hS_2, am_10, am_01, am_00, if_true, if_false, gf_12_0, pf_12_0, gf_12_1, pf_12_1, gf_12_2, pf_12_2, gf_12_3, pf_12_3, gf_12_4, pf_12_4, gf_12_5, pf_12_5, gf_12_6, pf_12_6, gf_12_7, pf_12_7, gf_12_8, pf_12_8, gf_12_9, pf_12_9, gf_12_10, pf_12_10, gf_12_11, pf_12_11, gf_12_12, pf_12_12, gf_12_13, pf_12_13, gf_12_14, pf_12_14, gf_12_15, pf_12_15, gf_12_16, pf_12_16, gf_12_17, pf_12_17, gf_12_18, pf_12_18, gf_12_19, pf_12_19, gf_12_20, pf_12_20, o, B1, F1, tl_1, hB, tn_1, tn_7, tn_13, tn_11, tn_17, tn_23]
      rw [if_pos (by omega), if_pos (by omega)]; rfl
    · refine key (vI 0) (-9) 0 0 (fun z => absurd z q) ?_
      rw [e_Mod_begins_35]
      simp (disch := omega) only [e_Mod_begins_0, e_Mod_begins_1, e_Mod_begins_2, e_Mod_begins_3, e_Mod_begins_5, e_Mod_begins_8, e_Mod_begins_9, e_Mod_begins_12, e_Mod_begins_13, e_Mod_begins_14, e_Mod_begins_17, e_Mod_begins_18, e_Mod_begins_19, e_Mod_begins_20, e_Mod_begins_23, e_Mod_begins_26, e_Mod_begins_27, e_Mod_begins_30, e_Mod_begins_31, e_Mod_begins_32, e_Mod_begins_33, e_Mod_begins_34, e_Mod_begins_36, e_Mod_begins_38, e_Mod_begins_41, e_Mod_begins_42, e_Mod_begins_43, e_Mod_begins_46, e_Mod_begins_47, e_Mod_begins_48, e_Mod_begins_51, e_Mod_begins_52, e_Mod_begins_55, e_Mod_begins_56, e_Mod_begins_57, e_Mod_begins_58, e_Mod_begins_61, e_Mod_begins_62, e_Mod_begins_63, e_Mod_begins_64, e_Mod_begins_65, e_Mod_begins_65b, e_Mod_begins_68, e_Mod_begins_69, e_Mod_begins_72, e_Mod_begins_74, e_Mod_begins_75, e_Mod_begins_76, e_Mod_begins_77, e_Mod_begins_80, e_Mod_begins_82, e_Mod_begins_83, e_Mod_begins_84, e_Mod_begins_87, e_Mod_begins_89, e_Mod_begins_90, e_Mod_begins_91, e_Mod_begins_92, e_Mod_begins_92b, e_Mod_begins_95, e_Mod_begins_96, e_Mod_begins_99, e_Mod_begins_101, e_Mod_begins_102, e_Mod_begins_103, e_Mod_begins_104, e_Mod_begins_107, e_Mod_begins_108, e_Mod_begins_109, e_Mod_begins_110, e_Mod_begins_113, e_Mod_begins_115, e_Mod_begins_116, e_Mod_begins_117, e_Mod_begins_118, e_Mod_begins_118b, e_Mod_begins_121, e_Mod_begins_122, e_Mod_begins_125, e_Mod_begins_127, e_Mod_begins_128, e_Mod_begins_129, e_Mod_begins_130, e_Mod_begins_133, e_Mod_begins_134, e_Mod_begins_135, e_Mod_begins_138, e_Mod_begins_142, e_Mod_begins_143, e_Mod_begins_146, e_Mod_begins_147, e_Mod_begins_148, e_Mod_begins_151, e_Mod_begins_152, e_Mod_begins_155, e_Mod_begins_156, e_Mod_begins_157, e_Mod_begins_158, e_Mod_begins_159, e_Mod_begins_162, e_Mod_begins_163, e_Mod_begins_164, e_Mod_begins_165, alk_in, ask_in, blk_in, bsk_in, qlk_in, ack_in, rcv_in, rcA_in, bk_i, bk_l, bk_v, hS_same, hS_ne, hS_hS, hS_2, am_10, am_01, am_00, if_true, if_false, gf_12_0, pf_12_0, gf_12_1, pf_12_1, gf_12_2, pf_12_2, gf_12_3, pf_12_3, gf_12_4, pf_12_4, gf_12_5, pf_12_5, gf_12_6, pf_12_6, gf_12_7, pf_12_7, gf_12_8, pf_12_8, gf_12_9, pf_12_9, gf_12_10, pf_12_10, gf_12_11, pf_12_11, gf_12_12, pf_12_12, gf_12_13, pf_12_13, gf_12_14, pf_12_14, gf_12_15, pf_12_15, gf_12_16, pf_12_16, gf_12_17, pf_12_17, gf_12_18, pf_12_18, gf_12_19, pf_12_19, gf_12_20, pf_12_20, o, B1, F1, tl_1, hB, tn_1, tn_7, tn_13, tn_11, tn_17, tn_23]
      rw [if_pos (by omega), if_neg (by omega)]; rfl
theorem m_begins {h : am_H} {A K : Nat → Int} {D : Dr} (o : MoA h x0 x2 x7 x11 x12 x13 x14 x15) (A1 : h.1 123 = cI 0 29 A) (hA : MDa A D) (hD : DrO D) (s1 : Sh h 122 29) (s2 : Sh h 124 19) (K1 : h.1 127 = cI 1 2 K) : ∃ h' B K', ev mMod_begins [vR 120] h = some (none, h') ∧ MoA h' x0 x2 (vI 0) (vI 0) x12 x13 x14 x15 ∧ RM h' D.1 D.2.1 ∧ h'.1 122 = cI 0 29 B ∧ B 3 = (D.2.2.2 : Int) ∧ h'.1 127 = cI 1 2 K' ∧ (∀ j, j < 2 → K' j = 0) ∧ FE [120, 122, 124, 127] h h' := by
  obtain ⟨⟨n, c, lq, ha⟩, ⟨t, ce, so, ye⟩, lt, it⟩ := D
  obtain ⟨hw, ht, -⟩ := hD
  obtain ⟨a0, a1, a2, a3, a4, a5⟩ := hA
  simp only at hw ht a0 a1 a2 a3 a4 a5
  have hn : n ≤ 6 := hw.1
  obtain ⟨B0, b0⟩ := s1
  obtain ⟨F0, g0⟩ := s2
  obtain ⟨h1, B, e1, B1, B2, f1⟩ := lb_told (A := A) (l2 := vU) 29 0 h B0 (by omega) o A1 b0 (fun j hj => by omega)
  have o1 := f1.at o (by decide)
  have f2 : FE [124] h1 (hS h1 124 (cI 0 19 (fun j => if j = 0 then 0 else F0 j))) := FE.st (by decide)
  obtain ⟨h3, F, l2', e3, F1, F2, F3, f3⟩ := lb_now (B := B) hn ((B2 1 (by omega)).trans a1) 6 0 (hS h1 124 (cI 0 19 (fun j => if j = 0 then 0 else F0 j))) _ vU (by omega) (f2.at o1 (by decide)) (f2.at B1 (by decide)) hS_same (if_pos rfl) (fun j hj => by omega)
  have o3 := f3.at (f2.at o1 (by decide)) (by decide)
  have K3 := f3.at (f2.at (f1.at K1 (by decide)) (by decide)) (by decide)
  have B3 := f3.at (f2.at B1 (by decide)) (by decide)
  refine ⟨hS (hS h3 120 (cO 12 [x0, vR 121, x2, vR 122, vR 123, vR 124, vR 125, vI 0, vR 126, vR 127, vR 128, vI 0, x12, x13, x14, x15, vR 129, vR 130, vR 131, vR 132, vR 133])) 127 (cI 1 2 (fun j => if j = 1 then 0 else if j = 0 then 0 else K j)), B, _, ?_, ?_, ?_, ?_, (B2 3 (by omega)).trans a3, hS_same, fun j hj => ?_, ((f1.wd (by decide)).tr (f2.wd (by decide))).tr ((f3.wd (by decide)).tr ((FE.st (by decide)).tr (FE.st (by decide))))⟩
  · have o1' := o1
    unfold MoA at o1'
    have o3' := o3
    unfold MoA at o3'
    rw [ev_Mod_begins]
    simp (disch := omega) only [e_Mod_begins_0, e_Mod_begins_1]
    refine Eq.trans e1 ?_
    simp (disch := omega) only [e_Mod_begins_26, e_Mod_begins_27, e_Mod_begins_30, e_Mod_begins_31, e_Mod_begins_32, e_Mod_begins_33, e_Mod_begins_34, alk_in, ask_in, blk_in, bsk_in, qlk_in, ack_in, rcv_in, rcA_in, bk_i, bk_l, bk_v, hS_same, hS_ne, hS_hS, hS_2, am_10, am_01, am_00, if_true, if_false, gf_12_0, pf_12_0, gf_12_1, pf_12_1, gf_12_2, pf_12_2, gf_12_3, pf_12_3, gf_12_4, pf_12_4, gf_12_5, pf_12_5, gf_12_6, pf_12_6, gf_12_7, pf_12_7, gf_12_8, pf_12_8, gf_12_9, pf_12_9, gf_12_10, pf_12_10, gf_12_11, pf_12_11, gf_12_12, pf_12_12, gf_12_13, pf_12_13, gf_12_14, pf_12_14, gf_12_15, pf_12_15, gf_12_16, pf_12_16, gf_12_17, pf_12_17, gf_12_18, pf_12_18, gf_12_19, pf_12_19, gf_12_20, pf_12_20, o1', f1.at g0 (by decide), tl_0]
    refine Eq.trans e3 ?_
    simp (disch := omega) only [e_Mod_begins_141, e_Mod_begins_142, e_Mod_begins_143, e_Mod_begins_146, e_Mod_begins_147, e_Mod_begins_148, e_Mod_begins_151, e_Mod_begins_152, e_Mod_begins_155, e_Mod_begins_156, e_Mod_begins_157, e_Mod_begins_158, e_Mod_begins_159, e_Mod_begins_162, e_Mod_begins_163, e_Mod_begins_164, e_Mod_begins_165, alk_in, ask_in, blk_in, bsk_in, qlk_in, ack_in, rcv_in, rcA_in, bk_i, bk_l, bk_v, hS_same, hS_ne, hS_hS, hS_2, am_10, am_01, am_00, if_true, if_false, gf_12_0, pf_12_0, gf_12_1, pf_12_1, gf_12_2, pf_12_2, gf_12_3, pf_12_3, gf_12_4, pf_12_4, gf_12_5, pf_12_5, gf_12_6, pf_12_6, gf_12_7, pf_12_7, gf_12_8, pf_12_8, gf_12_9, pf_12_9, gf_12_10, pf_12_10, gf_12_11, pf_12_11, gf_12_12, pf_12_12, gf_12_13, pf_12_13, gf_12_14, pf_12_14, gf_12_15, pf_12_15, gf_12_16, pf_12_16, gf_12_17, pf_12_17, gf_12_18, pf_12_18, gf_12_19, pf_12_19, gf_12_20, pf_12_20, o3', K3, tl_0, tl_1]
  · unfold MoA; rw [hS_ne (by omega)]; exact hS_same
  · refine ⟨x0, x2, vI 0, vI 0, x12, x13, x14, x15, B, F, ?_, ?_, ?_, (B2 0 (by omega)).trans a0, (B2 1 (by omega)).trans a1, (B2 2 (by omega)).trans a2, F2.trans ht.symm, fun j hj => ?_⟩
    · unfold MoA; rw [hS_ne (by omega)]; exact hS_same
    · rw [hS_ne (by omega), hS_ne (by omega)]; exact B3
    · rw [hS_ne (by omega), hS_ne (by omega)]; exact F1
    · simp only at hj
      have y := a5 j hj
      have z := F3 j hj
      exact ⟨(B2 _ (by omega)).trans y.1, z.1.trans ((B2 _ (by omega)).trans y.2.1), z.2.1.trans ((B2 _ (by omega)).trans y.2.2.1), z.2.2.trans ((B2 _ (by omega)).trans y.2.2.2)⟩
  · rw [hS_ne (by omega), hS_ne (by omega)]; exact B3
  · show (if j = 1 then 0 else if j = 0 then 0 else K j) = 0
    split
    · rfl
    · rw [if_pos (by omega)]
theorem q_gaol {h : am_H} {L : Nat} {f : Nat → Int} {tr pc k : Int} {G : Gl} {T : Tm} {im : Nat → Option Tm} (O : MO h tr L pc k) (hL : L ≤ 120) (hf : ∀ j, j < L → 0 ≤ f j ∧ f j ≤ 255) (Xt : MTx h L f) (S : RM h G T) (s : Sh h 123 29) (I : MIm h G im) : match rdT L f with
    | .inl q => ∃ h', ev mMod_gaol [vR 120] h = some (some (vI (-10 - (q : Int))), h') ∧ MO h' tr L pc k ∧ RM h' G T ∧ Sh h' 123 29 ∧ FE [120, 123] h h'
    | .inr D => ∃ h', ev mMod_gaol [vR 120] h = some (some (vI (D.2.2.2 : Int)), h') ∧ MO h' tr 0 0 0 ∧ RM h' D.1 D.2.1 ∧ Sh h' 123 29 ∧ MIm h' D.1 (fun _ => none) ∧ FE [120, 122, 123, 124, 127] h h' := by
  obtain ⟨y12, y13, y14, y15, o⟩ := O
  obtain ⟨g, g1, g2⟩ := Xt
  obtain ⟨A, A1⟩ := s
  have X : MxG L g (vL tr) (vI pc) (vI k) (tkE L f) (tkS L f) (tkC L f) (tkN L f) := ⟨hL, tk_ok hf, tk_mod hL g2 hf⟩
  unfold rdT
  generalize tkE L f = tE at *
  generalize tkS L f = tS at *
  generalize tkC L f = tC at *
  generalize tkN L f = tN at *
  obtain ⟨h1, z12, z13, z15, A', A2, f1, Q⟩ := m_reads X o g1 A1
  have o0 := o
  unfold MoA at o0
  have S' := S
  obtain ⟨w0, w2, w7, w11, w12, w13, w14, w15, B, F, -, B1, F1, t0, t1, t2, f0, r⟩ := S'
  cases e : rdA tE tS tC tN (L + 1) D0 0 with
  | inl q =>
    rw [e] at Q
    simp only at Q ⊢
    obtain ⟨e1, o1⟩ := Q
    refine ⟨h1, ?_, ⟨_, _, _, _, o1⟩, ⟨_, _, _, _, _, _, _, _, B, F, o1, f1.at B1 (by decide), f1.at F1 (by decide), t0, t1, t2, f0, r⟩, ⟨A', A2⟩, f1⟩
    unfold MoA at o1
    rw [ev_Mod_gaol]
    simp (disch := omega) only [e_Mod_gaol_0, e_Mod_gaol_1, e_Mod_gaol_4, e_Mod_gaol_4b, e_Mod_gaol_7, e_Mod_gaol_9, e_Mod_gaol_10, e_Mod_gaol_13, e_Mod_gaol_14, e_Mod_gaol_15, e_Mod_gaol_16, e_Mod_gaol_19, e_Mod_gaol_20, e_Mod_gaol_21, e_Mod_gaol_24, e_Mod_gaol_25, e_Mod_gaol_28, e_Mod_gaol_29, e_Mod_gaol_30, alk_in, ask_in, blk_in, bsk_in, qlk_in, ack_in, rcv_in, rcA_in, bk_i, bk_l, bk_v, hS_same, hS_ne, hS_hS, hS_2, am_10, am_01, am_00, if_true, if_false, gf_12_0, pf_12_0, gf_12_1, pf_12_1, gf_12_2, pf_12_2, gf_12_3, pf_12_3, gf_12_4, pf_12_4, gf_12_5, pf_12_5, gf_12_6, pf_12_6, gf_12_7, pf_12_7, gf_12_8, pf_12_8, gf_12_9, pf_12_9, gf_12_10, pf_12_10, gf_12_11, pf_12_11, gf_12_12, pf_12_12, gf_12_13, pf_12_13, gf_12_14, pf_12_14, gf_12_15, pf_12_15, gf_12_16, pf_12_16, gf_12_17, pf_12_17, gf_12_18, pf_12_18, gf_12_19, pf_12_19, gf_12_20, pf_12_20, o0, e1, o1]
  | inr D =>
    rw [e] at Q
    simp only at Q ⊢
    obtain ⟨e1, ⟨z14, o1⟩, hA, hD⟩ := Q
    obtain ⟨I0, K, i0, i1, i2⟩ := I
    obtain ⟨h2, B', K', e2, o2, R2, B2, B3, K2, K3, f2⟩ := m_begins o1 A2 hA hD ⟨B, f1.at B1 (by decide)⟩ ⟨F, f1.at F1 (by decide)⟩ (f1.at i1 (by decide))
    have f3 : FE [120, 122, 123, 124, 127] h2 (hS h2 120 (cO 12 [vL tr, vR 121, vI 0, vR 122, vR 123, vR 124, vR 125, vI 0, vR 126, vR 127, vR 128, vI 0, z12, z13, z14, z15, vR 129, vR 130, vR 131, vR 132, vR 133])) := FE.st (by decide)
    refine ⟨hS h2 120 (cO 12 [vL tr, vR 121, vI 0, vR 122, vR 123, vR 124, vR 125, vI 0, vR 126, vR 127, vR 128, vI 0, z12, z13, z14, z15, vR 129, vR 130, vR 131, vR 132, vR 133]), ?_, ⟨z12, z13, z14, z15, hS_same⟩, RM.obj R2 _ _ _ _ _ _ _ _, ⟨A', by rw [hS_ne (by omega)]; exact f2.at A2 (by decide)⟩, ⟨I0, K', by rw [hS_ne (by omega)]; exact f2.at (f1.at i0 (by decide)) (by decide), by rw [hS_ne (by omega)]; exact K2, fun i hi => K3 i hi⟩, ((f1.wd (by decide)).tr (f2.wd (by decide))).tr f3⟩
    have o1' := o1
    unfold MoA at o1'
    have o2' := o2
    unfold MoA at o2'
    rw [ev_Mod_gaol]
    simp (disch := omega) only [e_Mod_gaol_0, e_Mod_gaol_1, e_Mod_gaol_4, e_Mod_gaol_4b, e_Mod_gaol_7, e_Mod_gaol_9, e_Mod_gaol_10, e_Mod_gaol_13, e_Mod_gaol_14, e_Mod_gaol_15, e_Mod_gaol_16, e_Mod_gaol_19, e_Mod_gaol_20, e_Mod_gaol_21, e_Mod_gaol_24, e_Mod_gaol_25, e_Mod_gaol_28, e_Mod_gaol_29, e_Mod_gaol_30, alk_in, ask_in, blk_in, bsk_in, qlk_in, ack_in, rcv_in, rcA_in, bk_i, bk_l, bk_v, hS_same, hS_ne, hS_hS, hS_2, am_10, am_01, am_00, if_true, if_false, gf_12_0, pf_12_0, gf_12_1, pf_12_1, gf_12_2, pf_12_2, gf_12_3, pf_12_3, gf_12_4, pf_12_4, gf_12_5, pf_12_5, gf_12_6, pf_12_6, gf_12_7, pf_12_7, gf_12_8, pf_12_8, gf_12_9, pf_12_9, gf_12_10, pf_12_10, gf_12_11, pf_12_11, gf_12_12, pf_12_12, gf_12_13, pf_12_13, gf_12_14, pf_12_14, gf_12_15, pf_12_15, gf_12_16, pf_12_16, gf_12_17, pf_12_17, gf_12_18, pf_12_18, gf_12_19, pf_12_19, gf_12_20, pf_12_20, o0, e1, o1', e2, o2', B2, tl_3, B3]
end BeginM
