/-! how all should lie: the model -/
section LeastM
variable {n c : Nat} {lo t : Int} {ce so ha ye : Nat → Int}
theorem lz_cells (hW : Wf n c ce so ha ye) {A B : Nat → Int} {l3 l4 l5 l6 : am_V} : ∀ (d x : Nat) (h : am_H), x + d = c → RepM h n c lo t ce so ha ye → h.1 133 = cI 0 6 (gc n ce B x).2 → ∃ h', gv mMod_least 8 [vR 120, vI ((gc n ce B x).1 : Int), vI (x : Int), l3, l4, l5, l6] [] h = gv mMod_least 44 [vR 120, vI ((gc n ce B c).1 : Int), vI (c : Int), l3, l4, l5, l6] [] h' ∧ h'.1 133 = cI 0 6 (gc n ce B c).2 ∧ FE [133] h h' := by
  have hn := hW.1
  have hc := hW.2.2.1
  have w0 := way0 (A := A) (B := B) hW
  have gl := gm_le ce A n
  intro d
  induction d with
  | zero =>
    intro x h hx S R
    have : x = c := by omega
    subst this
    refine ⟨h, ?_, R, FE.rf⟩
    obtain ⟨x0, x2, x7, x11, x12, x13, x14, x15, T, F, o, T1, F1, t0, t1, t2, f0, r⟩ := S
    unfold MoA at o
    rw [e_Mod_least_8]
    simp (disch := omega) only [e_Mod_least_0, e_Mod_least_1, e_Mod_least_4, e_Mod_least_5, e_Mod_least_6, e_Mod_least_7, e_Mod_least_9, e_Mod_least_10, e_Mod_least_13, e_Mod_least_14, e_Mod_least_15, e_Mod_least_18, e_Mod_least_19, e_Mod_least_20, e_Mod_least_23, e_Mod_least_25, e_Mod_least_28, e_Mod_least_29, e_Mod_least_32, e_Mod_least_33, e_Mod_least_34, e_Mod_least_35, e_Mod_least_38, e_Mod_least_41, e_Mod_least_45, e_Mod_least_46, e_Mod_least_47, e_Mod_least_48, e_Mod_least_49, e_Mod_least_50, e_Mod_least_53, e_Mod_least_54, e_Mod_least_55, e_Mod_least_58, e_Mod_least_59, e_Mod_least_62, e_Mod_least_63, e_Mod_least_65, e_Mod_least_66, e_Mod_least_67, e_Mod_least_68, e_Mod_least_71, e_Mod_least_71b, e_Mod_least_74, e_Mod_least_75, e_Mod_least_78, e_Mod_least_79, e_Mod_least_80, e_Mod_least_81, e_Mod_least_84, e_Mod_least_87, e_Mod_least_90, e_Mod_least_93, e_Mod_least_94, e_Mod_least_95, e_Mod_least_97, e_Mod_least_99, e_Mod_least_99b, e_Mod_least_102, e_Mod_least_103, e_Mod_least_105, e_Mod_least_107, e_Mod_least_108, e_Mod_least_111, e_Mod_least_112, e_Mod_least_115, e_Mod_least_116, e_Mod_least_117, e_Mod_least_120, e_Mod_least_122, e_Mod_least_123, e_Mod_least_124, e_Mod_least_125, e_Mod_least_128, e_Mod_least_130, e_Mod_least_131, e_Mod_least_132, e_Mod_least_135, e_Mod_least_138, e_Mod_least_139, e_Mod_least_141, e_Mod_least_142, e_Mod_least_144, e_Mod_least_146, e_Mod_least_147, e_Mod_least_150, e_Mod_least_151, e_Mod_least_152, e_Mod_least_155, e_Mod_least_157, e_Mod_least_158, e_Mod_least_160, e_Mod_least_163, e_Mod_least_164, e_Mod_least_166, e_Mod_least_169, e_Mod_least_172, e_Mod_least_174, e_Mod_least_175, e_Mod_least_178, e_Mod_least_180, e_Mod_least_181, e_Mod_least_182, e_Mod_least_184, e_Mod_least_186, e_Mod_least_187, e_Mod_least_190, e_Mod_least_191, e_Mod_least_194, e_Mod_least_195, e_Mod_least_198, e_Mod_least_200, e_Mod_least_201, e_Mod_least_202, e_Mod_least_205, e_Mod_least_207, e_Mod_least_208, e_Mod_least_209, e_Mod_least_212, e_Mod_least_215, e_Mod_least_216, e_Mod_least_217, e_Mod_least_220, e_Mod_least_222, e_Mod_least_225, e_Mod_least_226, e_Mod_least_229, e_Mod_least_230, alk_in, ask_in, blk_in, bsk_in, qlk_in, ack_in, rcv_in, rcA_in, bk_i, bk_l, bk_v, hS_same, hS_ne, hS_hS, hS_2, am_10, am_01, am_00, if_true, if_false, gf_12_0, pf_12_0, gf_12_1, pf_12_1, gf_12_2, pf_12_2, gf_12_3, pf_12_3, gf_12_4, pf_12_4, gf_12_5, pf_12_5, gf_12_6, pf_12_6, gf_12_7, pf_12_7, gf_12_8, pf_12_8, gf_12_9, pf_12_9, gf_12_10, pf_12_10, gf_12_11, pf_12_11, gf_12_12, pf_12_12, gf_12_13, pf_12_13, gf_12_14, pf_12_14, gf_12_15, pf_12_15, gf_12_16, pf_12_16, gf_12_17, pf_12_17, gf_12_18, pf_12_18, gf_12_19, pf_12_19, gf_12_20, pf_12_20, o, T1, tl_0, t0]
    rw [if_neg (by omega)]
  | succ d ih =>
    intro x h hx S R
    have c1 := m_whoIn S hW (x := (x : Int)) (by omega)
    have wb := who_b n ce (x : Int)
    have S' := S
    obtain ⟨x0, x2, x7, x11, x12, x13, x14, x15, T, F, o, T1, F1, t0, t1, t2, f0, r⟩ := S'
    unfold MoA at o
    by_cases q : who n ce (x : Int) = -9
    · have e : gc n ce B (x + 1) = gc n ce B x := by
        show (if who n ce (x : Int) = -9 then gc n ce B x else _) = _
        rw [if_pos q]
      obtain ⟨h2, e2, R2, f2⟩ := ih (x + 1) h (by omega) S (by rw [e]; exact R)
      refine ⟨h2, ?_, R2, f2⟩
      rw [q] at c1
      rw [e_Mod_least_8, ← e2, e]
      simp (disch := omega) only [e_Mod_least_0, e_Mod_least_1, e_Mod_least_4, e_Mod_least_5, e_Mod_least_6, e_Mod_least_7, e_Mod_least_9, e_Mod_least_10, e_Mod_least_13, e_Mod_least_14, e_Mod_least_15, e_Mod_least_18, e_Mod_least_19, e_Mod_least_20, e_Mod_least_23, e_Mod_least_25, e_Mod_least_28, e_Mod_least_29, e_Mod_least_32, e_Mod_least_33, e_Mod_least_34, e_Mod_least_35, e_Mod_least_38, e_Mod_least_41, e_Mod_least_45, e_Mod_least_46, e_Mod_least_47, e_Mod_least_48, e_Mod_least_49, e_Mod_least_50, e_Mod_least_53, e_Mod_least_54, e_Mod_least_55, e_Mod_least_58, e_Mod_least_59, e_Mod_least_62, e_Mod_least_63, e_Mod_least_65, e_Mod_least_66, e_Mod_least_67, e_Mod_least_68, e_Mod_least_71, e_Mod_least_71b, e_Mod_least_74, e_Mod_least_75, e_Mod_least_78, e_Mod_least_79, e_Mod_least_80, e_Mod_least_81, e_Mod_least_84, e_Mod_least_87, e_Mod_least_90, e_Mod_least_93, e_Mod_least_94, e_Mod_least_95, e_Mod_least_97, e_Mod_least_99, e_Mod_least_99b, e_Mod_least_102, e_Mod_least_103, e_Mod_least_105, e_Mod_least_107, e_Mod_least_108, e_Mod_least_111, e_Mod_least_112, e_Mod_least_115, e_Mod_least_116, e_Mod_least_117, e_Mod_least_120, e_Mod_least_122, e_Mod_least_123, e_Mod_least_124, e_Mod_least_125, e_Mod_least_128, e_Mod_least_130, e_Mod_least_131, e_Mod_least_132, e_Mod_least_135, e_Mod_least_138, e_Mod_least_139, e_Mod_least_141, e_Mod_least_142, e_Mod_least_144, e_Mod_least_146, e_Mod_least_147, e_Mod_least_150, e_Mod_least_151, e_Mod_least_152, e_Mod_least_155, e_Mod_least_157, e_Mod_least_158, e_Mod_least_160, e_Mod_least_163, e_Mod_least_164, e_Mod_least_166, e_Mod_least_169, e_Mod_least_172, e_Mod_least_174, e_Mod_least_175, e_Mod_least_178, e_Mod_least_180, e_Mod_least_181, e_Mod_least_182, e_Mod_least_184, e_Mod_least_186, e_Mod_least_187, e_Mod_least_190, e_Mod_least_191, e_Mod_least_194, e_Mod_least_195, e_Mod_least_198, e_Mod_least_200, e_Mod_least_201, e_Mod_least_202, e_Mod_least_205, e_Mod_least_207, e_Mod_least_208, e_Mod_least_209, e_Mod_least_212, e_Mod_least_215, e_Mod_least_216, e_Mod_least_217, e_Mod_least_220, e_Mod_least_222, e_Mod_least_225, e_Mod_least_226, e_Mod_least_229, e_Mod_least_230, alk_in, ask_in, blk_in, bsk_in, qlk_in, ack_in, rcv_in, rcA_in, bk_i, bk_l, bk_v, hS_same, hS_ne, hS_hS, hS_2, am_10, am_01, am_00, if_true, if_false, gf_12_0, pf_12_0, gf_12_1, pf_12_1, gf_12_2, pf_12_2, gf_12_3, pf_12_3, gf_12_4, pf_12_4, gf_12_5, pf_12_5, gf_12_6, pf_12_6, gf_12_7, pf_12_7, gf_12_8, pf_12_8, gf_12_9, pf_12_9, gf_12_10, pf_12_10, gf_12_11, pf_12_11, gf_12_12, pf_12_12, gf_12_13, pf_12_13, gf_12_14, pf_12_14, gf_12_15, pf_12_15, gf_12_16, pf_12_16, gf_12_17, pf_12_17, gf_12_18, pf_12_18, gf_12_19, pf_12_19, gf_12_20, pf_12_20, o, T1, tl_0, t0, c1]
      rw [if_pos (by omega)]; rfl
    · have e : gc n ce B (x + 1) = ((gc n ce B x).1 + 1, fun j => if j = (gc n ce B x).1 then (x : Int) else (gc n ce B x).2 j) := by
        show (if who n ce (x : Int) = -9 then gc n ce B x else _) = _
        rw [if_neg q]
      have mo := gc_mono n ce B (x + 1) d
      rw [show x + 1 + d = c by omega, w0.1, e] at mo
      simp only at mo
      have f1 : FE [133] h (hS h 133 (cI 0 6 (fun j => if j = (gc n ce B x).1 then (x : Int) else (gc n ce B x).2 j))) := FE.st (by decide)
      obtain ⟨h2, e2, R2, f2⟩ := ih (x + 1) (hS h 133 (cI 0 6 (fun j => if j = (gc n ce B x).1 then (x : Int) else (gc n ce B x).2 j))) (by omega) (S.fe f1 (by decide)) (by rw [e]; exact hS_same)
      refine ⟨h2, ?_, R2, f1.tr f2⟩
      rw [e_Mod_least_8, ← e2, e]
      simp (disch := omega) only [e_Mod_least_0, e_Mod_least_1, e_Mod_least_4, e_Mod_least_5, e_Mod_least_6, e_Mod_least_7, e_Mod_least_9, e_Mod_least_10, e_Mod_least_13, e_Mod_least_14, e_Mod_least_15, e_Mod_least_18, e_Mod_least_19, e_Mod_least_20, e_Mod_least_23, e_Mod_least_25, e_Mod_least_28, e_Mod_least_29, e_Mod_least_32, e_Mod_least_33, e_Mod_least_34, e_Mod_least_35, e_Mod_least_38, e_Mod_least_41, e_Mod_least_45, e_Mod_least_46, e_Mod_least_47, e_Mod_least_48, e_Mod_least_49, e_Mod_least_50, e_Mod_least_53, e_Mod_least_54, e_Mod_least_55, e_Mod_least_58, e_Mod_least_59, e_Mod_least_62, e_Mod_least_63, e_Mod_least_65, e_Mod_least_66, e_Mod_least_67, e_Mod_least_68, e_Mod_least_71, e_Mod_least_71b, e_Mod_least_74, e_Mod_least_75, e_Mod_least_78, e_Mod_least_79, e_Mod_least_80, e_Mod_least_81, e_Mod_least_84, e_Mod_least_87, e_Mod_least_90, e_Mod_least_93, e_Mod_least_94, e_Mod_least_95, e_Mod_least_97, e_Mod_least_99, e_Mod_least_99b, e_Mod_least_102, e_Mod_least_103, e_Mod_least_105, e_Mod_least_107, e_Mod_least_108, e_Mod_least_111, e_Mod_least_112, e_Mod_least_115, e_Mod_least_116, e_Mod_least_117, e_Mod_least_120, e_Mod_least_122, e_Mod_least_123, e_Mod_least_124, e_Mod_least_125, e_Mod_least_128, e_Mod_least_130, e_Mod_least_131, e_Mod_least_132, e_Mod_least_135, e_Mod_least_138, e_Mod_least_139, e_Mod_least_141, e_Mod_least_142, e_Mod_least_144, e_Mod_least_146, e_Mod_least_147, e_Mod_least_150, e_Mod_least_151, e_Mod_least_152, e_Mod_least_155, e_Mod_least_157, e_Mod_least_158, e_Mod_least_160, e_Mod_least_163, e_Mod_least_164, e_Mod_least_166, e_Mod_least_169, e_Mod_least_172, e_Mod_least_174, e_Mod_least_175, e_Mod_least_178, e_Mod_least_180, e_Mod_least_181, e_Mod_least_182, e_Mod_least_184, e_Mod_least_186, e_Mod_least_187, e_Mod_least_190, e_Mod_least_191, e_Mod_least_194, e_Mod_least_195, e_Mod_least_198, e_Mod_least_200, e_Mod_least_201, e_Mod_least_202, e_Mod_least_205, e_Mod_least_207, e_Mod_least_208, e_Mod_least_209, e_Mod_least_212, e_Mod_least_215, e_Mod_least_216, e_Mod_least_217, e_Mod_least_220, e_Mod_least_222, e_Mod_least_225, e_Mod_least_226, e_Mod_least_229, e_Mod_least_230, alk_in, ask_in, blk_in, bsk_in, qlk_in, ack_in, rcv_in, rcA_in, bk_i, bk_l, bk_v, hS_same, hS_ne, hS_hS, hS_2, am_10, am_01, am_00, if_true, if_false, gf_12_0, pf_12_0, gf_12_1, pf_12_1, gf_12_2, pf_12_2, gf_12_3, pf_12_3, gf_12_4, pf_12_4, gf_12_5, pf_12_5, gf_12_6, pf_12_6, gf_12_7, pf_12_7, gf_12_8, pf_12_8, gf_12_9, pf_12_9, gf_12_10, pf_12_10, gf_12_11, pf_12_11, gf_12_12, pf_12_12, gf_12_13, pf_12_13, gf_12_14, pf_12_14, gf_12_15, pf_12_15, gf_12_16, pf_12_16, gf_12_17, pf_12_17, gf_12_18, pf_12_18, gf_12_19, pf_12_19, gf_12_20, pf_12_20, o, T1, tl_0, t0, c1, R, Int.toNat_natCast]
      rw [if_pos (by omega), if_neg q]; rfl
theorem lz_men (hW : Wf n c ce so ha ye) {A : Nat → Int} {l1 l4 l5 l6 : am_V} : ∀ (d k : Nat) (h : am_H) (Z : Nat → Int), k + d = n → RepM h n c lo t ce so ha ye → h.1 132 = cI 0 6 (gm ce A k).2 → h.1 131 = cI 0 6 Z → (∀ j, j < k → Z j = -9) → ∃ h' Z', gv mMod_least 48 [vR 120, l1, vI ((gm ce A k).1 : Int), vI (k : Int), l4, l5, l6] [] h = gv mMod_least 90 [vR 120, l1, vI ((gm ce A n).1 : Int), vI (n : Int), l4, l5, l6] [] h' ∧ h'.1 132 = cI 0 6 (gm ce A n).2 ∧ h'.1 131 = cI 0 6 Z' ∧ (∀ j, j < n → Z' j = -9) ∧ FE [131, 132] h h' := by
  have hn := hW.1
  intro d
  induction d with
  | zero =>
    intro k h Z hk S A1 Z1 Z2
    have : k = n := by omega
    subst this
    refine ⟨h, Z, ?_, A1, Z1, Z2, FE.rf⟩
    obtain ⟨x0, x2, x7, x11, x12, x13, x14, x15, T, F, o, T1, F1, t0, t1, t2, f0, r⟩ := S
    unfold MoA at o
    rw [e_Mod_least_48]
    simp (disch := omega) only [e_Mod_least_0, e_Mod_least_1, e_Mod_least_4, e_Mod_least_5, e_Mod_least_6, e_Mod_least_7, e_Mod_least_8, e_Mod_least_9, e_Mod_least_10, e_Mod_least_13, e_Mod_least_14, e_Mod_least_15, e_Mod_least_18, e_Mod_least_19, e_Mod_least_20, e_Mod_least_23, e_Mod_least_25, e_Mod_least_28, e_Mod_least_29, e_Mod_least_32, e_Mod_least_33, e_Mod_least_34, e_Mod_least_35, e_Mod_least_38, e_Mod_least_41, e_Mod_least_44, e_Mod_least_45, e_Mod_least_46, e_Mod_least_47, e_Mod_least_49, e_Mod_least_50, e_Mod_least_53, e_Mod_least_54, e_Mod_least_55, e_Mod_least_58, e_Mod_least_59, e_Mod_least_62, e_Mod_least_63, e_Mod_least_65, e_Mod_least_66, e_Mod_least_67, e_Mod_least_68, e_Mod_least_71, e_Mod_least_71b, e_Mod_least_74, e_Mod_least_75, e_Mod_least_78, e_Mod_least_79, e_Mod_least_80, e_Mod_least_81, e_Mod_least_84, e_Mod_least_87, e_Mod_least_93, e_Mod_least_94, e_Mod_least_95, e_Mod_least_97, e_Mod_least_99, e_Mod_least_99b, e_Mod_least_102, e_Mod_least_103, e_Mod_least_105, e_Mod_least_107, e_Mod_least_108, e_Mod_least_111, e_Mod_least_112, e_Mod_least_115, e_Mod_least_116, e_Mod_least_117, e_Mod_least_120, e_Mod_least_122, e_Mod_least_123, e_Mod_least_124, e_Mod_least_125, e_Mod_least_128, e_Mod_least_130, e_Mod_least_131, e_Mod_least_132, e_Mod_least_135, e_Mod_least_138, e_Mod_least_139, e_Mod_least_141, e_Mod_least_142, e_Mod_least_144, e_Mod_least_146, e_Mod_least_147, e_Mod_least_150, e_Mod_least_151, e_Mod_least_152, e_Mod_least_155, e_Mod_least_157, e_Mod_least_158, e_Mod_least_160, e_Mod_least_163, e_Mod_least_164, e_Mod_least_166, e_Mod_least_169, e_Mod_least_172, e_Mod_least_174, e_Mod_least_175, e_Mod_least_178, e_Mod_least_180, e_Mod_least_181, e_Mod_least_182, e_Mod_least_184, e_Mod_least_186, e_Mod_least_187, e_Mod_least_190, e_Mod_least_191, e_Mod_least_194, e_Mod_least_195, e_Mod_least_198, e_Mod_least_200, e_Mod_least_201, e_Mod_least_202, e_Mod_least_205, e_Mod_least_207, e_Mod_least_208, e_Mod_least_209, e_Mod_least_212, e_Mod_least_215, e_Mod_least_216, e_Mod_least_217, e_Mod_least_220, e_Mod_least_222, e_Mod_least_225, e_Mod_least_226, e_Mod_least_229, e_Mod_least_230, alk_in, ask_in, blk_in, bsk_in, qlk_in, ack_in, rcv_in, rcA_in, bk_i, bk_l, bk_v, hS_same, hS_ne, hS_hS, hS_2, am_10, am_01, am_00, if_true, if_false, gf_12_0, pf_12_0, gf_12_1, pf_12_1, gf_12_2, pf_12_2, gf_12_3, pf_12_3, gf_12_4, pf_12_4, gf_12_5, pf_12_5, gf_12_6, pf_12_6, gf_12_7, pf_12_7, gf_12_8, pf_12_8, gf_12_9, pf_12_9, gf_12_10, pf_12_10, gf_12_11, pf_12_11, gf_12_12, pf_12_12, gf_12_13, pf_12_13, gf_12_14, pf_12_14, gf_12_15, pf_12_15, gf_12_16, pf_12_16, gf_12_17, pf_12_17, gf_12_18, pf_12_18, gf_12_19, pf_12_19, gf_12_20, pf_12_20, o, T1, tl_1, t1]
    rw [if_neg (by omega)]
  | succ d ih =>
    intro k h Z hk S A1 Z1 Z2
    have f1 : FE [131, 132] h (hS h 131 (cI 0 6 (fun j => if j = k then -9 else Z j))) := FE.st (by decide)
    have S1 : RepM (hS h 131 (cI 0 6 (fun j => if j = k then -9 else Z j))) n c lo t ce so ha ye := S.fe f1 (by decide)
    have c1 := m_isIn S1 hW (show k < n by omega)
    have gl := gm_le ce A k
    have Z3 : ∀ j, j < k + 1 → (fun j => if j = k then -9 else Z j) j = -9 := fun j hj => by
      by_cases r : j = k
      · exact if_pos r
      · exact (if_neg r).trans (Z2 j (by omega))
    have S' := S
    obtain ⟨x0, x2, x7, x11, x12, x13, x14, x15, T, F, o, T1, F1, t0, t1, t2, f0, r⟩ := S'
    unfold MoA at o
    by_cases q : ce k = -9
    · have e : gm ce A (k + 1) = gm ce A k := by
        show (if ce k = -9 then gm ce A k else _) = _
        rw [if_pos q]
      obtain ⟨h2, Z', e2, A2, Z4, Z5, f2⟩ := ih (k + 1) _ _ (by omega) S1 (by rw [e, hS_ne (by omega)]; exact A1) hS_same Z3
      refine ⟨h2, Z', ?_, A2, Z4, Z5, f1.tr f2⟩
      rw [if_pos q] at c1
      rw [e_Mod_least_48, ← e2, e]
      simp (disch := omega) only [e_Mod_least_0, e_Mod_least_1, e_Mod_least_4, e_Mod_least_5, e_Mod_least_6, e_Mod_least_7, e_Mod_least_8, e_Mod_least_9, e_Mod_least_10, e_Mod_least_13, e_Mod_least_14, e_Mod_least_15, e_Mod_least_18, e_Mod_least_19, e_Mod_least_20, e_Mod_least_23, e_Mod_least_25, e_Mod_least_28, e_Mod_least_29, e_Mod_least_32, e_Mod_least_33, e_Mod_least_34, e_Mod_least_35, e_Mod_least_38, e_Mod_least_41, e_Mod_least_44, e_Mod_least_45, e_Mod_least_46, e_Mod_least_47, e_Mod_least_49, e_Mod_least_50, e_Mod_least_53, e_Mod_least_54, e_Mod_least_55, e_Mod_least_58, e_Mod_least_59, e_Mod_least_62, e_Mod_least_63, e_Mod_least_65, e_Mod_least_66, e_Mod_least_67, e_Mod_least_68, e_Mod_least_71, e_Mod_least_71b, e_Mod_least_74, e_Mod_least_75, e_Mod_least_78, e_Mod_least_79, e_Mod_least_80, e_Mod_least_81, e_Mod_least_84, e_Mod_least_87, e_Mod_least_93, e_Mod_least_94, e_Mod_least_95, e_Mod_least_97, e_Mod_least_99, e_Mod_least_99b, e_Mod_least_102, e_Mod_least_103, e_Mod_least_105, e_Mod_least_107, e_Mod_least_108, e_Mod_least_111, e_Mod_least_112, e_Mod_least_115, e_Mod_least_116, e_Mod_least_117, e_Mod_least_120, e_Mod_least_122, e_Mod_least_123, e_Mod_least_124, e_Mod_least_125, e_Mod_least_128, e_Mod_least_130, e_Mod_least_131, e_Mod_least_132, e_Mod_least_135, e_Mod_least_138, e_Mod_least_139, e_Mod_least_141, e_Mod_least_142, e_Mod_least_144, e_Mod_least_146, e_Mod_least_147, e_Mod_least_150, e_Mod_least_151, e_Mod_least_152, e_Mod_least_155, e_Mod_least_157, e_Mod_least_158, e_Mod_least_160, e_Mod_least_163, e_Mod_least_164, e_Mod_least_166, e_Mod_least_169, e_Mod_least_172, e_Mod_least_174, e_Mod_least_175, e_Mod_least_178, e_Mod_least_180, e_Mod_least_181, e_Mod_least_182, e_Mod_least_184, e_Mod_least_186, e_Mod_least_187, e_Mod_least_190, e_Mod_least_191, e_Mod_least_194, e_Mod_least_195, e_Mod_least_198, e_Mod_least_200, e_Mod_least_201, e_Mod_least_202, e_Mod_least_205, e_Mod_least_207, e_Mod_least_208, e_Mod_least_209, e_Mod_least_212, e_Mod_least_215, e_Mod_least_216, e_Mod_least_217, e_Mod_least_220, e_Mod_least_222, e_Mod_least_225, e_Mod_least_226, e_Mod_least_229, e_Mod_least_230, alk_in, ask_in, blk_in, bsk_in, qlk_in, ack_in, rcv_in, rcA_in, bk_i, bk_l, bk_v, hS_same, hS_ne, hS_hS, hS_2, am_10, am_01, am_00, if_true, if_false, gf_12_0, pf_12_0, gf_12_1, pf_12_1, gf_12_2, pf_12_2, gf_12_3, pf_12_3, gf_12_4, pf_12_4, gf_12_5, pf_12_5, gf_12_6, pf_12_6, gf_12_7, pf_12_7, gf_12_8, pf_12_8, gf_12_9, pf_12_9, gf_12_10, pf_12_10, gf_12_11, pf_12_11, gf_12_12, pf_12_12, gf_12_13, pf_12_13, gf_12_14, pf_12_14, gf_12_15, pf_12_15, gf_12_16, pf_12_16, gf_12_17, pf_12_17, gf_12_18, pf_12_18, gf_12_19, pf_12_19, gf_12_20, pf_12_20, o, T1, tl_1, t1, c1, Z1, Int.toNat_natCast]
      rw [if_pos (by omega)]; rfl
    · have e : gm ce A (k + 1) = ((gm ce A k).1 + 1, fun j => if j = (gm ce A k).1 then (k : Int) else (gm ce A k).2 j) := by
        show (if ce k = -9 then gm ce A k else _) = _
        rw [if_neg q]
      have f2 : FE [131, 132] h (hS (hS h 131 (cI 0 6 (fun j => if j = k then -9 else Z j))) 132 (cI 0 6 (fun j => if j = (gm ce A k).1 then (k : Int) else (gm ce A k).2 j))) := f1.tr (FE.st (by decide))
      obtain ⟨h2, Z', e2, A2, Z4, Z5, f3⟩ := ih (k + 1) (hS (hS h 131 (cI 0 6 (fun j => if j = k then -9 else Z j))) 132 (cI 0 6 (fun j => if j = (gm ce A k).1 then (k : Int) else (gm ce A k).2 j))) _ (by omega) (S.fe f2 (by decide)) (by rw [e]; exact hS_same) (by rw [hS_ne (by omega)]; exact hS_same) Z3
      refine ⟨h2, Z', ?_, A2, Z4, Z5, f2.tr f3⟩
      rw [if_neg q] at c1
      rw [e_Mod_least_48, ← e2, e]
      simp (disch := omega) only [e_Mod_least_0, e_Mod_least_1, e_Mod_least_4, e_Mod_least_5, e_Mod_least_6, e_Mod_least_7, e_Mod_least_8, e_Mod_least_9, e_Mod_least_10, e_Mod_least_13, e_Mod_least_14, e_Mod_least_15, e_Mod_least_18, e_Mod_least_19, e_Mod_least_20, e_Mod_least_23, e_Mod_least_25, e_Mod_least_28, e_Mod_least_29, e_Mod_least_32, e_Mod_least_33, e_Mod_least_34, e_Mod_least_35, e_Mod_least_38, e_Mod_least_41, e_Mod_least_44, e_Mod_least_45, e_Mod_least_46, e_Mod_least_47, e_Mod_least_49, e_Mod_least_50, e_Mod_least_53, e_Mod_least_54, e_Mod_least_55, e_Mod_least_58, e_Mod_least_59, e_Mod_least_62, e_Mod_least_63, e_Mod_least_65, e_Mod_least_66, e_Mod_least_67, e_Mod_least_68, e_Mod_least_71, e_Mod_least_71b, e_Mod_least_74, e_Mod_least_75, e_Mod_least_78, e_Mod_least_79, e_Mod_least_80, e_Mod_least_81, e_Mod_least_84, e_Mod_least_87, e_Mod_least_93, e_Mod_least_94, e_Mod_least_95, e_Mod_least_97, e_Mod_least_99, e_Mod_least_99b, e_Mod_least_102, e_Mod_least_103, e_Mod_least_105, e_Mod_least_107, e_Mod_least_108, e_Mod_least_111, e_Mod_least_112, e_Mod_least_115, e_Mod_least_116, e_Mod_least_117, e_Mod_least_120, e_Mod_least_122, e_Mod_least_123, e_Mod_least_124, e_Mod_least_125, e_Mod_least_128, e_Mod_least_130, e_Mod_least_131, e_Mod_least_132, e_Mod_least_135, e_Mod_least_138, e_Mod_least_139, e_Mod_least_141, e_Mod_least_142, e_Mod_least_144, e_Mod_least_146, e_Mod_least_147, e_Mod_least_150, e_Mod_least_151, e_Mod_least_152, e_Mod_least_155, e_Mod_least_157, e_Mod_least_158, e_Mod_least_160, e_Mod_least_163, e_Mod_least_164, e_Mod_least_166, e_Mod_least_169, e_Mod_least_172, e_Mod_least_174, e_Mod_least_175, e_Mod_least_178, e_Mod_least_180, e_Mod_least_181, e_Mod_least_182, e_Mod_least_184, e_Mod_least_186, e_Mod_least_187, e_Mod_least_190, e_Mod_least_191, e_Mod_least_194, e_Mod_least_195, e_Mod_least_198, e_Mod_least_200, e_Mod_least_201, e_Mod_least_202, e_Mod_least_205, e_Mod_least_207, e_Mod_least_208, e_Mod_least_209, e_Mod_least_212, e_Mod_least_215, e_Mod_least_216, e_Mod_least_217, e_Mod_least_220, e_Mod_least_222, e_Mod_least_225, e_Mod_least_226, e_Mod_least_229, e_Mod_least_230, alk_in, ask_in, blk_in, bsk_in, qlk_in, ack_in, rcv_in, rcA_in, bk_i, bk_l, bk_v, hS_same, hS_ne, hS_hS, hS_2, am_10, am_01, am_00, if_true, if_false, gf_12_0, pf_12_0, gf_12_1, pf_12_1, gf_12_2, pf_12_2, gf_12_3, pf_12_3, gf_12_4, pf_12_4, gf_12_5, pf_12_5, gf_12_6, pf_12_6, gf_12_7, pf_12_7, gf_12_8, pf_12_8, gf_12_9, pf_12_9, gf_12_10, pf_12_10, gf_12_11, pf_12_11, gf_12_12, pf_12_12, gf_12_13, pf_12_13, gf_12_14, pf_12_14, gf_12_15, pf_12_15, gf_12_16, pf_12_16, gf_12_17, pf_12_17, gf_12_18, pf_12_18, gf_12_19, pf_12_19, gf_12_20, pf_12_20, o, T1, tl_1, t1, c1, A1, Z1, Int.toNat_natCast]
      rw [if_pos (by omega)]; rfl
/-- the men are laid as a way has it -/
theorem lz_lay {k : Nat} {M w : Nat → Int} (hn : n ≤ 6) (hk : k ≤ 6) (hM : MnO n k M ce) {l2 l3 l4 l6 : am_V} : ∀ (d i : Nat) (h : am_H) (ce1 : Nat → Int), i + d = k → RepM h n c lo t ce1 so ha ye → h.1 132 = cI 0 6 M → h.1 133 = cI 0 6 w → (∀ j, j < i → ce1 (M j).toNat = w j) → (∀ m, m < n → (∀ j, j < k → ¬ M j = (m : Int)) → ce1 m = ce m) → ∃ h' ce2, gv mMod_least 105 [vR 120, vI (k : Int), l2, l3, l4, vI (i : Int), l6] [] h = gv mMod_least 138 [vR 120, vI (k : Int), l2, l3, l4, vI (k : Int), l6] [] h' ∧ RepM h' n c lo t ce2 so ha ye ∧ Ly n k M w ce ce2 ∧ FE [124] h h' := by
  intro d
  induction d with
  | zero =>
    intro i h ce1 hi S A1 R1 H1 H2
    have : i = k := by omega
    subst this
    refine ⟨h, ce1, ?_, S, ⟨H1, H2⟩, FE.rf⟩
    rw [e_Mod_least_105]
    simp (disch := omega) only [e_Mod_least_0, e_Mod_least_1, e_Mod_least_4, e_Mod_least_5, e_Mod_least_6, e_Mod_least_7, e_Mod_least_8, e_Mod_least_9, e_Mod_least_10, e_Mod_least_13, e_Mod_least_14, e_Mod_least_15, e_Mod_least_18, e_Mod_least_19, e_Mod_least_20, e_Mod_least_23, e_Mod_least_25, e_Mod_least_28, e_Mod_least_29, e_Mod_least_32, e_Mod_least_33, e_Mod_least_34, e_Mod_least_35, e_Mod_least_38, e_Mod_least_41, e_Mod_least_44, e_Mod_least_45, e_Mod_least_46, e_Mod_least_47, e_Mod_least_48, e_Mod_least_49, e_Mod_least_50, e_Mod_least_53, e_Mod_least_54, e_Mod_least_55, e_Mod_least_58, e_Mod_least_59, e_Mod_least_62, e_Mod_least_63, e_Mod_least_65, e_Mod_least_66, e_Mod_least_67, e_Mod_least_68, e_Mod_least_71, e_Mod_least_71b, e_Mod_least_74, e_Mod_least_75, e_Mod_least_78, e_Mod_least_79, e_Mod_least_80, e_Mod_least_81, e_Mod_least_84, e_Mod_least_87, e_Mod_least_90, e_Mod_least_93, e_Mod_least_94, e_Mod_least_95, e_Mod_least_97, e_Mod_least_99, e_Mod_least_99b, e_Mod_least_102, e_Mod_least_103, e_Mod_least_107, e_Mod_least_108, e_Mod_least_111, e_Mod_least_112, e_Mod_least_115, e_Mod_least_116, e_Mod_least_117, e_Mod_least_120, e_Mod_least_122, e_Mod_least_123, e_Mod_least_124, e_Mod_least_125, e_Mod_least_128, e_Mod_least_130, e_Mod_least_131, e_Mod_least_132, e_Mod_least_135, e_Mod_least_139, e_Mod_least_141, e_Mod_least_142, e_Mod_least_144, e_Mod_least_146, e_Mod_least_147, e_Mod_least_150, e_Mod_least_151, e_Mod_least_152, e_Mod_least_155, e_Mod_least_157, e_Mod_least_158, e_Mod_least_160, e_Mod_least_163, e_Mod_least_164, e_Mod_least_166, e_Mod_least_169, e_Mod_least_172, e_Mod_least_174, e_Mod_least_175, e_Mod_least_178, e_Mod_least_180, e_Mod_least_181, e_Mod_least_182, e_Mod_least_184, e_Mod_least_186, e_Mod_least_187, e_Mod_least_190, e_Mod_least_191, e_Mod_least_194, e_Mod_least_195, e_Mod_least_198, e_Mod_least_200, e_Mod_least_201, e_Mod_least_202, e_Mod_least_205, e_Mod_least_207, e_Mod_least_208, e_Mod_least_209, e_Mod_least_212, e_Mod_least_215, e_Mod_least_216, e_Mod_least_217, e_Mod_least_220, e_Mod_least_222, e_Mod_least_225, e_Mod_least_226, e_Mod_least_229, e_Mod_least_230, alk_in, ask_in, blk_in, bsk_in, qlk_in, ack_in, rcv_in, rcA_in, bk_i, bk_l, bk_v, hS_same, hS_ne, hS_hS, hS_2, am_10, am_01, am_00, if_true, if_false]
    rw [if_neg (by omega)]
  | succ d ih =>
    intro i h ce1 hi S A1 R1 H1 H2
    obtain ⟨m, m1, m2, -⟩ := hM.1 i (by omega)
    have S' := S
    obtain ⟨x0, x2, x7, x11, x12, x13, x14, x15, T, F, o, T1, F1, t0, t1, t2, f0, r⟩ := S'
    have f1 : FE [124] h (hS h 124 (cI 0 19 (fun j => if j = 1 + m then w i else F j))) := FE.st (by decide)
    have S1 := RepM.setCe S hn (show m < 6 by omega) (w i) F1
    obtain ⟨h2, ce2, e2, S2, L2, f2⟩ := ih (i + 1) _ _ (by omega) S1 (f1.at A1 (by decide)) (f1.at R1 (by decide)) (fun j hj => by
      obtain ⟨m', a1, a2, -⟩ := hM.1 j (by omega)
      rw [a2, Int.toNat_natCast]
      by_cases q : j = i
      · subst q
        rw [if_pos (by omega)]
      · rw [if_neg (fun z => q (hM.2.1 j i (by omega) (by omega) (by omega)))]
        have z := H1 j (by omega)
        rw [a2, Int.toNat_natCast] at z
        exact z) (fun m' hm' H => by
      rw [if_neg (fun z => H i (by omega) (by omega))]
      exact H2 m' hm' H)
    refine ⟨h2, ce2, ?_, S2, L2, f1.tr f2⟩
    unfold MoA at o
    rw [e_Mod_least_105, ← e2]
    simp (disch := omega) only [e_Mod_least_0, e_Mod_least_1, e_Mod_least_4, e_Mod_least_5, e_Mod_least_6, e_Mod_least_7, e_Mod_least_8, e_Mod_least_9, e_Mod_least_10, e_Mod_least_13, e_Mod_least_14, e_Mod_least_15, e_Mod_least_18, e_Mod_least_19, e_Mod_least_20, e_Mod_least_23, e_Mod_least_25, e_Mod_least_28, e_Mod_least_29, e_Mod_least_32, e_Mod_least_33, e_Mod_least_34, e_Mod_least_35, e_Mod_least_38, e_Mod_least_41, e_Mod_least_44, e_Mod_least_45, e_Mod_least_46, e_Mod_least_47, e_Mod_least_48, e_Mod_least_49, e_Mod_least_50, e_Mod_least_53, e_Mod_least_54, e_Mod_least_55, e_Mod_least_58, e_Mod_least_59, e_Mod_least_62, e_Mod_least_63, e_Mod_least_65, e_Mod_least_66, e_Mod_least_67, e_Mod_least_68, e_Mod_least_71, e_Mod_least_71b, e_Mod_least_74, e_Mod_least_75, e_Mod_least_78, e_Mod_least_79, e_Mod_least_80, e_Mod_least_81, e_Mod_least_84, e_Mod_least_87, e_Mod_least_90, e_Mod_least_93, e_Mod_least_94, e_Mod_least_95, e_Mod_least_97, e_Mod_least_99, e_Mod_least_99b, e_Mod_least_102, e_Mod_least_103, e_Mod_least_107, e_Mod_least_108, e_Mod_least_111, e_Mod_least_112, e_Mod_least_115, e_Mod_least_116, e_Mod_least_117, e_Mod_least_120, e_Mod_least_122, e_Mod_least_123, e_Mod_least_124, e_Mod_least_125, e_Mod_least_128, e_Mod_least_130, e_Mod_least_131, e_Mod_least_132, e_Mod_least_135, e_Mod_least_139, e_Mod_least_141, e_Mod_least_142, e_Mod_least_144, e_Mod_least_146, e_Mod_least_147, e_Mod_least_150, e_Mod_least_151, e_Mod_least_152, e_Mod_least_155, e_Mod_least_157, e_Mod_least_158, e_Mod_least_160, e_Mod_least_163, e_Mod_least_164, e_Mod_least_166, e_Mod_least_169, e_Mod_least_172, e_Mod_least_174, e_Mod_least_175, e_Mod_least_178, e_Mod_least_180, e_Mod_least_181, e_Mod_least_182, e_Mod_least_184, e_Mod_least_186, e_Mod_least_187, e_Mod_least_190, e_Mod_least_191, e_Mod_least_194, e_Mod_least_195, e_Mod_least_198, e_Mod_least_200, e_Mod_least_201, e_Mod_least_202, e_Mod_least_205, e_Mod_least_207, e_Mod_least_208, e_Mod_least_209, e_Mod_least_212, e_Mod_least_215, e_Mod_least_216, e_Mod_least_217, e_Mod_least_220, e_Mod_least_222, e_Mod_least_225, e_Mod_least_226, e_Mod_least_229, e_Mod_least_230, alk_in, ask_in, blk_in, bsk_in, qlk_in, ack_in, rcv_in, rcA_in, bk_i, bk_l, bk_v, hS_same, hS_ne, hS_hS, hS_2, am_10, am_01, am_00, if_true, if_false, gf_12_0, pf_12_0, gf_12_1, pf_12_1, gf_12_2, pf_12_2, gf_12_3, pf_12_3, gf_12_4, pf_12_4, gf_12_5, pf_12_5, gf_12_6, pf_12_6, gf_12_7, pf_12_7, gf_12_8, pf_12_8, gf_12_9, pf_12_9, gf_12_10, pf_12_10, gf_12_11, pf_12_11, gf_12_12, pf_12_12, gf_12_13, pf_12_13, gf_12_14, pf_12_14, gf_12_15, pf_12_15, gf_12_16, pf_12_16, gf_12_17, pf_12_17, gf_12_18, pf_12_18, gf_12_19, pf_12_19, gf_12_20, pf_12_20, o, A1, R1, F1, m2, Int.toNat_natCast, tn_1]
    rw [if_pos (by omega)]; rfl
theorem lz_sum {h : am_H} {ce1 : Nat → Int} (S : RepM h n c lo t ce1 so ha ye) (hW : Wf n c ce1 so ha ye) {l1 l2 l3 l4 : am_V} : ∀ (d k : Nat), k + d = n → gv mMod_least 144 [vR 120, l1, l2, l3, l4, vI (sye (thn n ce1 so ha ye) k), vI (k : Int)] [] h = gv mMod_least 172 [vR 120, l1, l2, l3, l4, vI (sye (thn n ce1 so ha ye) n), vI (n : Int)] [] h := by
  have hn := hW.1
  intro d
  induction d with
  | zero =>
    intro k hk
    have : k = n := by omega
    subst this
    obtain ⟨x0, x2, x7, x11, x12, x13, x14, x15, T, F, o, T1, F1, t0, t1, t2, f0, r⟩ := S
    unfold MoA at o
    rw [e_Mod_least_144]
    simp (disch := omega) only [e_Mod_least_0, e_Mod_least_1, e_Mod_least_4, e_Mod_least_5, e_Mod_least_6, e_Mod_least_7, e_Mod_least_8, e_Mod_least_9, e_Mod_least_10, e_Mod_least_13, e_Mod_least_14, e_Mod_least_15, e_Mod_least_18, e_Mod_least_19, e_Mod_least_20, e_Mod_least_23, e_Mod_least_25, e_Mod_least_28, e_Mod_least_29, e_Mod_least_32, e_Mod_least_33, e_Mod_least_34, e_Mod_least_35, e_Mod_least_38, e_Mod_least_41, e_Mod_least_44, e_Mod_least_45, e_Mod_least_46, e_Mod_least_47, e_Mod_least_48, e_Mod_least_49, e_Mod_least_50, e_Mod_least_53, e_Mod_least_54, e_Mod_least_55, e_Mod_least_58, e_Mod_least_59, e_Mod_least_62, e_Mod_least_63, e_Mod_least_65, e_Mod_least_66, e_Mod_least_67, e_Mod_least_68, e_Mod_least_71, e_Mod_least_71b, e_Mod_least_74, e_Mod_least_75, e_Mod_least_78, e_Mod_least_79, e_Mod_least_80, e_Mod_least_81, e_Mod_least_84, e_Mod_least_87, e_Mod_least_90, e_Mod_least_93, e_Mod_least_94, e_Mod_least_95, e_Mod_least_97, e_Mod_least_99, e_Mod_least_99b, e_Mod_least_102, e_Mod_least_103, e_Mod_least_105, e_Mod_least_107, e_Mod_least_108, e_Mod_least_111, e_Mod_least_112, e_Mod_least_115, e_Mod_least_116, e_Mod_least_117, e_Mod_least_120, e_Mod_least_122, e_Mod_least_123, e_Mod_least_124, e_Mod_least_125, e_Mod_least_128, e_Mod_least_130, e_Mod_least_131, e_Mod_least_132, e_Mod_least_135, e_Mod_least_138, e_Mod_least_139, e_Mod_least_141, e_Mod_least_142, e_Mod_least_146, e_Mod_least_147, e_Mod_least_150, e_Mod_least_151, e_Mod_least_152, e_Mod_least_155, e_Mod_least_157, e_Mod_least_158, e_Mod_least_160, e_Mod_least_163, e_Mod_least_164, e_Mod_least_166, e_Mod_least_169, e_Mod_least_174, e_Mod_least_175, e_Mod_least_178, e_Mod_least_180, e_Mod_least_181, e_Mod_least_182, e_Mod_least_184, e_Mod_least_186, e_Mod_least_187, e_Mod_least_190, e_Mod_least_191, e_Mod_least_194, e_Mod_least_195, e_Mod_least_198, e_Mod_least_200, e_Mod_least_201, e_Mod_least_202, e_Mod_least_205, e_Mod_least_207, e_Mod_least_208, e_Mod_least_209, e_Mod_least_212, e_Mod_least_215, e_Mod_least_216, e_Mod_least_217, e_Mod_least_220, e_Mod_least_222, e_Mod_least_225, e_Mod_least_226, e_Mod_least_229, e_Mod_least_230, alk_in, ask_in, blk_in, bsk_in, qlk_in, ack_in, rcv_in, rcA_in, bk_i, bk_l, bk_v, hS_same, hS_ne, hS_hS, hS_2, am_10, am_01, am_00, if_true, if_false, gf_12_0, pf_12_0, gf_12_1, pf_12_1, gf_12_2, pf_12_2, gf_12_3, pf_12_3, gf_12_4, pf_12_4, gf_12_5, pf_12_5, gf_12_6, pf_12_6, gf_12_7, pf_12_7, gf_12_8, pf_12_8, gf_12_9, pf_12_9, gf_12_10, pf_12_10, gf_12_11, pf_12_11, gf_12_12, pf_12_12, gf_12_13, pf_12_13, gf_12_14, pf_12_14, gf_12_15, pf_12_15, gf_12_16, pf_12_16, gf_12_17, pf_12_17, gf_12_18, pf_12_18, gf_12_19, pf_12_19, gf_12_20, pf_12_20, o, T1, tl_1, t1]
    rw [if_neg (by omega)]
  | succ d ih =>
    intro k hk
    have c1 := m_then S hW (show k < n by omega)
    have e2 := ih (k + 1) (by omega)
    have e3 : sye (thn n ce1 so ha ye) (k + 1) = sye (thn n ce1 so ha ye) k + thn n ce1 so ha ye k := rfl
    rw [e3] at e2
    obtain ⟨x0, x2, x7, x11, x12, x13, x14, x15, T, F, o, T1, F1, t0, t1, t2, f0, r⟩ := S
    unfold MoA at o
    rw [e_Mod_least_144, ← e2]
    simp (disch := omega) only [e_Mod_least_0, e_Mod_least_1, e_Mod_least_4, e_Mod_least_5, e_Mod_least_6, e_Mod_least_7, e_Mod_least_8, e_Mod_least_9, e_Mod_least_10, e_Mod_least_13, e_Mod_least_14, e_Mod_least_15, e_Mod_least_18, e_Mod_least_19, e_Mod_least_20, e_Mod_least_23, e_Mod_least_25, e_Mod_least_28, e_Mod_least_29, e_Mod_least_32, e_Mod_least_33, e_Mod_least_34, e_Mod_least_35, e_Mod_least_38, e_Mod_least_41, e_Mod_least_44, e_Mod_least_45, e_Mod_least_46, e_Mod_least_47, e_Mod_least_48, e_Mod_least_49, e_Mod_least_50, e_Mod_least_53, e_Mod_least_54, e_Mod_least_55, e_Mod_least_58, e_Mod_least_59, e_Mod_least_62, e_Mod_least_63, e_Mod_least_65, e_Mod_least_66, e_Mod_least_67, e_Mod_least_68, e_Mod_least_71, e_Mod_least_71b, e_Mod_least_74, e_Mod_least_75, e_Mod_least_78, e_Mod_least_79, e_Mod_least_80, e_Mod_least_81, e_Mod_least_84, e_Mod_least_87, e_Mod_least_90, e_Mod_least_93, e_Mod_least_94, e_Mod_least_95, e_Mod_least_97, e_Mod_least_99, e_Mod_least_99b, e_Mod_least_102, e_Mod_least_103, e_Mod_least_105, e_Mod_least_107, e_Mod_least_108, e_Mod_least_111, e_Mod_least_112, e_Mod_least_115, e_Mod_least_116, e_Mod_least_117, e_Mod_least_120, e_Mod_least_122, e_Mod_least_123, e_Mod_least_124, e_Mod_least_125, e_Mod_least_128, e_Mod_least_130, e_Mod_least_131, e_Mod_least_132, e_Mod_least_135, e_Mod_least_138, e_Mod_least_139, e_Mod_least_141, e_Mod_least_142, e_Mod_least_146, e_Mod_least_147, e_Mod_least_150, e_Mod_least_151, e_Mod_least_152, e_Mod_least_155, e_Mod_least_157, e_Mod_least_158, e_Mod_least_160, e_Mod_least_163, e_Mod_least_164, e_Mod_least_166, e_Mod_least_169, e_Mod_least_174, e_Mod_least_175, e_Mod_least_178, e_Mod_least_180, e_Mod_least_181, e_Mod_least_182, e_Mod_least_184, e_Mod_least_186, e_Mod_least_187, e_Mod_least_190, e_Mod_least_191, e_Mod_least_194, e_Mod_least_195, e_Mod_least_198, e_Mod_least_200, e_Mod_least_201, e_Mod_least_202, e_Mod_least_205, e_Mod_least_207, e_Mod_least_208, e_Mod_least_209, e_Mod_least_212, e_Mod_least_215, e_Mod_least_216, e_Mod_least_217, e_Mod_least_220, e_Mod_least_222, e_Mod_least_225, e_Mod_least_226, e_Mod_least_229, e_Mod_least_230, alk_in, ask_in, blk_in, bsk_in, qlk_in, ack_in, rcv_in, rcA_in, bk_i, bk_l, bk_v, hS_same, hS_ne, hS_hS, hS_2, am_10, am_01, am_00, if_true, if_false, gf_12_0, pf_12_0, gf_12_1, pf_12_1, gf_12_2, pf_12_2, gf_12_3, pf_12_3, gf_12_4, pf_12_4, gf_12_5, pf_12_5, gf_12_6, pf_12_6, gf_12_7, pf_12_7, gf_12_8, pf_12_8, gf_12_9, pf_12_9, gf_12_10, pf_12_10, gf_12_11, pf_12_11, gf_12_12, pf_12_12, gf_12_13, pf_12_13, gf_12_14, pf_12_14, gf_12_15, pf_12_15, gf_12_16, pf_12_16, gf_12_17, pf_12_17, gf_12_18, pf_12_18, gf_12_19, pf_12_19, gf_12_20, pf_12_20, o, T1, tl_1, t1, c1]
    rw [if_pos (by omega)]; rfl
/-- where all lie comes to a row -/
theorem lz_note {k : Nat} {M w : Nat → Int} {x0 x2 x7 x11 x12 x13 x14 x15 : am_V} (hn : n ≤ 6) (hk : k ≤ 6) (hM : MnO n k M ce) {l2 l3 l4 l5 : am_V} : ∀ (d i : Nat) (h : am_H) (Z : Nat → Int), i + d = k → MoA h x0 x2 x7 x11 x12 x13 x14 x15 → h.1 132 = cI 0 6 M → h.1 133 = cI 0 6 w → h.1 131 = cI 0 6 Z → (∀ j, j < i → Z (M j).toNat = w j) → (∀ m, m < n → (∀ j, j < k → ¬ M j = (m : Int)) → Z m = -9) → ∃ h' Z' l6, gv mMod_least 184 [vR 120, vI (k : Int), l2, l3, l4, l5, vI (i : Int)] [] h = gv mMod_least 215 [vR 120, vI (k : Int), l2, l3, l4, l5, l6] [] h' ∧ h'.1 131 = cI 0 6 Z' ∧ Ly n k M w (fun _ => -9) Z' ∧ FE [131] h h' := by
  intro d
  induction d with
  | zero =>
    intro i h Z hi o A1 R1 Z1 H1 H2
    have : i = k := by omega
    subst this
    refine ⟨h, Z, vI (i : Int), ?_, Z1, ⟨H1, H2⟩, FE.rf⟩
    rw [e_Mod_least_184]
    simp (disch := omega) only [e_Mod_least_0, e_Mod_least_1, e_Mod_least_4, e_Mod_least_5, e_Mod_least_6, e_Mod_least_7, e_Mod_least_8, e_Mod_least_9, e_Mod_least_10, e_Mod_least_13, e_Mod_least_14, e_Mod_least_15, e_Mod_least_18, e_Mod_least_19, e_Mod_least_20, e_Mod_least_23, e_Mod_least_25, e_Mod_least_28, e_Mod_least_29, e_Mod_least_32, e_Mod_least_33, e_Mod_least_34, e_Mod_least_35, e_Mod_least_38, e_Mod_least_41, e_Mod_least_44, e_Mod_least_45, e_Mod_least_46, e_Mod_least_47, e_Mod_least_48, e_Mod_least_49, e_Mod_least_50, e_Mod_least_53, e_Mod_least_54, e_Mod_least_55, e_Mod_least_58, e_Mod_least_59, e_Mod_least_62, e_Mod_least_63, e_Mod_least_65, e_Mod_least_66, e_Mod_least_67, e_Mod_least_68, e_Mod_least_71, e_Mod_least_71b, e_Mod_least_74, e_Mod_least_75, e_Mod_least_78, e_Mod_least_79, e_Mod_least_80, e_Mod_least_81, e_Mod_least_84, e_Mod_least_87, e_Mod_least_90, e_Mod_least_93, e_Mod_least_94, e_Mod_least_95, e_Mod_least_97, e_Mod_least_99, e_Mod_least_99b, e_Mod_least_102, e_Mod_least_103, e_Mod_least_105, e_Mod_least_107, e_Mod_least_108, e_Mod_least_111, e_Mod_least_112, e_Mod_least_115, e_Mod_least_116, e_Mod_least_117, e_Mod_least_120, e_Mod_least_122, e_Mod_least_123, e_Mod_least_124, e_Mod_least_125, e_Mod_least_128, e_Mod_least_130, e_Mod_least_131, e_Mod_least_132, e_Mod_least_135, e_Mod_least_138, e_Mod_least_139, e_Mod_least_141, e_Mod_least_142, e_Mod_least_144, e_Mod_least_146, e_Mod_least_147, e_Mod_least_150, e_Mod_least_151, e_Mod_least_152, e_Mod_least_155, e_Mod_least_157, e_Mod_least_158, e_Mod_least_160, e_Mod_least_163, e_Mod_least_164, e_Mod_least_166, e_Mod_least_169, e_Mod_least_172, e_Mod_least_174, e_Mod_least_175, e_Mod_least_178, e_Mod_least_180, e_Mod_least_181, e_Mod_least_182, e_Mod_least_186, e_Mod_least_187, e_Mod_least_190, e_Mod_least_191, e_Mod_least_194, e_Mod_least_195, e_Mod_least_198, e_Mod_least_200, e_Mod_least_201, e_Mod_least_202, e_Mod_least_205, e_Mod_least_207, e_Mod_least_208, e_Mod_least_209, e_Mod_least_212, e_Mod_least_216, e_Mod_least_217, e_Mod_least_220, e_Mod_least_222, e_Mod_least_225, e_Mod_least_226, e_Mod_least_229, e_Mod_least_230, alk_in, ask_in, blk_in, bsk_in, qlk_in, ack_in, rcv_in, rcA_in, bk_i, bk_l, bk_v, hS_same, hS_ne, hS_hS, hS_2, am_10, am_01, am_00, if_true, if_false]
    rw [if_neg (by omega)]
  | succ d ih =>
    intro i h Z hi o A1 R1 Z1 H1 H2
    obtain ⟨m, m1, m2, -⟩ := hM.1 i (by omega)
    have f1 : FE [131] h (hS h 131 (cI 0 6 (fun j => if j = m then w i else Z j))) := FE.st (by decide)
    obtain ⟨h2, Z', l6, e2, Z2, L2, f2⟩ := ih (i + 1) (hS h 131 (cI 0 6 (fun j => if j = m then w i else Z j))) _ (by omega) (f1.at o (by decide)) (f1.at A1 (by decide)) (f1.at R1 (by decide)) hS_same (fun j hj => by
      obtain ⟨m', a1, a2, -⟩ := hM.1 j (by omega)
      rw [a2, Int.toNat_natCast]
      by_cases q : j = i
      · subst q
        rw [if_pos (by omega)]
      · rw [if_neg (fun z => q (hM.2.1 j i (by omega) (by omega) (by omega)))]
        have z := H1 j (by omega)
        rw [a2, Int.toNat_natCast] at z
        exact z) (fun m' hm' H => by
      rw [if_neg (fun z => H i (by omega) (by omega))]
      exact H2 m' hm' H)
    refine ⟨h2, Z', l6, ?_, Z2, L2, f1.tr f2⟩
    unfold MoA at o
    rw [e_Mod_least_184, ← e2]
    simp (disch := omega) only [e_Mod_least_0, e_Mod_least_1, e_Mod_least_4, e_Mod_least_5, e_Mod_least_6, e_Mod_least_7, e_Mod_least_8, e_Mod_least_9, e_Mod_least_10, e_Mod_least_13, e_Mod_least_14, e_Mod_least_15, e_Mod_least_18, e_Mod_least_19, e_Mod_least_20, e_Mod_least_23, e_Mod_least_25, e_Mod_least_28, e_Mod_least_29, e_Mod_least_32, e_Mod_least_33, e_Mod_least_34, e_Mod_least_35, e_Mod_least_38, e_Mod_least_41, e_Mod_least_44, e_Mod_least_45, e_Mod_least_46, e_Mod_least_47, e_Mod_least_48, e_Mod_least_49, e_Mod_least_50, e_Mod_least_53, e_Mod_least_54, e_Mod_least_55, e_Mod_least_58, e_Mod_least_59, e_Mod_least_62, e_Mod_least_63, e_Mod_least_65, e_Mod_least_66, e_Mod_least_67, e_Mod_least_68, e_Mod_least_71, e_Mod_least_71b, e_Mod_least_74, e_Mod_least_75, e_Mod_least_78, e_Mod_least_79, e_Mod_least_80, e_Mod_least_81, e_Mod_least_84, e_Mod_least_87, e_Mod_least_90, e_Mod_least_93, e_Mod_least_94, e_Mod_least_95, e_Mod_least_97, e_Mod_least_99, e_Mod_least_99b, e_Mod_least_102, e_Mod_least_103, e_Mod_least_105, e_Mod_least_107, e_Mod_least_108, e_Mod_least_111, e_Mod_least_112, e_Mod_least_115, e_Mod_least_116, e_Mod_least_117, e_Mod_least_120, e_Mod_least_122, e_Mod_least_123, e_Mod_least_124, e_Mod_least_125, e_Mod_least_128, e_Mod_least_130, e_Mod_least_131, e_Mod_least_132, e_Mod_least_135, e_Mod_least_138, e_Mod_least_139, e_Mod_least_141, e_Mod_least_142, e_Mod_least_144, e_Mod_least_146, e_Mod_least_147, e_Mod_least_150, e_Mod_least_151, e_Mod_least_152, e_Mod_least_155, e_Mod_least_157, e_Mod_least_158, e_Mod_least_160, e_Mod_least_163, e_Mod_least_164, e_Mod_least_166, e_Mod_least_169, e_Mod_least_172, e_Mod_least_174, e_Mod_least_175, e_Mod_least_178, e_Mod_least_180, e_Mod_least_181, e_Mod_least_182, e_Mod_least_186, e_Mod_least_187, e_Mod_least_190, e_Mod_least_191, e_Mod_least_194, e_Mod_least_195, e_Mod_least_198, e_Mod_least_200, e_Mod_least_201, e_Mod_least_202, e_Mod_least_205, e_Mod_least_207, e_Mod_least_208, e_Mod_least_209, e_Mod_least_212, e_Mod_least_216, e_Mod_least_217, e_Mod_least_220, e_Mod_least_222, e_Mod_least_225, e_Mod_least_226, e_Mod_least_229, e_Mod_least_230, alk_in, ask_in, blk_in, bsk_in, qlk_in, ack_in, rcv_in, rcA_in, bk_i, bk_l, bk_v, hS_same, hS_ne, hS_hS, hS_2, am_10, am_01, am_00, if_true, if_false, gf_12_0, pf_12_0, gf_12_1, pf_12_1, gf_12_2, pf_12_2, gf_12_3, pf_12_3, gf_12_4, pf_12_4, gf_12_5, pf_12_5, gf_12_6, pf_12_6, gf_12_7, pf_12_7, gf_12_8, pf_12_8, gf_12_9, pf_12_9, gf_12_10, pf_12_10, gf_12_11, pf_12_11, gf_12_12, pf_12_12, gf_12_13, pf_12_13, gf_12_14, pf_12_14, gf_12_15, pf_12_15, gf_12_16, pf_12_16, gf_12_17, pf_12_17, gf_12_18, pf_12_18, gf_12_19, pf_12_19, gf_12_20, pf_12_20, o, A1, R1, Z1, m2, Int.toNat_natCast]
    rw [if_pos (by omega)]; rfl
/-- a way is laid, summed, noted if it is better; then the next -/
theorem lz_turn {k : Nat} {A M : Nat → Int} (hW : Wf n c ce so ha ye) (hk : k = (gm ce A n).1) (hMe : M = (gm ce A n).2) {l2 l5 l6 : am_V} {h : am_H} {w bw Z ce1 : Nat → Int} {b : Int} (hb : 0 ≤ b ∧ b ≤ 1000) (S : RepM h n c lo t ce1 so ha ye) (H1 : ∀ m, m < n → (∀ j, j < k → ¬ M j = (m : Int)) → ce1 m = ce m) (A1 : h.1 132 = cI 0 6 M) (R1 : h.1 133 = cI 0 6 w) (hr : ∀ i, i < 6 → 0 ≤ w i ∧ w i ≤ 8) (hc : ∀ i, i < k → 0 ≤ w i ∧ w i < c) (hi : ∀ i j, i < k → j < k → w i = w j → i = j) (Z1 : h.1 131 = cI 0 6 Z) (Z2 : ¬ yb k M so ha ye w < b → Ly n k M bw (fun _ => -9) Z) (Z3 : ∀ m, m < n → (∀ j, j < k → ¬ M j = (m : Int)) → Z m = -9) : ∃ h' Z' ce2 l5' l6', gv mMod_least 97 [vR 120, vI (k : Int), l2, vI b, vI 1, l5, l6] [] h = gv mMod_least 97 [vR 120, vI (k : Int), l2, vI (if yb k M so ha ye w < b then yb k M so ha ye w else b), vI (match nxt k w with | none => 0 | some _ => 1), l5', l6'] [] h' ∧ h'.1 131 = cI 0 6 Z' ∧ Ly n k M (if yb k M so ha ye w < b then w else bw) (fun _ => -9) Z' ∧ h'.1 133 = cI 0 6 (match nxt k w with | none => w | some g => g) ∧ RepM h' n c lo t ce2 so ha ye ∧ (∀ m, m < n → (∀ j, j < k → ¬ M j = (m : Int)) → ce2 m = ce m) ∧ FE [124, 131, 133] h h' := by
  have hn := hW.1
  have gl := gm_le ce A n
  have mno := gm_mno ce A n
  rw [← hk] at gl
  rw [← hk, ← hMe] at mno
  have h6 : k ≤ 6 := by omega
  obtain ⟨h1, ce2, e1, S1, L1, f1⟩ := lz_lay (c := c) (lo := lo) (t := t) (so := so) (ha := ha) (ye := ye) (l2 := l2) (l3 := vI b) (l4 := vI 1) (l6 := l6) hn h6 mno k 0 h ce1 (by omega) S A1 R1 (fun j hj => by omega) H1
  have hW1 := ly_wf hW mno hc hi L1
  have es : sye (thn n ce2 so ha ye) n = yb k M so ha ye w := by
    subst hk
    subst hMe
    exact ly_sum hW hc hi L1
  have yr := yb_b k M so ha ye w
  have e2 := lz_sum S1 hW1 (l1 := vI (k : Int)) (l2 := l2) (l3 := vI b) (l4 := vI 1) n 0 (by omega)
  rw [es] at e2
  have Z11 := f1.at Z1 (by decide)
  have R11 := f1.at R1 (by decide)
  have A11 := f1.at A1 (by decide)
  have S1' := S1
  obtain ⟨x0, x2, x7, x11, x12, x13, x14, x15, T, F, o, T1, F1, t0, t1, t2, f0, r⟩ := S1'
  have st : gv mMod_least 97 [vR 120, vI (k : Int), l2, vI b, vI 1, l5, l6] [] h = gv mMod_least 172 [vR 120, vI (k : Int), l2, vI b, vI 1, vI (yb k M so ha ye w), vI (n : Int)] [] h1 := by
    rw [← e2, e_Mod_least_97]
    simp (disch := omega) only [e_Mod_least_0, e_Mod_least_1, e_Mod_least_4, e_Mod_least_5, e_Mod_least_6, e_Mod_least_7, e_Mod_least_8, e_Mod_least_9, e_Mod_least_10, e_Mod_least_13, e_Mod_least_14, e_Mod_least_15, e_Mod_least_18, e_Mod_least_19, e_Mod_least_20, e_Mod_least_23, e_Mod_least_25, e_Mod_least_28, e_Mod_least_29, e_Mod_least_32, e_Mod_least_33, e_Mod_least_34, e_Mod_least_35, e_Mod_least_38, e_Mod_least_41, e_Mod_least_44, e_Mod_least_45, e_Mod_least_46, e_Mod_least_47, e_Mod_least_48, e_Mod_least_49, e_Mod_least_50, e_Mod_least_53, e_Mod_least_54, e_Mod_least_55, e_Mod_least_58, e_Mod_least_59, e_Mod_least_62, e_Mod_least_63, e_Mod_least_65, e_Mod_least_66, e_Mod_least_67, e_Mod_least_68, e_Mod_least_71, e_Mod_least_71b, e_Mod_least_74, e_Mod_least_75, e_Mod_least_78, e_Mod_least_79, e_Mod_least_80, e_Mod_least_81, e_Mod_least_84, e_Mod_least_87, e_Mod_least_90, e_Mod_least_93, e_Mod_least_94, e_Mod_least_95, e_Mod_least_99, e_Mod_least_99b, e_Mod_least_102, e_Mod_least_103, e_Mod_least_107, e_Mod_least_108, e_Mod_least_111, e_Mod_least_112, e_Mod_least_115, e_Mod_least_116, e_Mod_least_117, e_Mod_least_120, e_Mod_least_122, e_Mod_least_123, e_Mod_least_124, e_Mod_least_125, e_Mod_least_128, e_Mod_least_130, e_Mod_least_131, e_Mod_least_132, e_Mod_least_135, e_Mod_least_139, e_Mod_least_141, e_Mod_least_142, e_Mod_least_146, e_Mod_least_147, e_Mod_least_150, e_Mod_least_151, e_Mod_least_152, e_Mod_least_155, e_Mod_least_157, e_Mod_least_158, e_Mod_least_160, e_Mod_least_163, e_Mod_least_164, e_Mod_least_166, e_Mod_least_169, e_Mod_least_172, e_Mod_least_174, e_Mod_least_175, e_Mod_least_178, e_Mod_least_180, e_Mod_least_181, e_Mod_least_182, e_Mod_least_184, e_Mod_least_186, e_Mod_least_187, e_Mod_least_190, e_Mod_least_191, e_Mod_least_194, e_Mod_least_195, e_Mod_least_198, e_Mod_least_200, e_Mod_least_201, e_Mod_least_202, e_Mod_least_205, e_Mod_least_207, e_Mod_least_208, e_Mod_least_209, e_Mod_least_212, e_Mod_least_215, e_Mod_least_216, e_Mod_least_217, e_Mod_least_220, e_Mod_least_222, e_Mod_least_225, e_Mod_least_226, e_Mod_least_229, e_Mod_least_230, alk_in, ask_in, blk_in, bsk_in, qlk_in, ack_in, rcv_in, rcA_in, bk_i, bk_l, bk_v, hS_same, hS_ne, hS_hS, hS_2, am_10, am_01, am_00, if_true, if_false]
    refine Eq.trans e1 ?_
    simp (disch := omega) only [e_Mod_least_138, e_Mod_least_139, e_Mod_least_141, e_Mod_least_142]
    rfl
  rw [st]
  by_cases q : yb k M so ha ye w < b
  · rw [if_pos q, if_pos q]
    obtain ⟨h2, Z', l6', e3, Z4, L3, f3⟩ := lz_note (l2 := l2) (l3 := vI (yb k M so ha ye w)) (l4 := vI 1) (l5 := vI (yb k M so ha ye w)) hn h6 mno k 0 h1 Z (by omega) o A11 R11 Z11 (fun j hj => by omega) Z3
    obtain ⟨h4, e4, R4, f4⟩ := q_next_row (k := k) (f3.at o (by decide)) h6 (f3.at R11 (by decide)) (fun j hj => by have := hr j hj; omega)
    refine ⟨h4, Z', ce2, vI (yb k M so ha ye w), l6', ?_, f4.at Z4 (by decide), L3, R4, (S1.fe f3 (by decide)).fe f4 (by decide), L1.2, ((f1.wd (by decide)).tr (f3.wd (by decide))).tr (f4.wd (by decide))⟩
    have o2 := f3.at o (by decide)
    unfold MoA at o o2
    simp (disch := omega) only [e_Mod_least_172, e_Mod_least_174, e_Mod_least_175, e_Mod_least_178, e_Mod_least_180, e_Mod_least_181, e_Mod_least_182, alk_in, ask_in, blk_in, bsk_in, qlk_in, ack_in, rcv_in, rcA_in, bk_i, bk_l, bk_v, hS_same, hS_ne, hS_hS, hS_2, am_10, am_01, am_00, if_true, if_false]
    rw [if_pos q]
    refine Eq.trans e3 ?_
    simp (disch := omega) only [e_Mod_least_215, e_Mod_least_216, e_Mod_least_217, e_Mod_least_220, e_Mod_least_222, alk_in, ask_in, blk_in, bsk_in, qlk_in, ack_in, rcv_in, rcA_in, bk_i, bk_l, bk_v, hS_same, hS_ne, hS_hS, hS_2, am_10, am_01, am_00, if_true, if_false, gf_12_0, pf_12_0, gf_12_1, pf_12_1, gf_12_2, pf_12_2, gf_12_3, pf_12_3, gf_12_4, pf_12_4, gf_12_5, pf_12_5, gf_12_6, pf_12_6, gf_12_7, pf_12_7, gf_12_8, pf_12_8, gf_12_9, pf_12_9, gf_12_10, pf_12_10, gf_12_11, pf_12_11, gf_12_12, pf_12_12, gf_12_13, pf_12_13, gf_12_14, pf_12_14, gf_12_15, pf_12_15, gf_12_16, pf_12_16, gf_12_17, pf_12_17, gf_12_18, pf_12_18, gf_12_19, pf_12_19, gf_12_20, pf_12_20, o2, e4]
    first | rfl | (cases nxt k w <;> rfl)
  · rw [if_neg q, if_neg q]
    obtain ⟨h4, e4, R4, f4⟩ := q_next_row (k := k) o h6 R11 (fun j hj => by have := hr j hj; omega)
    refine ⟨h4, Z, ce2, vI (yb k M so ha ye w), vI (n : Int), ?_, f4.at Z11 (by decide), Z2 q, R4, S1.fe f4 (by decide), L1.2, (f1.wd (by decide)).tr (f4.wd (by decide))⟩
    unfold MoA at o
    simp (disch := omega) only [e_Mod_least_172, e_Mod_least_174, e_Mod_least_175, e_Mod_least_215, e_Mod_least_216, e_Mod_least_217, e_Mod_least_220, e_Mod_least_222, alk_in, ask_in, blk_in, bsk_in, qlk_in, ack_in, rcv_in, rcA_in, bk_i, bk_l, bk_v, hS_same, hS_ne, hS_hS, hS_2, am_10, am_01, am_00, if_true, if_false, gf_12_0, pf_12_0, gf_12_1, pf_12_1, gf_12_2, pf_12_2, gf_12_3, pf_12_3, gf_12_4, pf_12_4, gf_12_5, pf_12_5, gf_12_6, pf_12_6, gf_12_7, pf_12_7, gf_12_8, pf_12_8, gf_12_9, pf_12_9, gf_12_10, pf_12_10, gf_12_11, pf_12_11, gf_12_12, pf_12_12, gf_12_13, pf_12_13, gf_12_14, pf_12_14, gf_12_15, pf_12_15, gf_12_16, pf_12_16, gf_12_17, pf_12_17, gf_12_18, pf_12_18, gf_12_19, pf_12_19, gf_12_20, pf_12_20, o, e4]
    rw [if_neg q]
    first | rfl | (cases nxt k w <;> rfl)
theorem lz_loop {k : Nat} {A M : Nat → Int} (hW : Wf n c ce so ha ye) (hk : k = (gm ce A n).1) (hMe : M = (gm ce A n).2) {l2 : am_V} : ∀ (f : Nat) (h : am_H) (w bw Z ce1 : Nat → Int) (b : Int) (l5 l6 : am_V), wend k (f + 1) w → (0 ≤ b ∧ b ≤ 1000) → RepM h n c lo t ce1 so ha ye → (∀ m, m < n → (∀ j, j < k → ¬ M j = (m : Int)) → ce1 m = ce m) → h.1 132 = cI 0 6 M → h.1 133 = cI 0 6 w → (∀ i, i < 6 → 0 ≤ w i ∧ w i ≤ 8) → (∀ i, i < k → 0 ≤ w i ∧ w i < c) → (∀ i j, i < k → j < k → w i = w j → i = j) → h.1 131 = cI 0 6 Z → (¬ yb k M so ha ye w < b → Ly n k M bw (fun _ => -9) Z) → (∀ m, m < n → (∀ j, j < k → ¬ M j = (m : Int)) → Z m = -9) → ∃ h' Z' w' ce2 l4 l5' l6', gv mMod_least 97 [vR 120, vI (k : Int), l2, vI b, vI 1, l5, l6] [] h = gv mMod_least 225 [vR 120, vI (k : Int), l2, vI (srch k M so ha ye f w (if yb k M so ha ye w < b then w else bw) (if yb k M so ha ye w < b then yb k M so ha ye w else b)).1, l4, l5', l6'] [] h' ∧ h'.1 131 = cI 0 6 Z' ∧ Ly n k M (srch k M so ha ye f w (if yb k M so ha ye w < b then w else bw) (if yb k M so ha ye w < b then yb k M so ha ye w else b)).2 (fun _ => -9) Z' ∧ h'.1 133 = cI 0 6 w' ∧ (∀ i, i < 6 → 0 ≤ w' i ∧ w' i ≤ 8) ∧ RepM h' n c lo t ce2 so ha ye ∧ FE [124, 131, 133] h h' := by
  have hn := hW.1
  have gl := gm_le ce A n
  rw [← hk] at gl
  have h6 : k ≤ 6 := by omega
  have none_end : ∀ (f : Nat) (w bw : Nat → Int) (b : Int), nxt k w = none → srch k M so ha ye f w bw b = (b, bw) := by
    intro f w bw b e
    cases f with
    | zero => rfl
    | succ f =>
      unfold srch
      rw [e]
  intro f
  induction f with
  | zero =>
    intro h w bw Z ce1 b l5 l6 hend hb S H1 A1 R1 hr hc hi Z1 Z2 Z3
    obtain ⟨h1, Z', ce2, l5', l6', e1, Z4, L4, R4, S4, H4, f4⟩ := lz_turn (l2 := l2) (l5 := l5) (l6 := l6) hW hk hMe hb S H1 A1 R1 hr hc hi Z1 Z2 Z3
    cases e : nxt k w with
    | none =>
      rw [e] at e1 R4
      simp only at e1 R4
      rw [none_end _ _ _ _ e]
      refine ⟨h1, Z', w, ce2, vI 0, l5', l6', ?_, Z4, L4, R4, hr, S4, f4⟩
      rw [e1, e_Mod_least_97]
      simp (disch := omega) only [e_Mod_least_0, e_Mod_least_1, e_Mod_least_4, e_Mod_least_5, e_Mod_least_6, e_Mod_least_7, e_Mod_least_8, e_Mod_least_9, e_Mod_least_10, e_Mod_least_13, e_Mod_least_14, e_Mod_least_15, e_Mod_least_18, e_Mod_least_19, e_Mod_least_20, e_Mod_least_23, e_Mod_least_25, e_Mod_least_28, e_Mod_least_29, e_Mod_least_32, e_Mod_least_33, e_Mod_least_34, e_Mod_least_35, e_Mod_least_38, e_Mod_least_41, e_Mod_least_44, e_Mod_least_45, e_Mod_least_46, e_Mod_least_47, e_Mod_least_48, e_Mod_least_49, e_Mod_least_50, e_Mod_least_53, e_Mod_least_54, e_Mod_least_55, e_Mod_least_58, e_Mod_least_59, e_Mod_least_62, e_Mod_least_63, e_Mod_least_65, e_Mod_least_66, e_Mod_least_67, e_Mod_least_68, e_Mod_least_71, e_Mod_least_71b, e_Mod_least_74, e_Mod_least_75, e_Mod_least_78, e_Mod_least_79, e_Mod_least_80, e_Mod_least_81, e_Mod_least_84, e_Mod_least_87, e_Mod_least_90, e_Mod_least_93, e_Mod_least_94, e_Mod_least_95, e_Mod_least_99, e_Mod_least_99b, e_Mod_least_103, e_Mod_least_105, e_Mod_least_107, e_Mod_least_108, e_Mod_least_111, e_Mod_least_112, e_Mod_least_115, e_Mod_least_116, e_Mod_least_117, e_Mod_least_120, e_Mod_least_122, e_Mod_least_123, e_Mod_least_124, e_Mod_least_125, e_Mod_least_128, e_Mod_least_130, e_Mod_least_131, e_Mod_least_132, e_Mod_least_135, e_Mod_least_138, e_Mod_least_139, e_Mod_least_141, e_Mod_least_142, e_Mod_least_144, e_Mod_least_146, e_Mod_least_147, e_Mod_least_150, e_Mod_least_151, e_Mod_least_152, e_Mod_least_155, e_Mod_least_157, e_Mod_least_158, e_Mod_least_160, e_Mod_least_163, e_Mod_least_164, e_Mod_least_166, e_Mod_least_169, e_Mod_least_172, e_Mod_least_174, e_Mod_least_175, e_Mod_least_178, e_Mod_least_180, e_Mod_least_181, e_Mod_least_182, e_Mod_least_184, e_Mod_least_186, e_Mod_least_187, e_Mod_least_190, e_Mod_least_191, e_Mod_least_194, e_Mod_least_195, e_Mod_least_198, e_Mod_least_200, e_Mod_least_201, e_Mod_least_202, e_Mod_least_205, e_Mod_least_207, e_Mod_least_208, e_Mod_least_209, e_Mod_least_212, e_Mod_least_215, e_Mod_least_216, e_Mod_least_217, e_Mod_least_220, e_Mod_least_222, e_Mod_least_226, e_Mod_least_229, e_Mod_least_230, alk_in, ask_in, blk_in, bsk_in, qlk_in, ack_in, rcv_in, rcA_in, bk_i, bk_l, bk_v, hS_same, hS_ne, hS_hS, hS_2, am_10, am_01, am_00, if_true, if_false]
    | some g =>
      exfalso
      unfold wend at hend
      rw [e] at hend
      exact hend
  | succ f ih =>
    intro h w bw Z ce1 b l5 l6 hend hb S H1 A1 R1 hr hc hi Z1 Z2 Z3
    obtain ⟨h1, Z', ce2, l5', l6', e1, Z4, L4, R4, S4, H4, f4⟩ := lz_turn (l2 := l2) (l5 := l5) (l6 := l6) hW hk hMe hb S H1 A1 R1 hr hc hi Z1 Z2 Z3
    cases e : nxt k w with
    | none =>
      rw [e] at e1 R4
      simp only at e1 R4
      rw [none_end _ _ _ _ e]
      refine ⟨h1, Z', w, ce2, vI 0, l5', l6', ?_, Z4, L4, R4, hr, S4, f4⟩
      rw [e1, e_Mod_least_97]
      simp (disch := omega) only [e_Mod_least_0, e_Mod_least_1, e_Mod_least_4, e_Mod_least_5, e_Mod_least_6, e_Mod_least_7, e_Mod_least_8, e_Mod_least_9, e_Mod_least_10, e_Mod_least_13, e_Mod_least_14, e_Mod_least_15, e_Mod_least_18, e_Mod_least_19, e_Mod_least_20, e_Mod_least_23, e_Mod_least_25, e_Mod_least_28, e_Mod_least_29, e_Mod_least_32, e_Mod_least_33, e_Mod_least_34, e_Mod_least_35, e_Mod_least_38, e_Mod_least_41, e_Mod_least_44, e_Mod_least_45, e_Mod_least_46, e_Mod_least_47, e_Mod_least_48, e_Mod_least_49, e_Mod_least_50, e_Mod_least_53, e_Mod_least_54, e_Mod_least_55, e_Mod_least_58, e_Mod_least_59, e_Mod_least_62, e_Mod_least_63, e_Mod_least_65, e_Mod_least_66, e_Mod_least_67, e_Mod_least_68, e_Mod_least_71, e_Mod_least_71b, e_Mod_least_74, e_Mod_least_75, e_Mod_least_78, e_Mod_least_79, e_Mod_least_80, e_Mod_least_81, e_Mod_least_84, e_Mod_least_87, e_Mod_least_90, e_Mod_least_93, e_Mod_least_94, e_Mod_least_95, e_Mod_least_99, e_Mod_least_99b, e_Mod_least_103, e_Mod_least_105, e_Mod_least_107, e_Mod_least_108, e_Mod_least_111, e_Mod_least_112, e_Mod_least_115, e_Mod_least_116, e_Mod_least_117, e_Mod_least_120, e_Mod_least_122, e_Mod_least_123, e_Mod_least_124, e_Mod_least_125, e_Mod_least_128, e_Mod_least_130, e_Mod_least_131, e_Mod_least_132, e_Mod_least_135, e_Mod_least_138, e_Mod_least_139, e_Mod_least_141, e_Mod_least_142, e_Mod_least_144, e_Mod_least_146, e_Mod_least_147, e_Mod_least_150, e_Mod_least_151, e_Mod_least_152, e_Mod_least_155, e_Mod_least_157, e_Mod_least_158, e_Mod_least_160, e_Mod_least_163, e_Mod_least_164, e_Mod_least_166, e_Mod_least_169, e_Mod_least_172, e_Mod_least_174, e_Mod_least_175, e_Mod_least_178, e_Mod_least_180, e_Mod_least_181, e_Mod_least_182, e_Mod_least_184, e_Mod_least_186, e_Mod_least_187, e_Mod_least_190, e_Mod_least_191, e_Mod_least_194, e_Mod_least_195, e_Mod_least_198, e_Mod_least_200, e_Mod_least_201, e_Mod_least_202, e_Mod_least_205, e_Mod_least_207, e_Mod_least_208, e_Mod_least_209, e_Mod_least_212, e_Mod_least_215, e_Mod_least_216, e_Mod_least_217, e_Mod_least_220, e_Mod_least_222, e_Mod_least_226, e_Mod_least_229, e_Mod_least_230, alk_in, ask_in, blk_in, bsk_in, qlk_in, ack_in, rcv_in, rcA_in, bk_i, bk_l, bk_v, hS_same, hS_ne, hS_hS, hS_2, am_10, am_01, am_00, if_true, if_false]
    | some g =>
      rw [e] at e1 R4
      simp only at e1 R4
      unfold wend at hend
      rw [e] at hend
      simp only at hend
      have pk := nxt_prm (Nat.le_refl k) e
      have p6 := nxt_prm h6 e
      have yr := yb_b k M so ha ye w
      obtain ⟨h2, Z5, w', ce3, l4, l5'', l6'', e2, Z6, L6, R6, r6, S6, f6⟩ := ih h1 g (if yb k M so ha ye w < b then w else bw) Z' ce2 (if yb k M so ha ye w < b then yb k M so ha ye w else b) l5' l6' hend (by split <;> omega) S4 H4 (f4.at A1 (by decide)) R4 (fun i hi => by obtain ⟨j, hj, z⟩ := p6.1 i hi; rw [z]; exact hr j hj) (fun i hi => by obtain ⟨j, hj, z⟩ := pk.1 i hi; rw [z]; exact hc j hj) (pk.2.2 hi) Z4 (fun _ => L4) (fun m hm H => L4.2 m hm H)
      have es : srch k M so ha ye (f + 1) w (if yb k M so ha ye w < b then w else bw) (if yb k M so ha ye w < b then yb k M so ha ye w else b) = srch k M so ha ye f g (if yb k M so ha ye g < (if yb k M so ha ye w < b then yb k M so ha ye w else b) then g else (if yb k M so ha ye w < b then w else bw)) (if yb k M so ha ye g < (if yb k M so ha ye w < b then yb k M so ha ye w else b) then yb k M so ha ye g else (if yb k M so ha ye w < b then yb k M so ha ye w else b)) := by
        generalize (if yb k M so ha ye w < b then yb k M so ha ye w else b) = b1
        generalize (if yb k M so ha ye w < b then w else bw) = w1
        show (match nxt k w with
          | none => (b1, w1)
          | some g => if yb k M so ha ye g < b1 then srch k M so ha ye f g g (yb k M so ha ye g) else srch k M so ha ye f g w1 b1) = _
        rw [e]
        simp only
        by_cases q : yb k M so ha ye g < b1
        · rw [if_pos q, if_pos q, if_pos q]
        · rw [if_neg q, if_neg q, if_neg q]
      rw [es]
      exact ⟨h2, Z5, w', ce3, l4, l5'', l6'', e1.trans e2, Z6, L6, R6, r6, S6, f4.tr f6⟩
theorem q_least0 {h : am_H} {A B : Nat → Int} (hW : Wf n c ce so ha ye) (S : RepM h n c lo t ce so ha ye) (s0 : Sh h 130 19) (s1 : Sh h 131 6) (A1 : h.1 132 = cI 0 6 A) (B1 : h.1 133 = cI 0 6 B) (hB : ∀ i, i < 6 → 0 ≤ B i ∧ B i ≤ 8) : ∃ h' Z w', ev mMod_least [vR 120] h = some (some (vI (lieR n ce so ha ye).1), h') ∧ RepM h' n c lo t ce so ha ye ∧ Sh h' 130 19 ∧ h'.1 131 = cI 0 6 Z ∧ (∀ m : Nat, m < n → Z m = if who (lK n ce) (lM n ce) (m : Int) = -9 then -9 else (lieR n ce so ha ye).2 (who (lK n ce) (lM n ce) (m : Int)).toNat) ∧ Sh h' 132 6 ∧ h'.1 133 = cI 0 6 w' ∧ (∀ i, i < 6 → 0 ≤ w' i ∧ w' i ≤ 8) ∧ FE [124, 130, 131, 132, 133] h h' := by
  have hn := hW.1
  have hc9 := hW.2.2.1
  have gl := gm_le ce A n
  have mno := gm_mno ce A n
  have w0 := way0 (A := A) (B := B) hW
  obtain ⟨Z0, z0⟩ := s1
  obtain ⟨h1, e1, S1, As1, f1⟩ := m_holds S hn s0
  obtain ⟨h2, e2, R2, f2⟩ := lz_cells (A := A) (B := B) (l3 := vU) (l4 := vU) (l5 := vU) (l6 := vU) hW c 0 h1 (by omega) S1 (f1.at B1 (by decide))
  have S2 := S1.fe f2 (by decide)
  obtain ⟨h3, Z3, e3, A3, Z31, Z32, f3⟩ := lz_men (A := A) (l1 := vI ((gc n ce B c).1 : Int)) (l4 := vU) (l5 := vU) (l6 := vU) hW n 0 h2 Z0 (by omega) S2 (f2.at (f1.at A1 (by decide)) (by decide)) (f2.at (f1.at z0 (by decide)) (by decide)) (fun j hj => by omega)
  have S3 := S2.fe f3 (by decide)
  have hr := gc_r n ce B hB 9 (by omega)
  rw [w0.2.1] at hr
  have yr := yb_b (gm ce A n).1 (gm ce A n).2 so ha ye (gc n ce B c).2
  have q : yb (gm ce A n).1 (gm ce A n).2 so ha ye (gc n ce B c).2 < 999 := by omega
  obtain ⟨h4, Z4, w', ce2, l4, l5', l6', e4, Z41, L4, R4, r4, S4, f4⟩ := lz_loop (l2 := vI ((gm ce A n).1 : Int)) hW rfl rfl 719 h3 (gc n ce B c).2 (gc n ce B c).2 Z3 ce 999 vU vU (sort_end (by omega) w0.2.2.2.1) (by omega) S3 (fun _ _ _ => rfl) A3 (f3.at R2 (by decide)) hr w0.2.2.1 w0.2.2.2.2 Z31 (fun z => absurd q z) (fun m hm _ => Z32 m hm)
  rw [if_pos q, if_pos q] at e4 L4
  have As4 : AsM h4 n t ce so ye := ((As1.fe f2 (by decide)).fe f3 (by decide)).fe f4 (by decide)
  obtain ⟨h5, e5, S5, As5, f5⟩ := m_lets S4 hn As4
  obtain ⟨k1, k2, k3, k4⟩ := lieR_co (A := A) (B := B) hW
  rw [w0.2.1] at k3 k4
  rw [k3] at e4
  refine ⟨h5, Z4, w', ?_, S5, As5.sh, f5.at Z41 (by decide), fun m hm => ?_, ⟨_, f5.at (f4.at A3 (by decide)) (by decide)⟩, f5.at R4 (by decide), r4, (((f1.wd (by decide)).tr (f2.wd (by decide))).tr (f3.wd (by decide))).tr ((f4.wd (by decide)).tr (f5.wd (by decide)))⟩
  · have S0 := S
    obtain ⟨x0, x2, x7, x11, x12, x13, x14, x15, T, F, o, -⟩ := S
    obtain ⟨y0, y2, y7, y11, y12, y13, y14, y15, T', F', o', -⟩ := S4
    unfold MoA at o o'
    rw [ev_Mod_least]
    simp (disch := omega) only [e_Mod_least_0, e_Mod_least_1, e_Mod_least_4, e_Mod_least_5, e_Mod_least_6, e_Mod_least_7, alk_in, ask_in, blk_in, bsk_in, qlk_in, ack_in, rcv_in, rcA_in, bk_i, bk_l, bk_v, hS_same, hS_ne, hS_hS, hS_2, am_10, am_01, am_00, if_true, if_false, gf_12_0, pf_12_0, gf_12_1, pf_12_1, gf_12_2, pf_12_2, gf_12_3, pf_12_3, gf_12_4, pf_12_4, gf_12_5, pf_12_5, gf_12_6, pf_12_6, gf_12_7, pf_12_7, gf_12_8, pf_12_8, gf_12_9, pf_12_9, gf_12_10, pf_12_10, gf_12_11, pf_12_11, gf_12_12, pf_12_12, gf_12_13, pf_12_13, gf_12_14, pf_12_14, gf_12_15, pf_12_15, gf_12_16, pf_12_16, gf_12_17, pf_12_17, gf_12_18, pf_12_18, gf_12_19, pf_12_19, gf_12_20, pf_12_20, o, e1]
    refine Eq.trans e2 ?_
    simp (disch := omega) only [e_Mod_least_44, e_Mod_least_45, e_Mod_least_46, e_Mod_least_47, alk_in, ask_in, blk_in, bsk_in, qlk_in, ack_in, rcv_in, rcA_in, bk_i, bk_l, bk_v, hS_same, hS_ne, hS_hS, hS_2, am_10, am_01, am_00, if_true, if_false]
    refine Eq.trans e3 ?_
    rw [w0.1]
    simp (disch := omega) only [e_Mod_least_90, e_Mod_least_93, e_Mod_least_94, e_Mod_least_95, alk_in, ask_in, blk_in, bsk_in, qlk_in, ack_in, rcv_in, rcA_in, bk_i, bk_l, bk_v, hS_same, hS_ne, hS_hS, hS_2, am_10, am_01, am_00, if_true, if_false]
    refine Eq.trans e4 ?_
    simp (disch := omega) only [e_Mod_least_225, e_Mod_least_226, e_Mod_least_229, e_Mod_least_230, alk_in, ask_in, blk_in, bsk_in, qlk_in, ack_in, rcv_in, rcA_in, bk_i, bk_l, bk_v, hS_same, hS_ne, hS_hS, hS_2, am_10, am_01, am_00, if_true, if_false, gf_12_0, pf_12_0, gf_12_1, pf_12_1, gf_12_2, pf_12_2, gf_12_3, pf_12_3, gf_12_4, pf_12_4, gf_12_5, pf_12_5, gf_12_6, pf_12_6, gf_12_7, pf_12_7, gf_12_8, pf_12_8, gf_12_9, pf_12_9, gf_12_10, pf_12_10, gf_12_11, pf_12_11, gf_12_12, pf_12_12, gf_12_13, pf_12_13, gf_12_14, pf_12_14, gf_12_15, pf_12_15, gf_12_16, pf_12_16, gf_12_17, pf_12_17, gf_12_18, pf_12_18, gf_12_19, pf_12_19, gf_12_20, pf_12_20, o', e5]
  · rw [k1] at L4 mno
    rcases who_range (lK n ce) (lM n ce) (m : Int) with ⟨h1', h2'⟩ | ⟨j, h1', h2', h3'⟩
    · rw [if_pos h1', L4.2 m hm (fun j hj e => h2' j hj ((k2 j hj).symm.trans e))]
    · rw [h2', if_neg (by omega), Int.toNat_natCast, ← k4 j h1', k1]
      have z := L4.1 j h1'
      rw [k2 j h1', h3', Int.toNat_natCast] at z
      exact z
end LeastM
def MLi (h : am_H) : Prop := Sh h 130 19 ∧ Sh h 131 6 ∧ Sh h 132 6 ∧ ∃ B, h.1 133 = cI 0 6 B ∧ ∀ i, i < 6 → 0 ≤ B i ∧ B i ≤ 8
theorem MLi.fe {h h' : am_H} {l : List Nat} (S : MLi h) (f : FE l h h') (q : 130 ∉ l ∧ 131 ∉ l ∧ 132 ∉ l ∧ 133 ∉ l) : MLi h' := by
  obtain ⟨a, b, c, B, d, e⟩ := S
  exact ⟨a.fe f q.1, b.fe f q.2.1, c.fe f q.2.2.1, B, f.at d q.2.2.2, e⟩
section LiesM
variable {h : am_H} {G : Gl} {T : Tm}
theorem q_least (S : RM h G T) (hw : WT G T) (L : MLi h) : ∃ h' Z, ev mMod_least [vR 120] h = some (some (vI (lieG G T).1), h') ∧ RM h' G T ∧ h'.1 131 = cI 0 6 Z ∧ (∀ m : Nat, m < G.1 → Z m = aLies G T m) ∧ MLi h' ∧ FE [124, 130, 131, 132, 133] h h' := by
  obtain ⟨n, c, lq, ha⟩ := G
  obtain ⟨t, ce, so, ye⟩ := T
  unfold RM at S
  unfold WT at hw
  simp only at S hw
  obtain ⟨L1, L2, ⟨A, L3⟩, B, L4, L5⟩ := L
  obtain ⟨h', Z, w', e, S', s1, z1, z2, s2, r1, r2, f⟩ := q_least0 (Wf.co hw (trn_4 (n := n))) (RepM.co S (trn_4 (n := n))) L1 L2 L3 L4 L5
  refine ⟨h', Z, e, RepM.co S' (fun j hj => by obtain ⟨x1, x2, x3, x4⟩ := trn_4 (ce := ce) (so := so) (ha := ha) (ye := ye) j hj; exact ⟨x1.symm, x2.symm, x3.symm, x4.symm⟩), z1, fun m hm => ?_, ⟨s1, ⟨_, z1⟩, s2, w', r1, r2⟩, f⟩
  simp only at hm
  unfold aLies
  simp only
  rw [if_pos (by omega), z2 m hm]
theorem lies_r (G : Gl) (T : Tm) : 0 ≤ (lieG G T).1 := by
  have key : ∀ (k : Nat) (M so ha ye : Nat → Int) (f : Nat) (w bw : Nat → Int) (b : Int), 0 ≤ b → 0 ≤ (srch k M so ha ye f w bw b).1 := by
    intro k M so ha ye f
    induction f with
    | zero => intro w bw b hb; exact hb
    | succ f ih =>
      intro w bw b hb
      unfold srch
      cases e : nxt k w with
      | none => exact hb
      | some g =>
        simp only
        by_cases q : yb k M so ha ye g < b
        · rw [if_pos q]; exact ih _ _ _ (yb_b _ _ _ _ _ _).1
        · rw [if_neg q]; exact ih _ _ _ hb
  exact key _ _ _ _ _ _ _ _ _ (yb_b _ _ _ _ _ _).1
theorem lies_u (G : Gl) (T : Tm) (hn : G.1 ≤ 6) : (lieG G T).1 ≤ 1000 := by
  have key : ∀ (k : Nat) (M so ha ye : Nat → Int) (f : Nat) (w bw : Nat → Int) (b : Int), b ≤ 1000 → (srch k M so ha ye f w bw b).1 ≤ 1000 := by
    intro k M so ha ye f
    induction f with
    | zero => intro w bw b hb; exact hb
    | succ f ih =>
      intro w bw b hb
      unfold srch
      cases e : nxt k w with
      | none => exact hb
      | some g =>
        simp only
        by_cases q : yb k M so ha ye g < b
        · rw [if_pos q]; exact ih _ _ _ (by omega)
        · rw [if_neg q]; exact ih _ _ _ hb
  refine key _ _ _ _ _ _ _ _ _ ?_
  have a := yb_b (lK G.1 (trn G.1 T.2.1)) (lM G.1 (trn G.1 T.2.1)) (trn G.1 T.2.2.1) (trn G.1 G.2.2.2) (trn G.1 T.2.2.2) (lW G.1 (trn G.1 T.2.1))
  have b : lK G.1 (trn G.1 T.2.1) ≤ G.1 := gm_le _ _ _
  omega
theorem q_lies (S : RM h G T) (hw : WT G T) (L : MLi h) {m : Int} (hm : rg32 m) : ∃ h', ev mMod_lies [vR 120, vI m] h = some (some (vI (aLies G T m)), h') ∧ RM h' G T ∧ MLi h' ∧ FE [124, 130, 131, 132, 133] h h' := by
  have hn : G.1 ≤ 6 := hw.1
  have c1 := m_isMan S hn hm
  have S' := S
  obtain ⟨x0, x2, x7, x11, x12, x13, x14, x15, T0, F, o, -⟩ := S'
  unfold MoA at o
  unfold rg32 at hm
  by_cases q : 0 ≤ m ∧ m < G.1
  · simp only [q, and_self, if_true] at c1
    obtain ⟨k, rfl⟩ : ∃ k : Nat, m = (k : Int) := ⟨m.toNat, by omega⟩
    obtain ⟨h1, Z, e1, S1, z1, z2, L1, f1⟩ := q_least S hw L
    have r1 := lies_r G T
    have r2 := lies_u G T hn
    have S1' := S1
    obtain ⟨y0, y2, y7, y11, y12, y13, y14, y15, T1, F1, o1, -⟩ := S1'
    unfold MoA at o1
    refine ⟨h1, ?_, S1, L1, f1⟩
    rw [ev_Mod_lies]
    simp (disch := omega) only [e_Mod_lies_0, e_Mod_lies_1, e_Mod_lies_2, e_Mod_lies_5, e_Mod_lies_5b, e_Mod_lies_8, e_Mod_lies_9, e_Mod_lies_10, e_Mod_lies_11, e_Mod_lies_14, e_Mod_lies_17, e_Mod_lies_18, e_Mod_lies_21, e_Mod_lies_22, e_Mod_lies_23, e_Mod_lies_26, e_Mod_lies_28, alk_in, ask_in, blk_in, bsk_in, qlk_in, ack_in, rcv_in, rcA_in, bk_i, bk_l, bk_v, hS_same, hS_ne, hS_hS, hS_2, am_10, am_01, am_00, if_true, if_false, gf_12_0, pf_12_0, gf_12_1, pf_12_1, gf_12_2, pf_12_2, gf_12_3, pf_12_3, gf_12_4, pf_12_4, gf_12_5, pf_12_5, gf_12_6, pf_12_6, gf_12_7, pf_12_7, gf_12_8, pf_12_8, gf_12_9, pf_12_9, gf_12_10, pf_12_10, gf_12_11, pf_12_11, gf_12_12, pf_12_12, gf_12_13, pf_12_13, gf_12_14, pf_12_14, gf_12_15, pf_12_15, gf_12_16, pf_12_16, gf_12_17, pf_12_17, gf_12_18, pf_12_18, gf_12_19, pf_12_19, gf_12_20, pf_12_20, o, o1, c1, e1, z1, Int.toNat_natCast, z2 k (by omega)]
    rw [if_neg (by omega)]
  · simp only [q, if_false] at c1
    refine ⟨h, ?_, S, L, FE.rf⟩
    unfold aLies
    rw [if_neg q, ev_Mod_lies]
    simp (disch := omega) only [e_Mod_lies_0, e_Mod_lies_1, e_Mod_lies_2, e_Mod_lies_5, e_Mod_lies_5b, e_Mod_lies_8, e_Mod_lies_9, e_Mod_lies_10, e_Mod_lies_11, e_Mod_lies_14, e_Mod_lies_17, e_Mod_lies_18, e_Mod_lies_21, e_Mod_lies_22, e_Mod_lies_23, e_Mod_lies_26, e_Mod_lies_28, alk_in, ask_in, blk_in, bsk_in, qlk_in, ack_in, rcv_in, rcA_in, bk_i, bk_l, bk_v, hS_same, hS_ne, hS_hS, hS_2, am_10, am_01, am_00, if_true, if_false, gf_12_0, pf_12_0, gf_12_1, pf_12_1, gf_12_2, pf_12_2, gf_12_3, pf_12_3, gf_12_4, pf_12_4, gf_12_5, pf_12_5, gf_12_6, pf_12_6, gf_12_7, pf_12_7, gf_12_8, pf_12_8, gf_12_9, pf_12_9, gf_12_10, pf_12_10, gf_12_11, pf_12_11, gf_12_12, pf_12_12, gf_12_13, pf_12_13, gf_12_14, pf_12_14, gf_12_15, pf_12_15, gf_12_16, pf_12_16, gf_12_17, pf_12_17, gf_12_18, pf_12_18, gf_12_19, pf_12_19, gf_12_20, pf_12_20, o, c1]
theorem q_now {tr L kk : Int} {k : Nat} (O : MO h tr L k kk) (S : RM h G T) (hw : WT G T) (Li : MLi h) {w : Int} (hr : rg32 w) : ∃ h', ev mMod_now [vR 120, vI w] h = some (some (vI (aNow G T k w)), h') ∧ RM h' G T ∧ MLi h' ∧ FE [124, 130, 131, 132, 133] h h' := by
  have c1 := m_allIn S hw
  have c2 := m_allYears S hw
  have S' := S
  obtain ⟨x0, x2, x7, x11, x12, x13, x14, x15, T0, F, o', T1, F1, t0, t1, t2, f0, r⟩ := S'
  obtain ⟨y12, y13, y14, y15, o⟩ := O
  unfold MoA at o
  unfold rg32 at hr
  unfold aNow
  rw [ev_Mod_now]
  by_cases w0 : w = 0
  · subst w0; exact ⟨h, by simp (disch := omega) only [e_Mod_now_0, e_Mod_now_1c0, e_Mod_now_1c1, e_Mod_now_1c2, e_Mod_now_1c3, e_Mod_now_1c4, e_Mod_now_1d, e_Mod_now_36, e_Mod_now_37, e_Mod_now_40, e_Mod_now_41, e_Mod_now_42, e_Mod_now_43, e_Mod_now_44, e_Mod_now_47, e_Mod_now_48, e_Mod_now_49, e_Mod_now_52, e_Mod_now_53, e_Mod_now_54, e_Mod_now_57, e_Mod_now_58, e_Mod_now_59, e_Mod_now_62, e_Mod_now_63, e_Mod_now_64, alk_in, ask_in, blk_in, bsk_in, qlk_in, ack_in, rcv_in, rcA_in, bk_i, bk_l, bk_v, hS_same, hS_ne, hS_hS, hS_2, am_10, am_01, am_00, if_true, if_false, gf_12_0, pf_12_0, gf_12_1, pf_12_1, gf_12_2, pf_12_2, gf_12_3, pf_12_3, gf_12_4, pf_12_4, gf_12_5, pf_12_5, gf_12_6, pf_12_6, gf_12_7, pf_12_7, gf_12_8, pf_12_8, gf_12_9, pf_12_9, gf_12_10, pf_12_10, gf_12_11, pf_12_11, gf_12_12, pf_12_12, gf_12_13, pf_12_13, gf_12_14, pf_12_14, gf_12_15, pf_12_15, gf_12_16, pf_12_16, gf_12_17, pf_12_17, gf_12_18, pf_12_18, gf_12_19, pf_12_19, gf_12_20, pf_12_20, o, F1, tl_0, f0], S, Li, FE.rf⟩
  by_cases w1 : w = 1
  · subst w1; exact ⟨h, by simp (disch := omega) only [e_Mod_now_0, e_Mod_now_1c0, e_Mod_now_1c1, e_Mod_now_1c2, e_Mod_now_1c3, e_Mod_now_1c4, e_Mod_now_1d, e_Mod_now_36, e_Mod_now_37, e_Mod_now_40, e_Mod_now_41, e_Mod_now_42, e_Mod_now_43, e_Mod_now_44, e_Mod_now_47, e_Mod_now_48, e_Mod_now_49, e_Mod_now_52, e_Mod_now_53, e_Mod_now_54, e_Mod_now_57, e_Mod_now_58, e_Mod_now_59, e_Mod_now_62, e_Mod_now_63, e_Mod_now_64, alk_in, ask_in, blk_in, bsk_in, qlk_in, ack_in, rcv_in, rcA_in, bk_i, bk_l, bk_v, hS_same, hS_ne, hS_hS, hS_2, am_10, am_01, am_00, if_true, if_false, gf_12_0, pf_12_0, gf_12_1, pf_12_1, gf_12_2, pf_12_2, gf_12_3, pf_12_3, gf_12_4, pf_12_4, gf_12_5, pf_12_5, gf_12_6, pf_12_6, gf_12_7, pf_12_7, gf_12_8, pf_12_8, gf_12_9, pf_12_9, gf_12_10, pf_12_10, gf_12_11, pf_12_11, gf_12_12, pf_12_12, gf_12_13, pf_12_13, gf_12_14, pf_12_14, gf_12_15, pf_12_15, gf_12_16, pf_12_16, gf_12_17, pf_12_17, gf_12_18, pf_12_18, gf_12_19, pf_12_19, gf_12_20, pf_12_20, o, c1], S, Li, FE.rf⟩
  by_cases w2 : w = 2
  · subst w2; exact ⟨h, by simp (disch := omega) only [e_Mod_now_0, e_Mod_now_1c0, e_Mod_now_1c1, e_Mod_now_1c2, e_Mod_now_1c3, e_Mod_now_1c4, e_Mod_now_1d, e_Mod_now_36, e_Mod_now_37, e_Mod_now_40, e_Mod_now_41, e_Mod_now_42, e_Mod_now_43, e_Mod_now_44, e_Mod_now_47, e_Mod_now_48, e_Mod_now_49, e_Mod_now_52, e_Mod_now_53, e_Mod_now_54, e_Mod_now_57, e_Mod_now_58, e_Mod_now_59, e_Mod_now_62, e_Mod_now_63, e_Mod_now_64, alk_in, ask_in, blk_in, bsk_in, qlk_in, ack_in, rcv_in, rcA_in, bk_i, bk_l, bk_v, hS_same, hS_ne, hS_hS, hS_2, am_10, am_01, am_00, if_true, if_false, gf_12_0, pf_12_0, gf_12_1, pf_12_1, gf_12_2, pf_12_2, gf_12_3, pf_12_3, gf_12_4, pf_12_4, gf_12_5, pf_12_5, gf_12_6, pf_12_6, gf_12_7, pf_12_7, gf_12_8, pf_12_8, gf_12_9, pf_12_9, gf_12_10, pf_12_10, gf_12_11, pf_12_11, gf_12_12, pf_12_12, gf_12_13, pf_12_13, gf_12_14, pf_12_14, gf_12_15, pf_12_15, gf_12_16, pf_12_16, gf_12_17, pf_12_17, gf_12_18, pf_12_18, gf_12_19, pf_12_19, gf_12_20, pf_12_20, o, c2, w0, w1], S, Li, FE.rf⟩
  by_cases w3 : w = 3
  · subst w3
    obtain ⟨h1, Z, e1, S1, z1, z2, L1, f1⟩ := q_least S hw Li
    exact ⟨h1, by simp (disch := omega) only [e_Mod_now_0, e_Mod_now_1c0, e_Mod_now_1c1, e_Mod_now_1c2, e_Mod_now_1c3, e_Mod_now_1c4, e_Mod_now_1d, e_Mod_now_36, e_Mod_now_37, e_Mod_now_40, e_Mod_now_41, e_Mod_now_42, e_Mod_now_43, e_Mod_now_44, e_Mod_now_47, e_Mod_now_48, e_Mod_now_49, e_Mod_now_52, e_Mod_now_53, e_Mod_now_54, e_Mod_now_57, e_Mod_now_58, e_Mod_now_59, e_Mod_now_62, e_Mod_now_63, e_Mod_now_64, alk_in, ask_in, blk_in, bsk_in, qlk_in, ack_in, rcv_in, rcA_in, bk_i, bk_l, bk_v, hS_same, hS_ne, hS_hS, hS_2, am_10, am_01, am_00, if_true, if_false, gf_12_0, pf_12_0, gf_12_1, pf_12_1, gf_12_2, pf_12_2, gf_12_3, pf_12_3, gf_12_4, pf_12_4, gf_12_5, pf_12_5, gf_12_6, pf_12_6, gf_12_7, pf_12_7, gf_12_8, pf_12_8, gf_12_9, pf_12_9, gf_12_10, pf_12_10, gf_12_11, pf_12_11, gf_12_12, pf_12_12, gf_12_13, pf_12_13, gf_12_14, pf_12_14, gf_12_15, pf_12_15, gf_12_16, pf_12_16, gf_12_17, pf_12_17, gf_12_18, pf_12_18, gf_12_19, pf_12_19, gf_12_20, pf_12_20, o, e1, w0, w1, w2], S1, L1, f1⟩
  by_cases w4 : w = 4
  · subst w4; exact ⟨h, by simp (disch := omega) only [e_Mod_now_0, e_Mod_now_1c0, e_Mod_now_1c1, e_Mod_now_1c2, e_Mod_now_1c3, e_Mod_now_1c4, e_Mod_now_1d, e_Mod_now_36, e_Mod_now_37, e_Mod_now_40, e_Mod_now_41, e_Mod_now_42, e_Mod_now_43, e_Mod_now_44, e_Mod_now_47, e_Mod_now_48, e_Mod_now_49, e_Mod_now_52, e_Mod_now_53, e_Mod_now_54, e_Mod_now_57, e_Mod_now_58, e_Mod_now_59, e_Mod_now_62, e_Mod_now_63, e_Mod_now_64, alk_in, ask_in, blk_in, bsk_in, qlk_in, ack_in, rcv_in, rcA_in, bk_i, bk_l, bk_v, hS_same, hS_ne, hS_hS, hS_2, am_10, am_01, am_00, if_true, if_false, gf_12_0, pf_12_0, gf_12_1, pf_12_1, gf_12_2, pf_12_2, gf_12_3, pf_12_3, gf_12_4, pf_12_4, gf_12_5, pf_12_5, gf_12_6, pf_12_6, gf_12_7, pf_12_7, gf_12_8, pf_12_8, gf_12_9, pf_12_9, gf_12_10, pf_12_10, gf_12_11, pf_12_11, gf_12_12, pf_12_12, gf_12_13, pf_12_13, gf_12_14, pf_12_14, gf_12_15, pf_12_15, gf_12_16, pf_12_16, gf_12_17, pf_12_17, gf_12_18, pf_12_18, gf_12_19, pf_12_19, gf_12_20, pf_12_20, o, w0, w1, w2, w3], S, Li, FE.rf⟩
  · exact ⟨h, by simp (disch := omega) only [e_Mod_now_0, e_Mod_now_1c0, e_Mod_now_1c1, e_Mod_now_1c2, e_Mod_now_1c3, e_Mod_now_1c4, e_Mod_now_1d, e_Mod_now_36, e_Mod_now_37, e_Mod_now_40, e_Mod_now_41, e_Mod_now_42, e_Mod_now_43, e_Mod_now_44, e_Mod_now_47, e_Mod_now_48, e_Mod_now_49, e_Mod_now_52, e_Mod_now_53, e_Mod_now_54, e_Mod_now_57, e_Mod_now_58, e_Mod_now_59, e_Mod_now_62, e_Mod_now_63, e_Mod_now_64, alk_in, ask_in, blk_in, bsk_in, qlk_in, ack_in, rcv_in, rcA_in, bk_i, bk_l, bk_v, hS_same, hS_ne, hS_hS, hS_2, am_10, am_01, am_00, if_true, if_false, gf_12_0, pf_12_0, gf_12_1, pf_12_1, gf_12_2, pf_12_2, gf_12_3, pf_12_3, gf_12_4, pf_12_4, gf_12_5, pf_12_5, gf_12_6, pf_12_6, gf_12_7, pf_12_7, gf_12_8, pf_12_8, gf_12_9, pf_12_9, gf_12_10, pf_12_10, gf_12_11, pf_12_11, gf_12_12, pf_12_12, gf_12_13, pf_12_13, gf_12_14, pf_12_14, gf_12_15, pf_12_15, gf_12_16, pf_12_16, gf_12_17, pf_12_17, gf_12_18, pf_12_18, gf_12_19, pf_12_19, gf_12_20, pf_12_20, o, w0, w1, w2, w3, w4], S, Li, FE.rf⟩
end LiesM
