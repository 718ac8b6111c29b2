/-! putsOn, carry: the model's answers -/
section Soon3
variable {h : am_H} {G : Gl} {T : Tm}
theorem lm_soonC {m : Nat} {w : Int} (hr : w = 0 ∨ w = 1) (hm : m < G.1) (hw : WT G T) : ∀ (d k : Nat) (h : am_H) (x8 x9 : am_V), k + d = G.2.1 → MSc h G T → ∃ h', gv mMod_soonest 31 [vR 120, vI (m : Int), vI 0, vI w, vI (sn (candC G T m) k).1, vI (sn (candC G T m) k).2, vI (G.2.1 : Int), vI (k : Int), x8, x9] [] h = some (some (vI (aSn w (candC G T m) G.2.1)), h') ∧ MSc h' G T ∧ FE [124, 129] h h' := by
  have hc9 := hw.2.2.1
  intro d
  induction d with
  | zero =>
    intro k h x8 x9 hk S
    have : k = G.2.1 := by omega
    subst this
    refine ⟨h, ?_, S, FE.rf⟩
    have b1 := sn_b (candC_r G T m) G.2.1
    rw [e_Mod_soonest_31]
    unfold aSn sn2
    simp (disch := omega) only [e_Mod_soonest_0, e_Mod_soonest_1, e_Mod_soonest_4, e_Mod_soonest_6, e_Mod_soonest_8, e_Mod_soonest_10, e_Mod_soonest_12, e_Mod_soonest_13, e_Mod_soonest_13b, e_Mod_soonest_16, e_Mod_soonest_17, e_Mod_soonest_20, e_Mod_soonest_21, e_Mod_soonest_24, e_Mod_soonest_25, e_Mod_soonest_26, e_Mod_soonest_28, e_Mod_soonest_29, e_Mod_soonest_33, e_Mod_soonest_35, e_Mod_soonest_38, e_Mod_soonest_39, e_Mod_soonest_39b, e_Mod_soonest_42, e_Mod_soonest_43, e_Mod_soonest_45, e_Mod_soonest_48, e_Mod_soonest_50, e_Mod_soonest_53, e_Mod_soonest_54, e_Mod_soonest_56, e_Mod_soonest_59, e_Mod_soonest_60, e_Mod_soonest_63, e_Mod_soonest_64, e_Mod_soonest_67, e_Mod_soonest_68, e_Mod_soonest_70, e_Mod_soonest_71, e_Mod_soonest_74, e_Mod_soonest_75, e_Mod_soonest_75b, e_Mod_soonest_78, e_Mod_soonest_80, e_Mod_soonest_81, e_Mod_soonest_82, e_Mod_soonest_85, e_Mod_soonest_86, e_Mod_soonest_87, e_Mod_soonest_88, e_Mod_soonest_90, e_Mod_soonest_91, e_Mod_soonest_93, e_Mod_soonest_93b, e_Mod_soonest_96, e_Mod_soonest_97, e_Mod_soonest_98, e_Mod_soonest_101, e_Mod_soonest_104, e_Mod_soonest_106, e_Mod_soonest_108, e_Mod_soonest_109, e_Mod_soonest_112, e_Mod_soonest_114, e_Mod_soonest_116, e_Mod_soonest_119, e_Mod_soonest_121, e_Mod_soonest_123, e_Mod_soonest_126, e_Mod_soonest_128, e_Mod_soonest_131, e_Mod_soonest_133, e_Mod_soonest_135, e_Mod_soonest_137, e_Mod_soonest_139, e_Mod_soonest_142, e_Mod_soonest_144, e_Mod_soonest_146, e_Mod_soonest_149, e_Mod_soonest_151, e_Mod_soonest_154, e_Mod_soonest_156, e_Mod_soonest_158, e_Mod_soonest_161, e_Mod_soonest_164, e_Mod_soonest_166, e_Mod_soonest_168, e_Mod_soonest_171, e_Mod_soonest_172, e_Mod_soonest_172b, e_Mod_soonest_175, e_Mod_soonest_177, e_Mod_soonest_180, e_Mod_soonest_182, alk_in, ask_in, blk_in, bsk_in, qlk_in, ack_in, rcv_in, rcA_in, bk_i, bk_l, bk_v, hS_same, hS_ne, hS_hS, hS_2, am_10, am_01, am_00, if_true, if_false]
    rw [if_neg (by omega)]
    by_cases y : (sn (candC G T m) G.2.1).1 = -9
    · rw [if_pos y, if_pos y]; rcases hr with z | z <;> subst z <;> simp [y]
    · rw [if_neg y, if_neg y]; rcases hr with z | z <;> subst z <;> simp
  | succ d ih =>
    intro k h x8 x9 hk S
    have F0 := S.1
    have R0 : RepM h G.1 G.2.1 G.2.2.1 T.1 T.2.1 T.2.2.1 G.2.2.2 T.2.2.2 := S.1
    have c4 := m_whoIn R0 hw (x := (k : Int)) (by omega)
    have wb := who_b G.1 T.2.1 (k : Int)
    obtain ⟨y0, y2, y7, y11, y12, y13, y14, y15, T', F, o, ta, b, -⟩ := F0
    have cr := candC_r G T m
    have hn := hw.1
    have b1 := sn_b cr k
    have b3 := cr k
    have t1 : (1 + (m : Int)).toNat = 1 + m := by omega
    have es : sn (candC G T m) (k + 1) = if ¬ candC G T m k = -9 ∧ candC G T m k < (sn (candC G T m) k).2 then ((k : Int), candC G T m k) else sn (candC G T m) k := rfl
    by_cases q : who G.1 T.2.1 (k : Int) = -9 ∨ who G.1 T.2.1 (k : Int) = (m : Int)
    · obtain ⟨h1, h2, e1, e2, S2, f1, f2⟩ := m_tryC S hw hm (k := k) (by omega) q b
      obtain ⟨h3, e3, S3, f3⟩ := ih (k + 1) h2 (vI 1) (vI (candC G T m k)) (by omega) S2
      refine ⟨h3, ?_, S3, f2.tr f3⟩
      have o1 := f1.at o (by decide)
      have o2 := f2.at o (by decide)
      unfold MoA at o o1 o2
      have key : gv mMod_soonest 63 [vR 120, vI (m : Int), vI 0, vI w, vI (sn (candC G T m) k).1, vI (sn (candC G T m) k).2, vI (G.2.1 : Int), vI (k : Int), x8, x9] [] h = some (some (vI (aSn w (candC G T m) G.2.1)), h3) := by
        rw [← e3, es]
        simp (disch := omega) only [e_Mod_soonest_63, e_Mod_soonest_64, e_Mod_soonest_67, e_Mod_soonest_68, e_Mod_soonest_70, e_Mod_soonest_71, e_Mod_soonest_74, e_Mod_soonest_75, e_Mod_soonest_75b, e_Mod_soonest_78, e_Mod_soonest_80, e_Mod_soonest_81, e_Mod_soonest_82, e_Mod_soonest_85, e_Mod_soonest_86, e_Mod_soonest_87, e_Mod_soonest_88, e_Mod_soonest_90, e_Mod_soonest_91, e_Mod_soonest_93, e_Mod_soonest_93b, e_Mod_soonest_96, e_Mod_soonest_97, e_Mod_soonest_98, e_Mod_soonest_101, e_Mod_soonest_104, e_Mod_soonest_106, e_Mod_soonest_108, e_Mod_soonest_109, e_Mod_soonest_112, e_Mod_soonest_114, e_Mod_soonest_116, e_Mod_soonest_119, e_Mod_soonest_121, e_Mod_soonest_123, e_Mod_soonest_126, e_Mod_soonest_128, e_Mod_soonest_131, e_Mod_soonest_133, e_Mod_soonest_135, e_Mod_soonest_137, e_Mod_soonest_139, e_Mod_soonest_142, e_Mod_soonest_144, e_Mod_soonest_146, e_Mod_soonest_149, e_Mod_soonest_151, e_Mod_soonest_154, e_Mod_soonest_156, e_Mod_soonest_158, e_Mod_soonest_161, e_Mod_soonest_164, e_Mod_soonest_166, e_Mod_soonest_168, e_Mod_soonest_171, e_Mod_soonest_172, e_Mod_soonest_172b, e_Mod_soonest_175, e_Mod_soonest_177, e_Mod_soonest_180, e_Mod_soonest_182, alk_in, ask_in, blk_in, bsk_in, qlk_in, ack_in, rcv_in, rcA_in, bk_i, bk_l, bk_v, hS_same, hS_ne, hS_hS, hS_2, am_10, am_01, am_00, if_true, if_false, gf_12_0, pf_12_0, gf_12_1, pf_12_1, gf_12_2, pf_12_2, gf_12_3, pf_12_3, gf_12_4, pf_12_4, gf_12_5, pf_12_5, gf_12_6, pf_12_6, gf_12_7, pf_12_7, gf_12_8, pf_12_8, gf_12_9, pf_12_9, gf_12_10, pf_12_10, gf_12_11, pf_12_11, gf_12_12, pf_12_12, gf_12_13, pf_12_13, gf_12_14, pf_12_14, gf_12_15, pf_12_15, gf_12_16, pf_12_16, gf_12_17, pf_12_17, gf_12_18, pf_12_18, gf_12_19, pf_12_19, gf_12_20, pf_12_20, o, b, t1, e1, o1, e2, o2]
        by_cases y : candC G T m k = -9
        · have nq : ¬ (¬ candC G T m k = -9 ∧ candC G T m k < (sn (candC G T m) k).2) := fun z => z.1 y
          rw [if_neg nq, if_pos y, if_pos y]; rfl
        · by_cases u : candC G T m k < (sn (candC G T m) k).2
          · have nq : ¬ candC G T m k = -9 ∧ candC G T m k < (sn (candC G T m) k).2 := ⟨y, u⟩
            rw [if_pos nq, if_neg y, if_pos u, if_neg y, if_pos u]; rfl
          · have nq : ¬ (¬ candC G T m k = -9 ∧ candC G T m k < (sn (candC G T m) k).2) := fun z => u z.2
            rw [if_neg nq, if_neg y, if_neg u, if_neg y, if_neg u]; rfl
      rw [← key, e_Mod_soonest_31]
      simp (disch := omega) only [e_Mod_soonest_33, e_Mod_soonest_35, e_Mod_soonest_38, e_Mod_soonest_39, e_Mod_soonest_39b, e_Mod_soonest_42, e_Mod_soonest_43, e_Mod_soonest_45, e_Mod_soonest_48, e_Mod_soonest_50, e_Mod_soonest_53, e_Mod_soonest_54, e_Mod_soonest_56, e_Mod_soonest_59, e_Mod_soonest_60, alk_in, ask_in, blk_in, bsk_in, qlk_in, ack_in, rcv_in, rcA_in, bk_i, bk_l, bk_v, hS_same, hS_ne, hS_hS, hS_2, am_10, am_01, am_00, if_true, if_false, gf_12_0, pf_12_0, gf_12_1, pf_12_1, gf_12_2, pf_12_2, gf_12_3, pf_12_3, gf_12_4, pf_12_4, gf_12_5, pf_12_5, gf_12_6, pf_12_6, gf_12_7, pf_12_7, gf_12_8, pf_12_8, gf_12_9, pf_12_9, gf_12_10, pf_12_10, gf_12_11, pf_12_11, gf_12_12, pf_12_12, gf_12_13, pf_12_13, gf_12_14, pf_12_14, gf_12_15, pf_12_15, gf_12_16, pf_12_16, gf_12_17, pf_12_17, gf_12_18, pf_12_18, gf_12_19, pf_12_19, gf_12_20, pf_12_20, o, c4]
      rw [if_pos (by omega)]
      by_cases r : who G.1 T.2.1 (k : Int) = -9
      · rw [if_pos r]
      · rw [if_neg r, if_pos (by omega)]
    · obtain ⟨h2, e2, S2, f2⟩ := m_noC S hw hm (k := k) b
      have c9 : candC G T m k = -9 := by unfold candC; rw [if_neg q]
      obtain ⟨h3, e3, S3, f3⟩ := ih (k + 1) h2 (vI 0) (vI (-9)) (by omega) S2
      refine ⟨h3, ?_, S3, f2.tr f3⟩
      have o2 := f2.at o (by decide)
      unfold MoA at o o2
      have nq : ¬ (¬ candC G T m k = -9 ∧ candC G T m k < (sn (candC G T m) k).2) := fun z => z.1 c9
      rw [← e3, es, if_neg nq, e_Mod_soonest_31]
      simp (disch := omega) only [e_Mod_soonest_0, e_Mod_soonest_1, e_Mod_soonest_4, e_Mod_soonest_6, e_Mod_soonest_8, e_Mod_soonest_10, e_Mod_soonest_12, e_Mod_soonest_13, e_Mod_soonest_13b, e_Mod_soonest_16, e_Mod_soonest_17, e_Mod_soonest_20, e_Mod_soonest_21, e_Mod_soonest_24, e_Mod_soonest_25, e_Mod_soonest_26, e_Mod_soonest_28, e_Mod_soonest_29, e_Mod_soonest_33, e_Mod_soonest_35, e_Mod_soonest_38, e_Mod_soonest_39, e_Mod_soonest_39b, e_Mod_soonest_42, e_Mod_soonest_43, e_Mod_soonest_45, e_Mod_soonest_48, e_Mod_soonest_50, e_Mod_soonest_53, e_Mod_soonest_54, e_Mod_soonest_56, e_Mod_soonest_59, e_Mod_soonest_60, e_Mod_soonest_63, e_Mod_soonest_64, e_Mod_soonest_67, e_Mod_soonest_68, e_Mod_soonest_70, e_Mod_soonest_71, e_Mod_soonest_74, e_Mod_soonest_75, e_Mod_soonest_75b, e_Mod_soonest_78, e_Mod_soonest_80, e_Mod_soonest_81, e_Mod_soonest_82, e_Mod_soonest_85, e_Mod_soonest_86, e_Mod_soonest_87, e_Mod_soonest_88, e_Mod_soonest_90, e_Mod_soonest_91, e_Mod_soonest_93, e_Mod_soonest_93b, e_Mod_soonest_96, e_Mod_soonest_97, e_Mod_soonest_98, e_Mod_soonest_101, e_Mod_soonest_104, e_Mod_soonest_106, e_Mod_soonest_108, e_Mod_soonest_109, e_Mod_soonest_112, e_Mod_soonest_114, e_Mod_soonest_116, e_Mod_soonest_119, e_Mod_soonest_121, e_Mod_soonest_123, e_Mod_soonest_126, e_Mod_soonest_128, e_Mod_soonest_131, e_Mod_soonest_133, e_Mod_soonest_135, e_Mod_soonest_137, e_Mod_soonest_139, e_Mod_soonest_142, e_Mod_soonest_144, e_Mod_soonest_146, e_Mod_soonest_149, e_Mod_soonest_151, e_Mod_soonest_154, e_Mod_soonest_156, e_Mod_soonest_158, e_Mod_soonest_161, e_Mod_soonest_164, e_Mod_soonest_166, e_Mod_soonest_168, e_Mod_soonest_171, e_Mod_soonest_172, e_Mod_soonest_172b, e_Mod_soonest_175, e_Mod_soonest_177, e_Mod_soonest_180, e_Mod_soonest_182, alk_in, ask_in, blk_in, bsk_in, qlk_in, ack_in, rcv_in, rcA_in, bk_i, bk_l, bk_v, hS_same, hS_ne, hS_hS, hS_2, am_10, am_01, am_00, if_true, if_false, gf_12_0, pf_12_0, gf_12_1, pf_12_1, gf_12_2, pf_12_2, gf_12_3, pf_12_3, gf_12_4, pf_12_4, gf_12_5, pf_12_5, gf_12_6, pf_12_6, gf_12_7, pf_12_7, gf_12_8, pf_12_8, gf_12_9, pf_12_9, gf_12_10, pf_12_10, gf_12_11, pf_12_11, gf_12_12, pf_12_12, gf_12_13, pf_12_13, gf_12_14, pf_12_14, gf_12_15, pf_12_15, gf_12_16, pf_12_16, gf_12_17, pf_12_17, gf_12_18, pf_12_18, gf_12_19, pf_12_19, gf_12_20, pf_12_20, o, b, c4, t1, e2, o2]
      rw [if_pos (by omega), if_neg (by omega), if_neg (by omega)]; rfl
theorem q_putsOn (S : RM h G T) (hw : WT G T) (s1 : Sh h 129 6) (s2 : Sh h 130 19) {m w : Int} (hm : rg32 m) (hr : rg32 w) : ∃ h', ev mMod_putsOn [vR 120, vI m, vI w] h = some (some (vI (aPut G T m w)), h') ∧ RM h' G T ∧ Sh h' 129 6 ∧ Sh h' 130 19 ∧ FE [124, 129, 130] h h' := by
  unfold rg32 at hm hr
  have S' : RepM h G.1 G.2.1 G.2.2.1 T.1 T.2.1 T.2.2.1 G.2.2.2 T.2.2.2 := S
  have c1 := m_isMan S' hw.1 hm
  have c2 := c_min (h := h) (v := w) (x := 0) (y := 1) hr (by omega) (by omega)
  have S0 := S
  obtain ⟨x0, x2, x7, x11, x12, x13, x14, x15, T', F, o, a, b, r0, -⟩ := S0
  have o' := o
  unfold MoA at o
  unfold aPut
  by_cases q : (0 ≤ m ∧ m < G.1) ∧ (w = 0 ∨ w = 1)
  · rw [if_pos q.1] at c1
    rw [if_pos (by omega)] at c2
    rw [if_pos q]
    obtain ⟨m, rfl⟩ : ∃ k : Nat, m = (k : Int) := ⟨m.toNat, by omega⟩
    have hmn : m < G.1 := by omega
    have c3 := m_isIn S' hw hmn
    rw [Int.toNat_natCast]
    by_cases y : T.2.1 m = -9
    · rw [if_pos y] at c3 ⊢
      refine ⟨h, ?_, S, s1, s2, FE.rf⟩
      rw [ev_Mod_putsOn]
      simp (disch := omega) only [e_Mod_putsOn_0, e_Mod_putsOn_1, e_Mod_putsOn_2, e_Mod_putsOn_5, e_Mod_putsOn_5b, e_Mod_putsOn_8, e_Mod_putsOn_9, e_Mod_putsOn_10, e_Mod_putsOn_11, e_Mod_putsOn_14, e_Mod_putsOn_14b, e_Mod_putsOn_17, e_Mod_putsOn_18, e_Mod_putsOn_19, e_Mod_putsOn_20, e_Mod_putsOn_21, e_Mod_putsOn_24, e_Mod_putsOn_24b, e_Mod_putsOn_27, e_Mod_putsOn_28, e_Mod_putsOn_29, e_Mod_putsOn_30, e_Mod_putsOn_31, e_Mod_putsOn_34, e_Mod_putsOn_37, e_Mod_putsOn_39, alk_in, ask_in, blk_in, bsk_in, qlk_in, ack_in, rcv_in, rcA_in, bk_i, bk_l, bk_v, hS_same, hS_ne, hS_hS, hS_2, am_10, am_01, am_00, if_true, if_false, gf_12_0, pf_12_0, gf_12_1, pf_12_1, gf_12_2, pf_12_2, gf_12_3, pf_12_3, gf_12_4, pf_12_4, gf_12_5, pf_12_5, gf_12_6, pf_12_6, gf_12_7, pf_12_7, gf_12_8, pf_12_8, gf_12_9, pf_12_9, gf_12_10, pf_12_10, gf_12_11, pf_12_11, gf_12_12, pf_12_12, gf_12_13, pf_12_13, gf_12_14, pf_12_14, gf_12_15, pf_12_15, gf_12_16, pf_12_16, gf_12_17, pf_12_17, gf_12_18, pf_12_18, gf_12_19, pf_12_19, gf_12_20, pf_12_20, o, c1, c2, c3]
    · rw [if_neg y] at c3 ⊢
      obtain ⟨h1, e1, S1, A1, f1⟩ := m_holds S' hw.1 s2
      have o1 := f1.at o (by decide)
      obtain ⟨h2, e2, M2, f2⟩ := lm_soonS q.2 hmn hw 5 0 h1 vU vU (by omega) ⟨S1, A1, s1.fe f1 (by decide)⟩
      have key : ev mMod_soonest [vR 120, vI (m : Int), vI 1, vI w] h = some (some (vI (aSn w (candS G T m) 5)), h2) := by
        rw [ev_Mod_soonest]
        simp (disch := omega) only [e_Mod_soonest_0, e_Mod_soonest_1, e_Mod_soonest_4, e_Mod_soonest_6, e_Mod_soonest_8, e_Mod_soonest_10, e_Mod_soonest_12, e_Mod_soonest_13, e_Mod_soonest_13b, e_Mod_soonest_16, e_Mod_soonest_17, e_Mod_soonest_20, e_Mod_soonest_21, e_Mod_soonest_24, e_Mod_soonest_25, e_Mod_soonest_26, e_Mod_soonest_28, e_Mod_soonest_29, e_Mod_soonest_33, e_Mod_soonest_35, e_Mod_soonest_38, e_Mod_soonest_39, e_Mod_soonest_39b, e_Mod_soonest_42, e_Mod_soonest_43, e_Mod_soonest_45, e_Mod_soonest_48, e_Mod_soonest_50, e_Mod_soonest_53, e_Mod_soonest_54, e_Mod_soonest_56, e_Mod_soonest_59, e_Mod_soonest_60, e_Mod_soonest_63, e_Mod_soonest_64, e_Mod_soonest_67, e_Mod_soonest_68, e_Mod_soonest_70, e_Mod_soonest_71, e_Mod_soonest_74, e_Mod_soonest_75, e_Mod_soonest_75b, e_Mod_soonest_78, e_Mod_soonest_80, e_Mod_soonest_81, e_Mod_soonest_82, e_Mod_soonest_85, e_Mod_soonest_86, e_Mod_soonest_87, e_Mod_soonest_88, e_Mod_soonest_90, e_Mod_soonest_91, e_Mod_soonest_93, e_Mod_soonest_93b, e_Mod_soonest_96, e_Mod_soonest_97, e_Mod_soonest_98, e_Mod_soonest_101, e_Mod_soonest_104, e_Mod_soonest_106, e_Mod_soonest_108, e_Mod_soonest_109, e_Mod_soonest_112, e_Mod_soonest_114, e_Mod_soonest_116, e_Mod_soonest_119, e_Mod_soonest_121, e_Mod_soonest_123, e_Mod_soonest_126, e_Mod_soonest_128, e_Mod_soonest_131, e_Mod_soonest_133, e_Mod_soonest_135, e_Mod_soonest_137, e_Mod_soonest_139, e_Mod_soonest_142, e_Mod_soonest_144, e_Mod_soonest_146, e_Mod_soonest_149, e_Mod_soonest_151, e_Mod_soonest_154, e_Mod_soonest_156, e_Mod_soonest_158, e_Mod_soonest_161, e_Mod_soonest_164, e_Mod_soonest_166, e_Mod_soonest_168, e_Mod_soonest_171, e_Mod_soonest_172, e_Mod_soonest_172b, e_Mod_soonest_175, e_Mod_soonest_177, e_Mod_soonest_180, e_Mod_soonest_182, alk_in, ask_in, blk_in, bsk_in, qlk_in, ack_in, rcv_in, rcA_in, bk_i, bk_l, bk_v, hS_same, hS_ne, hS_hS, hS_2, am_10, am_01, am_00, if_true, if_false, gf_12_0, pf_12_0, gf_12_1, pf_12_1, gf_12_2, pf_12_2, gf_12_3, pf_12_3, gf_12_4, pf_12_4, gf_12_5, pf_12_5, gf_12_6, pf_12_6, gf_12_7, pf_12_7, gf_12_8, pf_12_8, gf_12_9, pf_12_9, gf_12_10, pf_12_10, gf_12_11, pf_12_11, gf_12_12, pf_12_12, gf_12_13, pf_12_13, gf_12_14, pf_12_14, gf_12_15, pf_12_15, gf_12_16, pf_12_16, gf_12_17, pf_12_17, gf_12_18, pf_12_18, gf_12_19, pf_12_19, gf_12_20, pf_12_20, o, e1]
        exact e2
      refine ⟨h2, ?_, M2.1, M2.2.2, M2.2.1.sh, (f1.wd (by decide)).tr (f2.wd (by decide))⟩
      rw [ev_Mod_putsOn]
      simp (disch := omega) only [e_Mod_putsOn_0, e_Mod_putsOn_1, e_Mod_putsOn_2, e_Mod_putsOn_5, e_Mod_putsOn_5b, e_Mod_putsOn_8, e_Mod_putsOn_9, e_Mod_putsOn_10, e_Mod_putsOn_11, e_Mod_putsOn_14, e_Mod_putsOn_14b, e_Mod_putsOn_17, e_Mod_putsOn_18, e_Mod_putsOn_19, e_Mod_putsOn_20, e_Mod_putsOn_21, e_Mod_putsOn_24, e_Mod_putsOn_24b, e_Mod_putsOn_27, e_Mod_putsOn_28, e_Mod_putsOn_29, e_Mod_putsOn_30, e_Mod_putsOn_31, e_Mod_putsOn_34, e_Mod_putsOn_37, e_Mod_putsOn_39, alk_in, ask_in, blk_in, bsk_in, qlk_in, ack_in, rcv_in, rcA_in, bk_i, bk_l, bk_v, hS_same, hS_ne, hS_hS, hS_2, am_10, am_01, am_00, if_true, if_false, gf_12_0, pf_12_0, gf_12_1, pf_12_1, gf_12_2, pf_12_2, gf_12_3, pf_12_3, gf_12_4, pf_12_4, gf_12_5, pf_12_5, gf_12_6, pf_12_6, gf_12_7, pf_12_7, gf_12_8, pf_12_8, gf_12_9, pf_12_9, gf_12_10, pf_12_10, gf_12_11, pf_12_11, gf_12_12, pf_12_12, gf_12_13, pf_12_13, gf_12_14, pf_12_14, gf_12_15, pf_12_15, gf_12_16, pf_12_16, gf_12_17, pf_12_17, gf_12_18, pf_12_18, gf_12_19, pf_12_19, gf_12_20, pf_12_20, o, c1, c2, c3, key]
  · rw [if_neg q]
    refine ⟨h, ?_, S, s1, s2, FE.rf⟩
    rw [ev_Mod_putsOn]
    by_cases y : 0 ≤ m ∧ m < G.1
    · rw [if_pos y] at c1
      rw [if_neg (fun z => q ⟨y, by omega⟩)] at c2
      simp (disch := omega) only [e_Mod_putsOn_0, e_Mod_putsOn_1, e_Mod_putsOn_2, e_Mod_putsOn_5, e_Mod_putsOn_5b, e_Mod_putsOn_8, e_Mod_putsOn_9, e_Mod_putsOn_10, e_Mod_putsOn_11, e_Mod_putsOn_14, e_Mod_putsOn_14b, e_Mod_putsOn_17, e_Mod_putsOn_18, e_Mod_putsOn_19, e_Mod_putsOn_20, e_Mod_putsOn_21, e_Mod_putsOn_24, e_Mod_putsOn_24b, e_Mod_putsOn_27, e_Mod_putsOn_28, e_Mod_putsOn_29, e_Mod_putsOn_30, e_Mod_putsOn_31, e_Mod_putsOn_34, e_Mod_putsOn_37, e_Mod_putsOn_39, alk_in, ask_in, blk_in, bsk_in, qlk_in, ack_in, rcv_in, rcA_in, bk_i, bk_l, bk_v, hS_same, hS_ne, hS_hS, hS_2, am_10, am_01, am_00, if_true, if_false, gf_12_0, pf_12_0, gf_12_1, pf_12_1, gf_12_2, pf_12_2, gf_12_3, pf_12_3, gf_12_4, pf_12_4, gf_12_5, pf_12_5, gf_12_6, pf_12_6, gf_12_7, pf_12_7, gf_12_8, pf_12_8, gf_12_9, pf_12_9, gf_12_10, pf_12_10, gf_12_11, pf_12_11, gf_12_12, pf_12_12, gf_12_13, pf_12_13, gf_12_14, pf_12_14, gf_12_15, pf_12_15, gf_12_16, pf_12_16, gf_12_17, pf_12_17, gf_12_18, pf_12_18, gf_12_19, pf_12_19, gf_12_20, pf_12_20, o, c1, c2]
    · rw [if_neg y] at c1
      simp (disch := omega) only [e_Mod_putsOn_0, e_Mod_putsOn_1, e_Mod_putsOn_2, e_Mod_putsOn_5, e_Mod_putsOn_5b, e_Mod_putsOn_8, e_Mod_putsOn_9, e_Mod_putsOn_10, e_Mod_putsOn_11, e_Mod_putsOn_14, e_Mod_putsOn_14b, e_Mod_putsOn_17, e_Mod_putsOn_18, e_Mod_putsOn_19, e_Mod_putsOn_20, e_Mod_putsOn_21, e_Mod_putsOn_24, e_Mod_putsOn_24b, e_Mod_putsOn_27, e_Mod_putsOn_28, e_Mod_putsOn_29, e_Mod_putsOn_30, e_Mod_putsOn_31, e_Mod_putsOn_34, e_Mod_putsOn_37, e_Mod_putsOn_39, alk_in, ask_in, blk_in, bsk_in, qlk_in, ack_in, rcv_in, rcA_in, bk_i, bk_l, bk_v, hS_same, hS_ne, hS_hS, hS_2, am_10, am_01, am_00, if_true, if_false, gf_12_0, pf_12_0, gf_12_1, pf_12_1, gf_12_2, pf_12_2, gf_12_3, pf_12_3, gf_12_4, pf_12_4, gf_12_5, pf_12_5, gf_12_6, pf_12_6, gf_12_7, pf_12_7, gf_12_8, pf_12_8, gf_12_9, pf_12_9, gf_12_10, pf_12_10, gf_12_11, pf_12_11, gf_12_12, pf_12_12, gf_12_13, pf_12_13, gf_12_14, pf_12_14, gf_12_15, pf_12_15, gf_12_16, pf_12_16, gf_12_17, pf_12_17, gf_12_18, pf_12_18, gf_12_19, pf_12_19, gf_12_20, pf_12_20, o, c1]
theorem q_carry (S : RM h G T) (hw : WT G T) (s1 : Sh h 129 6) (s2 : Sh h 130 19) {m w : Int} (hm : rg32 m) (hr : rg32 w) : ∃ h', ev mMod_carry [vR 120, vI m, vI w] h = some (some (vI (aCar G T m w)), h') ∧ RM h' G T ∧ Sh h' 129 6 ∧ Sh h' 130 19 ∧ FE [124, 129, 130] h h' := by
  unfold rg32 at hm hr
  have S' : RepM h G.1 G.2.1 G.2.2.1 T.1 T.2.1 T.2.2.1 G.2.2.2 T.2.2.2 := S
  have c1 := m_isMan S' hw.1 hm
  have c2 := c_min (h := h) (v := w) (x := 0) (y := 1) hr (by omega) (by omega)
  have S0 := S
  obtain ⟨x0, x2, x7, x11, x12, x13, x14, x15, T', F, o, a, b, r0, -⟩ := S0
  have o' := o
  unfold MoA at o
  unfold aCar
  by_cases q : (0 ≤ m ∧ m < G.1) ∧ (w = 0 ∨ w = 1)
  · rw [if_pos q.1] at c1
    rw [if_pos (by omega)] at c2
    rw [if_pos q]
    obtain ⟨m, rfl⟩ : ∃ k : Nat, m = (k : Int) := ⟨m.toNat, by omega⟩
    have hmn : m < G.1 := by omega
    have c3 := m_isIn S' hw hmn
    rw [Int.toNat_natCast]
    by_cases y : T.2.1 m = -9
    · rw [if_pos y] at c3 ⊢
      refine ⟨h, ?_, S, s1, s2, FE.rf⟩
      rw [ev_Mod_carry]
      simp (disch := omega) only [e_Mod_carry_0, e_Mod_carry_1, e_Mod_carry_2, e_Mod_carry_5, e_Mod_carry_5b, e_Mod_carry_8, e_Mod_carry_9, e_Mod_carry_10, e_Mod_carry_11, e_Mod_carry_14, e_Mod_carry_14b, e_Mod_carry_17, e_Mod_carry_18, e_Mod_carry_19, e_Mod_carry_20, e_Mod_carry_21, e_Mod_carry_24, e_Mod_carry_24b, e_Mod_carry_27, e_Mod_carry_28, e_Mod_carry_29, e_Mod_carry_30, e_Mod_carry_31, e_Mod_carry_34, e_Mod_carry_37, e_Mod_carry_39, alk_in, ask_in, blk_in, bsk_in, qlk_in, ack_in, rcv_in, rcA_in, bk_i, bk_l, bk_v, hS_same, hS_ne, hS_hS, hS_2, am_10, am_01, am_00, if_true, if_false, gf_12_0, pf_12_0, gf_12_1, pf_12_1, gf_12_2, pf_12_2, gf_12_3, pf_12_3, gf_12_4, pf_12_4, gf_12_5, pf_12_5, gf_12_6, pf_12_6, gf_12_7, pf_12_7, gf_12_8, pf_12_8, gf_12_9, pf_12_9, gf_12_10, pf_12_10, gf_12_11, pf_12_11, gf_12_12, pf_12_12, gf_12_13, pf_12_13, gf_12_14, pf_12_14, gf_12_15, pf_12_15, gf_12_16, pf_12_16, gf_12_17, pf_12_17, gf_12_18, pf_12_18, gf_12_19, pf_12_19, gf_12_20, pf_12_20, o, c1, c2, c3]
    · rw [if_neg y] at c3 ⊢
      obtain ⟨h1, e1, S1, A1, f1⟩ := m_holds S' hw.1 s2
      have o1 := f1.at o (by decide)
      have a1 := f1.at a (by decide)
      obtain ⟨h2, e2, M2, f2⟩ := lm_soonC q.2 hmn hw G.2.1 0 h1 vU vU (by omega) ⟨S1, A1, s1.fe f1 (by decide)⟩
      have key : ev mMod_soonest [vR 120, vI (m : Int), vI 0, vI w] h = some (some (vI (aSn w (candC G T m) G.2.1)), h2) := by
        rw [ev_Mod_soonest]
        simp (disch := omega) only [e_Mod_soonest_0, e_Mod_soonest_1, e_Mod_soonest_4, e_Mod_soonest_6, e_Mod_soonest_8, e_Mod_soonest_10, e_Mod_soonest_12, e_Mod_soonest_13, e_Mod_soonest_13b, e_Mod_soonest_16, e_Mod_soonest_17, e_Mod_soonest_20, e_Mod_soonest_21, e_Mod_soonest_24, e_Mod_soonest_25, e_Mod_soonest_26, e_Mod_soonest_28, e_Mod_soonest_29, e_Mod_soonest_33, e_Mod_soonest_35, e_Mod_soonest_38, e_Mod_soonest_39, e_Mod_soonest_39b, e_Mod_soonest_42, e_Mod_soonest_43, e_Mod_soonest_45, e_Mod_soonest_48, e_Mod_soonest_50, e_Mod_soonest_53, e_Mod_soonest_54, e_Mod_soonest_56, e_Mod_soonest_59, e_Mod_soonest_60, e_Mod_soonest_63, e_Mod_soonest_64, e_Mod_soonest_67, e_Mod_soonest_68, e_Mod_soonest_70, e_Mod_soonest_71, e_Mod_soonest_74, e_Mod_soonest_75, e_Mod_soonest_75b, e_Mod_soonest_78, e_Mod_soonest_80, e_Mod_soonest_81, e_Mod_soonest_82, e_Mod_soonest_85, e_Mod_soonest_86, e_Mod_soonest_87, e_Mod_soonest_88, e_Mod_soonest_90, e_Mod_soonest_91, e_Mod_soonest_93, e_Mod_soonest_93b, e_Mod_soonest_96, e_Mod_soonest_97, e_Mod_soonest_98, e_Mod_soonest_101, e_Mod_soonest_104, e_Mod_soonest_106, e_Mod_soonest_108, e_Mod_soonest_109, e_Mod_soonest_112, e_Mod_soonest_114, e_Mod_soonest_116, e_Mod_soonest_119, e_Mod_soonest_121, e_Mod_soonest_123, e_Mod_soonest_126, e_Mod_soonest_128, e_Mod_soonest_131, e_Mod_soonest_133, e_Mod_soonest_135, e_Mod_soonest_137, e_Mod_soonest_139, e_Mod_soonest_142, e_Mod_soonest_144, e_Mod_soonest_146, e_Mod_soonest_149, e_Mod_soonest_151, e_Mod_soonest_154, e_Mod_soonest_156, e_Mod_soonest_158, e_Mod_soonest_161, e_Mod_soonest_164, e_Mod_soonest_166, e_Mod_soonest_168, e_Mod_soonest_171, e_Mod_soonest_172, e_Mod_soonest_172b, e_Mod_soonest_175, e_Mod_soonest_177, e_Mod_soonest_180, e_Mod_soonest_182, alk_in, ask_in, blk_in, bsk_in, qlk_in, ack_in, rcv_in, rcA_in, bk_i, bk_l, bk_v, hS_same, hS_ne, hS_hS, hS_2, am_10, am_01, am_00, if_true, if_false, gf_12_0, pf_12_0, gf_12_1, pf_12_1, gf_12_2, pf_12_2, gf_12_3, pf_12_3, gf_12_4, pf_12_4, gf_12_5, pf_12_5, gf_12_6, pf_12_6, gf_12_7, pf_12_7, gf_12_8, pf_12_8, gf_12_9, pf_12_9, gf_12_10, pf_12_10, gf_12_11, pf_12_11, gf_12_12, pf_12_12, gf_12_13, pf_12_13, gf_12_14, pf_12_14, gf_12_15, pf_12_15, gf_12_16, pf_12_16, gf_12_17, pf_12_17, gf_12_18, pf_12_18, gf_12_19, pf_12_19, gf_12_20, pf_12_20, o, e1, o1, a1, tl_0, r0]
        exact e2
      refine ⟨h2, ?_, M2.1, M2.2.2, M2.2.1.sh, (f1.wd (by decide)).tr (f2.wd (by decide))⟩
      rw [ev_Mod_carry]
      simp (disch := omega) only [e_Mod_carry_0, e_Mod_carry_1, e_Mod_carry_2, e_Mod_carry_5, e_Mod_carry_5b, e_Mod_carry_8, e_Mod_carry_9, e_Mod_carry_10, e_Mod_carry_11, e_Mod_carry_14, e_Mod_carry_14b, e_Mod_carry_17, e_Mod_carry_18, e_Mod_carry_19, e_Mod_carry_20, e_Mod_carry_21, e_Mod_carry_24, e_Mod_carry_24b, e_Mod_carry_27, e_Mod_carry_28, e_Mod_carry_29, e_Mod_carry_30, e_Mod_carry_31, e_Mod_carry_34, e_Mod_carry_37, e_Mod_carry_39, alk_in, ask_in, blk_in, bsk_in, qlk_in, ack_in, rcv_in, rcA_in, bk_i, bk_l, bk_v, hS_same, hS_ne, hS_hS, hS_2, am_10, am_01, am_00, if_true, if_false, gf_12_0, pf_12_0, gf_12_1, pf_12_1, gf_12_2, pf_12_2, gf_12_3, pf_12_3, gf_12_4, pf_12_4, gf_12_5, pf_12_5, gf_12_6, pf_12_6, gf_12_7, pf_12_7, gf_12_8, pf_12_8, gf_12_9, pf_12_9, gf_12_10, pf_12_10, gf_12_11, pf_12_11, gf_12_12, pf_12_12, gf_12_13, pf_12_13, gf_12_14, pf_12_14, gf_12_15, pf_12_15, gf_12_16, pf_12_16, gf_12_17, pf_12_17, gf_12_18, pf_12_18, gf_12_19, pf_12_19, gf_12_20, pf_12_20, o, c1, c2, c3, key]
  · rw [if_neg q]
    refine ⟨h, ?_, S, s1, s2, FE.rf⟩
    rw [ev_Mod_carry]
    by_cases y : 0 ≤ m ∧ m < G.1
    · rw [if_pos y] at c1
      rw [if_neg (fun z => q ⟨y, by omega⟩)] at c2
      simp (disch := omega) only [e_Mod_carry_0, e_Mod_carry_1, e_Mod_carry_2, e_Mod_carry_5, e_Mod_carry_5b, e_Mod_carry_8, e_Mod_carry_9, e_Mod_carry_10, e_Mod_carry_11, e_Mod_carry_14, e_Mod_carry_14b, e_Mod_carry_17, e_Mod_carry_18, e_Mod_carry_19, e_Mod_carry_20, e_Mod_carry_21, e_Mod_carry_24, e_Mod_carry_24b, e_Mod_carry_27, e_Mod_carry_28, e_Mod_carry_29, e_Mod_carry_30, e_Mod_carry_31, e_Mod_carry_34, e_Mod_carry_37, e_Mod_carry_39, alk_in, ask_in, blk_in, bsk_in, qlk_in, ack_in, rcv_in, rcA_in, bk_i, bk_l, bk_v, hS_same, hS_ne, hS_hS, hS_2, am_10, am_01, am_00, if_true, if_false, gf_12_0, pf_12_0, gf_12_1, pf_12_1, gf_12_2, pf_12_2, gf_12_3, pf_12_3, gf_12_4, pf_12_4, gf_12_5, pf_12_5, gf_12_6, pf_12_6, gf_12_7, pf_12_7, gf_12_8, pf_12_8, gf_12_9, pf_12_9, gf_12_10, pf_12_10, gf_12_11, pf_12_11, gf_12_12, pf_12_12, gf_12_13, pf_12_13, gf_12_14, pf_12_14, gf_12_15, pf_12_15, gf_12_16, pf_12_16, gf_12_17, pf_12_17, gf_12_18, pf_12_18, gf_12_19, pf_12_19, gf_12_20, pf_12_20, o, c1, c2]
    · rw [if_neg y] at c1
      simp (disch := omega) only [e_Mod_carry_0, e_Mod_carry_1, e_Mod_carry_2, e_Mod_carry_5, e_Mod_carry_5b, e_Mod_carry_8, e_Mod_carry_9, e_Mod_carry_10, e_Mod_carry_11, e_Mod_carry_14, e_Mod_carry_14b, e_Mod_carry_17, e_Mod_carry_18, e_Mod_carry_19, e_Mod_carry_20, e_Mod_carry_21, e_Mod_carry_24, e_Mod_carry_24b, e_Mod_carry_27, e_Mod_carry_28, e_Mod_carry_29, e_Mod_carry_30, e_Mod_carry_31, e_Mod_carry_34, e_Mod_carry_37, e_Mod_carry_39, alk_in, ask_in, blk_in, bsk_in, qlk_in, ack_in, rcv_in, rcA_in, bk_i, bk_l, bk_v, hS_same, hS_ne, hS_hS, hS_2, am_10, am_01, am_00, if_true, if_false, gf_12_0, pf_12_0, gf_12_1, pf_12_1, gf_12_2, pf_12_2, gf_12_3, pf_12_3, gf_12_4, pf_12_4, gf_12_5, pf_12_5, gf_12_6, pf_12_6, gf_12_7, pf_12_7, gf_12_8, pf_12_8, gf_12_9, pf_12_9, gf_12_10, pf_12_10, gf_12_11, pf_12_11, gf_12_12, pf_12_12, gf_12_13, pf_12_13, gf_12_14, pf_12_14, gf_12_15, pf_12_15, gf_12_16, pf_12_16, gf_12_17, pf_12_17, gf_12_18, pf_12_18, gf_12_19, pf_12_19, gf_12_20, pf_12_20, o, c1]
end Soon3
