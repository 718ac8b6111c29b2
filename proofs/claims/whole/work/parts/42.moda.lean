/-! The model: man, cell, brings, count, trace, text -/
def RM (h : am_H) (G : Gl) (T : Tm) : Prop := RepM h G.1 G.2.1 G.2.2.1 T.1 T.2.1 T.2.2.1 G.2.2.2 T.2.2.2
def MO (h : am_H) (tr L pc k : Int) : Prop := ∃ x12 x13 x14 x15, MoA h (vL tr) (vI L) (vI pc) (vI k) x12 x13 x14 x15
theorem RM.fe {h h' : am_H} {G : Gl} {T : Tm} {l : List Nat} (S : RM h G T) (f : FE l h h') (q : 120 ∉ l ∧ 122 ∉ l ∧ 124 ∉ l) : RM h' G T := RepM.fe S f q
theorem MO.fe {h h' : am_H} {tr L pc k : Int} {l : List Nat} (S : MO h tr L pc k) (f : FE l h h') (q : 120 ∉ l) : MO h' tr L pc k := by
  obtain ⟨x12, x13, x14, x15, o⟩ := S
  exact ⟨x12, x13, x14, x15, f.at o q⟩
theorem RM.obj {h : am_H} {G : Gl} {T : Tm} (S : RM h G T) (x0 x2 x7 x11 x12 x13 x14 x15 : am_V) : RM (hS h 120 (cO 12 [x0, vR 121, x2, vR 122, vR 123, vR 124, vR 125, x7, vR 126, vR 127, vR 128, x11, x12, x13, x14, x15, vR 129, vR 130, vR 131, vR 132, vR 133])) G T := by
  obtain ⟨y0, y2, y7, y11, y12, y13, y14, y15, T', F, o, a, b, r⟩ := S
  exact ⟨x0, x2, x7, x11, x12, x13, x14, x15, T', F, hS_same, by rw [hS_ne (by decide)]; exact a, by rw [hS_ne (by decide)]; exact b, r⟩
def MTx (h : am_H) (L : Nat) (f : Nat → Int) : Prop := ∃ g, h.1 121 = cI 0 120 g ∧ ∀ j, j < L → g j = f j
theorem MTx.fe {h h' : am_H} {L : Nat} {g : Nat → Int} {l : List Nat} (S : MTx h L g) (f : FE l h h') (q : 121 ∉ l) : MTx h' L g := by
  obtain ⟨g', a, b⟩ := S
  exact ⟨g', f.at a q, b⟩
section ModA
variable {h : am_H} {G : Gl} {T : Tm}
theorem q_man (S : RM h G T) (hw : WT G T) (s1 : Sh h 129 6) (s2 : Sh h 130 19) {m w : Int} (hm : rg32 m) (hr : rg32 w) : ∃ h', ev mMod_man [vR 120, vI m, vI w] h = some (some (vI (aMan G T m w)), h') ∧ RM h' G T ∧ Sh h' 129 6 ∧ Sh h' 130 19 ∧ FE [124, 129, 130] h h' := by
  obtain ⟨n, c, lq, ha⟩ := G
  obtain ⟨t, ce, so, ye⟩ := T
  unfold RM at S ⊢
  unfold WT at hw
  simp only at S hw ⊢
  have hn := hw.1
  have hc9 := hw.2.2.1
  unfold rg32 at hm hr
  have c1 := m_isMan S hn hm
  have S0 := S
  obtain ⟨x0, x2, x7, x11, x12, x13, x14, x15, T', F, o, a, b, r0, r1, r2, r3, r⟩ := S
  unfold MoA at o
  unfold aMan
  simp only
  by_cases q : 0 ≤ m ∧ m < n
  · obtain ⟨k, rfl⟩ : ∃ k : Nat, m = (k : Int) := ⟨m.toNat, by omega⟩
    have hk : k < n := by omega
    have z := r k hk
    simp only [q, and_self, if_true] at c1
    rw [if_pos q]
    simp only [Int.toNat_natCast]
    by_cases w0 : w = 0
    · subst w0
      refine ⟨h, ?_, S0, s1, s2, FE.rf⟩
      rw [ev_Mod_man]
      simp (disch := omega) only [e_Mod_man_0, e_Mod_man_1, e_Mod_man_2, e_Mod_man_5, e_Mod_man_5b, e_Mod_man_8, e_Mod_man_9, e_Mod_man_10, e_Mod_man_11c0, e_Mod_man_11c1, e_Mod_man_11c2, e_Mod_man_11c3, e_Mod_man_11c4, e_Mod_man_11c5, e_Mod_man_11d, e_Mod_man_48, e_Mod_man_49, e_Mod_man_52, e_Mod_man_53, e_Mod_man_54, e_Mod_man_55, e_Mod_man_56, e_Mod_man_57, e_Mod_man_58, e_Mod_man_61, e_Mod_man_63, e_Mod_man_64, e_Mod_man_65, e_Mod_man_66, e_Mod_man_67, e_Mod_man_68, e_Mod_man_71, e_Mod_man_72, e_Mod_man_73, e_Mod_man_74, e_Mod_man_75, e_Mod_man_76, e_Mod_man_77, e_Mod_man_80, e_Mod_man_82, e_Mod_man_83, e_Mod_man_84, e_Mod_man_85, e_Mod_man_86, e_Mod_man_87, e_Mod_man_88, e_Mod_man_91, e_Mod_man_92, e_Mod_man_93, e_Mod_man_96, e_Mod_man_97, e_Mod_man_98, e_Mod_man_101, e_Mod_man_102, e_Mod_man_103, e_Mod_man_106, e_Mod_man_107, e_Mod_man_108, e_Mod_man_109, alk_in, ask_in, blk_in, bsk_in, qlk_in, ack_in, rcv_in, rcA_in, bk_i, bk_l, bk_v, hS_same, hS_ne, hS_hS, hS_2, am_10, am_01, am_00, if_true, if_false, gf_12_0, pf_12_0, gf_12_1, pf_12_1, gf_12_2, pf_12_2, gf_12_3, pf_12_3, gf_12_4, pf_12_4, gf_12_5, pf_12_5, gf_12_6, pf_12_6, gf_12_7, pf_12_7, gf_12_8, pf_12_8, gf_12_9, pf_12_9, gf_12_10, pf_12_10, gf_12_11, pf_12_11, gf_12_12, pf_12_12, gf_12_13, pf_12_13, gf_12_14, pf_12_14, gf_12_15, pf_12_15, gf_12_16, pf_12_16, gf_12_17, pf_12_17, gf_12_18, pf_12_18, gf_12_19, pf_12_19, gf_12_20, pf_12_20, o, b, c1, tn_1, z.2.1]
    by_cases w1 : w = 1
    · subst w1
      refine ⟨h, ?_, S0, s1, s2, FE.rf⟩
      rw [ev_Mod_man]
      simp (disch := omega) only [e_Mod_man_0, e_Mod_man_1, e_Mod_man_2, e_Mod_man_5, e_Mod_man_5b, e_Mod_man_8, e_Mod_man_9, e_Mod_man_10, e_Mod_man_11c0, e_Mod_man_11c1, e_Mod_man_11c2, e_Mod_man_11c3, e_Mod_man_11c4, e_Mod_man_11c5, e_Mod_man_11d, e_Mod_man_48, e_Mod_man_49, e_Mod_man_52, e_Mod_man_53, e_Mod_man_54, e_Mod_man_55, e_Mod_man_56, e_Mod_man_57, e_Mod_man_58, e_Mod_man_61, e_Mod_man_63, e_Mod_man_64, e_Mod_man_65, e_Mod_man_66, e_Mod_man_67, e_Mod_man_68, e_Mod_man_71, e_Mod_man_72, e_Mod_man_73, e_Mod_man_74, e_Mod_man_75, e_Mod_man_76, e_Mod_man_77, e_Mod_man_80, e_Mod_man_82, e_Mod_man_83, e_Mod_man_84, e_Mod_man_85, e_Mod_man_86, e_Mod_man_87, e_Mod_man_88, e_Mod_man_91, e_Mod_man_92, e_Mod_man_93, e_Mod_man_96, e_Mod_man_97, e_Mod_man_98, e_Mod_man_101, e_Mod_man_102, e_Mod_man_103, e_Mod_man_106, e_Mod_man_107, e_Mod_man_108, e_Mod_man_109, alk_in, ask_in, blk_in, bsk_in, qlk_in, ack_in, rcv_in, rcA_in, bk_i, bk_l, bk_v, hS_same, hS_ne, hS_hS, hS_2, am_10, am_01, am_00, if_true, if_false, gf_12_0, pf_12_0, gf_12_1, pf_12_1, gf_12_2, pf_12_2, gf_12_3, pf_12_3, gf_12_4, pf_12_4, gf_12_5, pf_12_5, gf_12_6, pf_12_6, gf_12_7, pf_12_7, gf_12_8, pf_12_8, gf_12_9, pf_12_9, gf_12_10, pf_12_10, gf_12_11, pf_12_11, gf_12_12, pf_12_12, gf_12_13, pf_12_13, gf_12_14, pf_12_14, gf_12_15, pf_12_15, gf_12_16, pf_12_16, gf_12_17, pf_12_17, gf_12_18, pf_12_18, gf_12_19, pf_12_19, gf_12_20, pf_12_20, o, b, c1, tn_7, z.2.2.1]
    by_cases w2 : w = 2
    · subst w2
      refine ⟨h, ?_, S0, s1, s2, FE.rf⟩
      rw [ev_Mod_man]
      simp (disch := omega) only [e_Mod_man_0, e_Mod_man_1, e_Mod_man_2, e_Mod_man_5, e_Mod_man_5b, e_Mod_man_8, e_Mod_man_9, e_Mod_man_10, e_Mod_man_11c0, e_Mod_man_11c1, e_Mod_man_11c2, e_Mod_man_11c3, e_Mod_man_11c4, e_Mod_man_11c5, e_Mod_man_11d, e_Mod_man_48, e_Mod_man_49, e_Mod_man_52, e_Mod_man_53, e_Mod_man_54, e_Mod_man_55, e_Mod_man_56, e_Mod_man_57, e_Mod_man_58, e_Mod_man_61, e_Mod_man_63, e_Mod_man_64, e_Mod_man_65, e_Mod_man_66, e_Mod_man_67, e_Mod_man_68, e_Mod_man_71, e_Mod_man_72, e_Mod_man_73, e_Mod_man_74, e_Mod_man_75, e_Mod_man_76, e_Mod_man_77, e_Mod_man_80, e_Mod_man_82, e_Mod_man_83, e_Mod_man_84, e_Mod_man_85, e_Mod_man_86, e_Mod_man_87, e_Mod_man_88, e_Mod_man_91, e_Mod_man_92, e_Mod_man_93, e_Mod_man_96, e_Mod_man_97, e_Mod_man_98, e_Mod_man_101, e_Mod_man_102, e_Mod_man_103, e_Mod_man_106, e_Mod_man_107, e_Mod_man_108, e_Mod_man_109, alk_in, ask_in, blk_in, bsk_in, qlk_in, ack_in, rcv_in, rcA_in, bk_i, bk_l, bk_v, hS_same, hS_ne, hS_hS, hS_2, am_10, am_01, am_00, if_true, if_false, gf_12_0, pf_12_0, gf_12_1, pf_12_1, gf_12_2, pf_12_2, gf_12_3, pf_12_3, gf_12_4, pf_12_4, gf_12_5, pf_12_5, gf_12_6, pf_12_6, gf_12_7, pf_12_7, gf_12_8, pf_12_8, gf_12_9, pf_12_9, gf_12_10, pf_12_10, gf_12_11, pf_12_11, gf_12_12, pf_12_12, gf_12_13, pf_12_13, gf_12_14, pf_12_14, gf_12_15, pf_12_15, gf_12_16, pf_12_16, gf_12_17, pf_12_17, gf_12_18, pf_12_18, gf_12_19, pf_12_19, gf_12_20, pf_12_20, o, a, c1, tn_5, z.1, w0, w1]
    by_cases w3 : w = 3
    · subst w3
      refine ⟨h, ?_, S0, s1, s2, FE.rf⟩
      rw [ev_Mod_man]
      simp (disch := omega) only [e_Mod_man_0, e_Mod_man_1, e_Mod_man_2, e_Mod_man_5, e_Mod_man_5b, e_Mod_man_8, e_Mod_man_9, e_Mod_man_10, e_Mod_man_11c0, e_Mod_man_11c1, e_Mod_man_11c2, e_Mod_man_11c3, e_Mod_man_11c4, e_Mod_man_11c5, e_Mod_man_11d, e_Mod_man_48, e_Mod_man_49, e_Mod_man_52, e_Mod_man_53, e_Mod_man_54, e_Mod_man_55, e_Mod_man_56, e_Mod_man_57, e_Mod_man_58, e_Mod_man_61, e_Mod_man_63, e_Mod_man_64, e_Mod_man_65, e_Mod_man_66, e_Mod_man_67, e_Mod_man_68, e_Mod_man_71, e_Mod_man_72, e_Mod_man_73, e_Mod_man_74, e_Mod_man_75, e_Mod_man_76, e_Mod_man_77, e_Mod_man_80, e_Mod_man_82, e_Mod_man_83, e_Mod_man_84, e_Mod_man_85, e_Mod_man_86, e_Mod_man_87, e_Mod_man_88, e_Mod_man_91, e_Mod_man_92, e_Mod_man_93, e_Mod_man_96, e_Mod_man_97, e_Mod_man_98, e_Mod_man_101, e_Mod_man_102, e_Mod_man_103, e_Mod_man_106, e_Mod_man_107, e_Mod_man_108, e_Mod_man_109, alk_in, ask_in, blk_in, bsk_in, qlk_in, ack_in, rcv_in, rcA_in, bk_i, bk_l, bk_v, hS_same, hS_ne, hS_hS, hS_2, am_10, am_01, am_00, if_true, if_false, gf_12_0, pf_12_0, gf_12_1, pf_12_1, gf_12_2, pf_12_2, gf_12_3, pf_12_3, gf_12_4, pf_12_4, gf_12_5, pf_12_5, gf_12_6, pf_12_6, gf_12_7, pf_12_7, gf_12_8, pf_12_8, gf_12_9, pf_12_9, gf_12_10, pf_12_10, gf_12_11, pf_12_11, gf_12_12, pf_12_12, gf_12_13, pf_12_13, gf_12_14, pf_12_14, gf_12_15, pf_12_15, gf_12_16, pf_12_16, gf_12_17, pf_12_17, gf_12_18, pf_12_18, gf_12_19, pf_12_19, gf_12_20, pf_12_20, o, b, c1, tn_13, z.2.2.2, w0, w1, w2]
    by_cases w4 : w = 4
    · subst w4
      have c2 := m_beside S0 hw hk
      refine ⟨h, ?_, S0, s1, s2, FE.rf⟩
      rw [ev_Mod_man]
      simp (disch := omega) only [e_Mod_man_0, e_Mod_man_1, e_Mod_man_2, e_Mod_man_5, e_Mod_man_5b, e_Mod_man_8, e_Mod_man_9, e_Mod_man_10, e_Mod_man_11c0, e_Mod_man_11c1, e_Mod_man_11c2, e_Mod_man_11c3, e_Mod_man_11c4, e_Mod_man_11c5, e_Mod_man_11d, e_Mod_man_48, e_Mod_man_49, e_Mod_man_52, e_Mod_man_53, e_Mod_man_54, e_Mod_man_55, e_Mod_man_56, e_Mod_man_57, e_Mod_man_58, e_Mod_man_61, e_Mod_man_63, e_Mod_man_64, e_Mod_man_65, e_Mod_man_66, e_Mod_man_67, e_Mod_man_68, e_Mod_man_71, e_Mod_man_72, e_Mod_man_73, e_Mod_man_74, e_Mod_man_75, e_Mod_man_76, e_Mod_man_77, e_Mod_man_80, e_Mod_man_82, e_Mod_man_83, e_Mod_man_84, e_Mod_man_85, e_Mod_man_86, e_Mod_man_87, e_Mod_man_88, e_Mod_man_91, e_Mod_man_92, e_Mod_man_93, e_Mod_man_96, e_Mod_man_97, e_Mod_man_98, e_Mod_man_101, e_Mod_man_102, e_Mod_man_103, e_Mod_man_106, e_Mod_man_107, e_Mod_man_108, e_Mod_man_109, alk_in, ask_in, blk_in, bsk_in, qlk_in, ack_in, rcv_in, rcA_in, bk_i, bk_l, bk_v, hS_same, hS_ne, hS_hS, hS_2, am_10, am_01, am_00, if_true, if_false, gf_12_0, pf_12_0, gf_12_1, pf_12_1, gf_12_2, pf_12_2, gf_12_3, pf_12_3, gf_12_4, pf_12_4, gf_12_5, pf_12_5, gf_12_6, pf_12_6, gf_12_7, pf_12_7, gf_12_8, pf_12_8, gf_12_9, pf_12_9, gf_12_10, pf_12_10, gf_12_11, pf_12_11, gf_12_12, pf_12_12, gf_12_13, pf_12_13, gf_12_14, pf_12_14, gf_12_15, pf_12_15, gf_12_16, pf_12_16, gf_12_17, pf_12_17, gf_12_18, pf_12_18, gf_12_19, pf_12_19, gf_12_20, pf_12_20, o, c1, c2, w0, w1, w2, w3]
    by_cases w5 : w = 5
    · subst w5
      obtain ⟨h1, e1, S1, A1, f1⟩ := m_holds S0 hn s2
      obtain ⟨h2, e2, ⟨t1, ce1, ye1, S2⟩, u2, f2⟩ := m_out hk S1 hw (s1.fe f1 (by decide))
      obtain ⟨h3, e3, S3, A3, f3⟩ := m_lets S2 hn (A1.fe f2 (by decide))
      refine ⟨h3, ?_, S3, u2.fe f3 (by decide), A3.sh, ((f1.wd (by decide)).tr (f2.wd (by decide))).tr (f3.wd (by decide))⟩
      have o1 : h1.1 120 = _ := f1.at o (by decide)
      have o2 : h2.1 120 = _ := f2.at o1 (by decide)
      rw [ev_Mod_man]
      simp (disch := omega) only [e_Mod_man_0, e_Mod_man_1, e_Mod_man_2, e_Mod_man_5, e_Mod_man_5b, e_Mod_man_8, e_Mod_man_9, e_Mod_man_10, e_Mod_man_11c0, e_Mod_man_11c1, e_Mod_man_11c2, e_Mod_man_11c3, e_Mod_man_11c4, e_Mod_man_11c5, e_Mod_man_11d, e_Mod_man_48, e_Mod_man_49, e_Mod_man_52, e_Mod_man_53, e_Mod_man_54, e_Mod_man_55, e_Mod_man_56, e_Mod_man_57, e_Mod_man_58, e_Mod_man_61, e_Mod_man_63, e_Mod_man_64, e_Mod_man_65, e_Mod_man_66, e_Mod_man_67, e_Mod_man_68, e_Mod_man_71, e_Mod_man_72, e_Mod_man_73, e_Mod_man_74, e_Mod_man_75, e_Mod_man_76, e_Mod_man_77, e_Mod_man_80, e_Mod_man_82, e_Mod_man_83, e_Mod_man_84, e_Mod_man_85, e_Mod_man_86, e_Mod_man_87, e_Mod_man_88, e_Mod_man_91, e_Mod_man_92, e_Mod_man_93, e_Mod_man_96, e_Mod_man_97, e_Mod_man_98, e_Mod_man_101, e_Mod_man_102, e_Mod_man_103, e_Mod_man_106, e_Mod_man_107, e_Mod_man_108, e_Mod_man_109, alk_in, ask_in, blk_in, bsk_in, qlk_in, ack_in, rcv_in, rcA_in, bk_i, bk_l, bk_v, hS_same, hS_ne, hS_hS, hS_2, am_10, am_01, am_00, if_true, if_false, gf_12_0, pf_12_0, gf_12_1, pf_12_1, gf_12_2, pf_12_2, gf_12_3, pf_12_3, gf_12_4, pf_12_4, gf_12_5, pf_12_5, gf_12_6, pf_12_6, gf_12_7, pf_12_7, gf_12_8, pf_12_8, gf_12_9, pf_12_9, gf_12_10, pf_12_10, gf_12_11, pf_12_11, gf_12_12, pf_12_12, gf_12_13, pf_12_13, gf_12_14, pf_12_14, gf_12_15, pf_12_15, gf_12_16, pf_12_16, gf_12_17, pf_12_17, gf_12_18, pf_12_18, gf_12_19, pf_12_19, gf_12_20, pf_12_20, o, o1, o2, c1, e1, e2, e3, w0, w1, w2, w3, w4]
    · refine ⟨h, ?_, S0, s1, s2, FE.rf⟩
      rw [ev_Mod_man]
      simp (disch := omega) only [e_Mod_man_0, e_Mod_man_1, e_Mod_man_2, e_Mod_man_5, e_Mod_man_5b, e_Mod_man_8, e_Mod_man_9, e_Mod_man_10, e_Mod_man_11c0, e_Mod_man_11c1, e_Mod_man_11c2, e_Mod_man_11c3, e_Mod_man_11c4, e_Mod_man_11c5, e_Mod_man_11d, e_Mod_man_48, e_Mod_man_49, e_Mod_man_52, e_Mod_man_53, e_Mod_man_54, e_Mod_man_55, e_Mod_man_56, e_Mod_man_57, e_Mod_man_58, e_Mod_man_61, e_Mod_man_63, e_Mod_man_64, e_Mod_man_65, e_Mod_man_66, e_Mod_man_67, e_Mod_man_68, e_Mod_man_71, e_Mod_man_72, e_Mod_man_73, e_Mod_man_74, e_Mod_man_75, e_Mod_man_76, e_Mod_man_77, e_Mod_man_80, e_Mod_man_82, e_Mod_man_83, e_Mod_man_84, e_Mod_man_85, e_Mod_man_86, e_Mod_man_87, e_Mod_man_88, e_Mod_man_91, e_Mod_man_92, e_Mod_man_93, e_Mod_man_96, e_Mod_man_97, e_Mod_man_98, e_Mod_man_101, e_Mod_man_102, e_Mod_man_103, e_Mod_man_106, e_Mod_man_107, e_Mod_man_108, e_Mod_man_109, alk_in, ask_in, blk_in, bsk_in, qlk_in, ack_in, rcv_in, rcA_in, bk_i, bk_l, bk_v, hS_same, hS_ne, hS_hS, hS_2, am_10, am_01, am_00, if_true, if_false, gf_12_0, pf_12_0, gf_12_1, pf_12_1, gf_12_2, pf_12_2, gf_12_3, pf_12_3, gf_12_4, pf_12_4, gf_12_5, pf_12_5, gf_12_6, pf_12_6, gf_12_7, pf_12_7, gf_12_8, pf_12_8, gf_12_9, pf_12_9, gf_12_10, pf_12_10, gf_12_11, pf_12_11, gf_12_12, pf_12_12, gf_12_13, pf_12_13, gf_12_14, pf_12_14, gf_12_15, pf_12_15, gf_12_16, pf_12_16, gf_12_17, pf_12_17, gf_12_18, pf_12_18, gf_12_19, pf_12_19, gf_12_20, pf_12_20, o, c1, w0, w1, w2, w3, w4, w5]
  · simp only [q, if_false] at c1
    rw [if_neg q]
    refine ⟨h, ?_, S0, s1, s2, FE.rf⟩
    rw [ev_Mod_man]
    simp (disch := omega) only [e_Mod_man_0, e_Mod_man_1, e_Mod_man_2, e_Mod_man_5, e_Mod_man_5b, e_Mod_man_8, e_Mod_man_9, e_Mod_man_10, e_Mod_man_11c0, e_Mod_man_11c1, e_Mod_man_11c2, e_Mod_man_11c3, e_Mod_man_11c4, e_Mod_man_11c5, e_Mod_man_11d, e_Mod_man_48, e_Mod_man_49, e_Mod_man_52, e_Mod_man_53, e_Mod_man_54, e_Mod_man_55, e_Mod_man_56, e_Mod_man_57, e_Mod_man_58, e_Mod_man_61, e_Mod_man_63, e_Mod_man_64, e_Mod_man_65, e_Mod_man_66, e_Mod_man_67, e_Mod_man_68, e_Mod_man_71, e_Mod_man_72, e_Mod_man_73, e_Mod_man_74, e_Mod_man_75, e_Mod_man_76, e_Mod_man_77, e_Mod_man_80, e_Mod_man_82, e_Mod_man_83, e_Mod_man_84, e_Mod_man_85, e_Mod_man_86, e_Mod_man_87, e_Mod_man_88, e_Mod_man_91, e_Mod_man_92, e_Mod_man_93, e_Mod_man_96, e_Mod_man_97, e_Mod_man_98, e_Mod_man_101, e_Mod_man_102, e_Mod_man_103, e_Mod_man_106, e_Mod_man_107, e_Mod_man_108, e_Mod_man_109, alk_in, ask_in, blk_in, bsk_in, qlk_in, ack_in, rcv_in, rcA_in, bk_i, bk_l, bk_v, hS_same, hS_ne, hS_hS, hS_2, am_10, am_01, am_00, if_true, if_false, gf_12_0, pf_12_0, gf_12_1, pf_12_1, gf_12_2, pf_12_2, gf_12_3, pf_12_3, gf_12_4, pf_12_4, gf_12_5, pf_12_5, gf_12_6, pf_12_6, gf_12_7, pf_12_7, gf_12_8, pf_12_8, gf_12_9, pf_12_9, gf_12_10, pf_12_10, gf_12_11, pf_12_11, gf_12_12, pf_12_12, gf_12_13, pf_12_13, gf_12_14, pf_12_14, gf_12_15, pf_12_15, gf_12_16, pf_12_16, gf_12_17, pf_12_17, gf_12_18, pf_12_18, gf_12_19, pf_12_19, gf_12_20, pf_12_20, o, c1]
theorem q_cell (S : RM h G T) (hw : WT G T) {x : Int} (hx : rg32 x) : ev mMod_cell [vR 120, vI x] h = some (some (vI (aCell G T x)), h) := by
  obtain ⟨n, c, lq, ha⟩ := G
  obtain ⟨t, ce, so, ye⟩ := T
  unfold RM at S
  unfold WT at hw
  simp only at S hw
  unfold rg32 at hx
  have c1 := m_isCell S hw.2.2.1 hx
  have c2 := m_whoIn S hw hx
  obtain ⟨x0, x2, x7, x11, x12, x13, x14, x15, T', F, o, a, b, r0, r1, r2, r3, r⟩ := S
  unfold MoA at o
  unfold aCell
  simp only
  rw [ev_Mod_cell]
  by_cases q : 0 ≤ x ∧ x < c
  · simp only [q, and_self, if_true] at c1
    rw [if_pos q]
    simp (disch := omega) only [e_Mod_cell_0, e_Mod_cell_1, e_Mod_cell_2, e_Mod_cell_5, e_Mod_cell_5b, e_Mod_cell_8, e_Mod_cell_9, e_Mod_cell_10, e_Mod_cell_13, e_Mod_cell_16, e_Mod_cell_17, alk_in, ask_in, blk_in, bsk_in, qlk_in, ack_in, rcv_in, rcA_in, bk_i, bk_l, bk_v, hS_same, hS_ne, hS_hS, hS_2, am_10, am_01, am_00, if_true, if_false, gf_12_0, pf_12_0, gf_12_1, pf_12_1, gf_12_2, pf_12_2, gf_12_3, pf_12_3, gf_12_4, pf_12_4, gf_12_5, pf_12_5, gf_12_6, pf_12_6, gf_12_7, pf_12_7, gf_12_8, pf_12_8, gf_12_9, pf_12_9, gf_12_10, pf_12_10, gf_12_11, pf_12_11, gf_12_12, pf_12_12, gf_12_13, pf_12_13, gf_12_14, pf_12_14, gf_12_15, pf_12_15, gf_12_16, pf_12_16, gf_12_17, pf_12_17, gf_12_18, pf_12_18, gf_12_19, pf_12_19, gf_12_20, pf_12_20, o, c1, c2]
  · simp only [q, if_false] at c1
    rw [if_neg q]
    simp (disch := omega) only [e_Mod_cell_0, e_Mod_cell_1, e_Mod_cell_2, e_Mod_cell_5, e_Mod_cell_5b, e_Mod_cell_8, e_Mod_cell_9, e_Mod_cell_10, e_Mod_cell_13, e_Mod_cell_16, e_Mod_cell_17, alk_in, ask_in, blk_in, bsk_in, qlk_in, ack_in, rcv_in, rcA_in, bk_i, bk_l, bk_v, hS_same, hS_ne, hS_hS, hS_2, am_10, am_01, am_00, if_true, if_false, gf_12_0, pf_12_0, gf_12_1, pf_12_1, gf_12_2, pf_12_2, gf_12_3, pf_12_3, gf_12_4, pf_12_4, gf_12_5, pf_12_5, gf_12_6, pf_12_6, gf_12_7, pf_12_7, gf_12_8, pf_12_8, gf_12_9, pf_12_9, gf_12_10, pf_12_10, gf_12_11, pf_12_11, gf_12_12, pf_12_12, gf_12_13, pf_12_13, gf_12_14, pf_12_14, gf_12_15, pf_12_15, gf_12_16, pf_12_16, gf_12_17, pf_12_17, gf_12_18, pf_12_18, gf_12_19, pf_12_19, gf_12_20, pf_12_20, o, c1]
theorem q_brings (S : RM h G T) (hw : WT G T) {m : Int} (hm : rg32 m) : ev mMod_brings [vR 120, vI m] h = some (some (vI (aBrings G T m)), h) := by
  obtain ⟨n, c, lq, ha⟩ := G
  obtain ⟨t, ce, so, ye⟩ := T
  unfold RM at S
  unfold WT at hw
  simp only at S hw
  unfold rg32 at hm
  have hn := hw.1
  have c1 := m_isMan S hn hm
  have S0 := S
  obtain ⟨x0, x2, x7, x11, x12, x13, x14, x15, T', F, o, a, b, r0, r1, r2, r3, r⟩ := S
  unfold MoA at o
  unfold aBrings
  simp only
  rw [ev_Mod_brings]
  by_cases q : 0 ≤ m ∧ m < n
  · obtain ⟨k, rfl⟩ : ∃ k : Nat, m = (k : Int) := ⟨m.toNat, by omega⟩
    have hk : k < n := by omega
    have z := r k hk
    have c2 := m_isIn S0 hw hk
    have c3 := m_then S0 hw hk
    simp only [q, and_self, if_true] at c1
    rw [if_pos q]
    simp only [Int.toNat_natCast]
    unfold thn at c3
    by_cases y : ce k = -9
    · simp only [y, if_true] at c2
      rw [if_pos y]
      simp (disch := omega) only [e_Mod_brings_0, e_Mod_brings_1, e_Mod_brings_2, e_Mod_brings_5, e_Mod_brings_5b, e_Mod_brings_8, e_Mod_brings_10, e_Mod_brings_11, e_Mod_brings_12, e_Mod_brings_13, e_Mod_brings_16, e_Mod_brings_16b, e_Mod_brings_19, e_Mod_brings_20, e_Mod_brings_21, e_Mod_brings_24, e_Mod_brings_25, e_Mod_brings_28, e_Mod_brings_30, e_Mod_brings_31, e_Mod_brings_32, e_Mod_brings_33, e_Mod_brings_34, e_Mod_brings_37, e_Mod_brings_38, alk_in, ask_in, blk_in, bsk_in, qlk_in, ack_in, rcv_in, rcA_in, bk_i, bk_l, bk_v, hS_same, hS_ne, hS_hS, hS_2, am_10, am_01, am_00, if_true, if_false, gf_12_0, pf_12_0, gf_12_1, pf_12_1, gf_12_2, pf_12_2, gf_12_3, pf_12_3, gf_12_4, pf_12_4, gf_12_5, pf_12_5, gf_12_6, pf_12_6, gf_12_7, pf_12_7, gf_12_8, pf_12_8, gf_12_9, pf_12_9, gf_12_10, pf_12_10, gf_12_11, pf_12_11, gf_12_12, pf_12_12, gf_12_13, pf_12_13, gf_12_14, pf_12_14, gf_12_15, pf_12_15, gf_12_16, pf_12_16, gf_12_17, pf_12_17, gf_12_18, pf_12_18, gf_12_19, pf_12_19, gf_12_20, pf_12_20, o, c1, c2]
    · simp only [y, if_false] at c2 c3
      rw [if_neg y]
      simp (disch := omega) only [e_Mod_brings_0, e_Mod_brings_1, e_Mod_brings_2, e_Mod_brings_5, e_Mod_brings_5b, e_Mod_brings_8, e_Mod_brings_10, e_Mod_brings_11, e_Mod_brings_12, e_Mod_brings_13, e_Mod_brings_16, e_Mod_brings_16b, e_Mod_brings_19, e_Mod_brings_20, e_Mod_brings_21, e_Mod_brings_24, e_Mod_brings_25, e_Mod_brings_28, e_Mod_brings_30, e_Mod_brings_31, e_Mod_brings_32, e_Mod_brings_33, e_Mod_brings_34, e_Mod_brings_37, e_Mod_brings_38, alk_in, ask_in, blk_in, bsk_in, qlk_in, ack_in, rcv_in, rcA_in, bk_i, bk_l, bk_v, hS_same, hS_ne, hS_hS, hS_2, am_10, am_01, am_00, if_true, if_false, gf_12_0, pf_12_0, gf_12_1, pf_12_1, gf_12_2, pf_12_2, gf_12_3, pf_12_3, gf_12_4, pf_12_4, gf_12_5, pf_12_5, gf_12_6, pf_12_6, gf_12_7, pf_12_7, gf_12_8, pf_12_8, gf_12_9, pf_12_9, gf_12_10, pf_12_10, gf_12_11, pf_12_11, gf_12_12, pf_12_12, gf_12_13, pf_12_13, gf_12_14, pf_12_14, gf_12_15, pf_12_15, gf_12_16, pf_12_16, gf_12_17, pf_12_17, gf_12_18, pf_12_18, gf_12_19, pf_12_19, gf_12_20, pf_12_20, o, b, c1, c2, c3, tn_13, z.2.2.2]
  · simp only [q, if_false] at c1
    rw [if_neg q]
    simp (disch := omega) only [e_Mod_brings_0, e_Mod_brings_1, e_Mod_brings_2, e_Mod_brings_5, e_Mod_brings_5b, e_Mod_brings_8, e_Mod_brings_10, e_Mod_brings_11, e_Mod_brings_12, e_Mod_brings_13, e_Mod_brings_16, e_Mod_brings_16b, e_Mod_brings_19, e_Mod_brings_20, e_Mod_brings_21, e_Mod_brings_24, e_Mod_brings_25, e_Mod_brings_28, e_Mod_brings_30, e_Mod_brings_31, e_Mod_brings_32, e_Mod_brings_33, e_Mod_brings_34, e_Mod_brings_37, e_Mod_brings_38, alk_in, ask_in, blk_in, bsk_in, qlk_in, ack_in, rcv_in, rcA_in, bk_i, bk_l, bk_v, hS_same, hS_ne, hS_hS, hS_2, am_10, am_01, am_00, if_true, if_false, gf_12_0, pf_12_0, gf_12_1, pf_12_1, gf_12_2, pf_12_2, gf_12_3, pf_12_3, gf_12_4, pf_12_4, gf_12_5, pf_12_5, gf_12_6, pf_12_6, gf_12_7, pf_12_7, gf_12_8, pf_12_8, gf_12_9, pf_12_9, gf_12_10, pf_12_10, gf_12_11, pf_12_11, gf_12_12, pf_12_12, gf_12_13, pf_12_13, gf_12_14, pf_12_14, gf_12_15, pf_12_15, gf_12_16, pf_12_16, gf_12_17, pf_12_17, gf_12_18, pf_12_18, gf_12_19, pf_12_19, gf_12_20, pf_12_20, o, c1]
theorem q_count {tr pc : Int} {L k : Nat} (O : MO h tr L pc k) (S : RM h G T) {w : Int} (hr : rg32 w) : ev mMod_count [vR 120, vI w] h = some (some (vI (aCount L G k w)), h) := by
  obtain ⟨n, c, lq, ha⟩ := G
  obtain ⟨t, ce, so, ye⟩ := T
  unfold RM at S
  simp only at S
  unfold rg32 at hr
  obtain ⟨x0, x2, x7, x11, x12, x13, x14, x15, T', F, -, a, b, r0, r1, r2, r3, r⟩ := S
  obtain ⟨x12, x13, x14, x15, o⟩ := O
  unfold MoA at o
  unfold aCount
  simp only
  rw [ev_Mod_count]
  by_cases w0 : w = 0
  · subst w0; simp (disch := omega) only [e_Mod_count_0, e_Mod_count_1c0, e_Mod_count_1c1, e_Mod_count_1c2, e_Mod_count_1c3, e_Mod_count_1c4, e_Mod_count_1d, e_Mod_count_36, e_Mod_count_37, e_Mod_count_40, e_Mod_count_41, e_Mod_count_42, e_Mod_count_43, e_Mod_count_44, e_Mod_count_47, e_Mod_count_48, e_Mod_count_49, e_Mod_count_50, e_Mod_count_51, e_Mod_count_54, e_Mod_count_55, e_Mod_count_56, e_Mod_count_57, e_Mod_count_58, e_Mod_count_61, e_Mod_count_62, e_Mod_count_63, e_Mod_count_66, e_Mod_count_67, e_Mod_count_68, alk_in, ask_in, blk_in, bsk_in, qlk_in, ack_in, rcv_in, rcA_in, bk_i, bk_l, bk_v, hS_same, hS_ne, hS_hS, hS_2, am_10, am_01, am_00, if_true, if_false, gf_12_0, pf_12_0, gf_12_1, pf_12_1, gf_12_2, pf_12_2, gf_12_3, pf_12_3, gf_12_4, pf_12_4, gf_12_5, pf_12_5, gf_12_6, pf_12_6, gf_12_7, pf_12_7, gf_12_8, pf_12_8, gf_12_9, pf_12_9, gf_12_10, pf_12_10, gf_12_11, pf_12_11, gf_12_12, pf_12_12, gf_12_13, pf_12_13, gf_12_14, pf_12_14, gf_12_15, pf_12_15, gf_12_16, pf_12_16, gf_12_17, pf_12_17, gf_12_18, pf_12_18, gf_12_19, pf_12_19, gf_12_20, pf_12_20, o, a, tl_0, r0]
  by_cases w1 : w = 1
  · subst w1; simp (disch := omega) only [e_Mod_count_0, e_Mod_count_1c0, e_Mod_count_1c1, e_Mod_count_1c2, e_Mod_count_1c3, e_Mod_count_1c4, e_Mod_count_1d, e_Mod_count_36, e_Mod_count_37, e_Mod_count_40, e_Mod_count_41, e_Mod_count_42, e_Mod_count_43, e_Mod_count_44, e_Mod_count_47, e_Mod_count_48, e_Mod_count_49, e_Mod_count_50, e_Mod_count_51, e_Mod_count_54, e_Mod_count_55, e_Mod_count_56, e_Mod_count_57, e_Mod_count_58, e_Mod_count_61, e_Mod_count_62, e_Mod_count_63, e_Mod_count_66, e_Mod_count_67, e_Mod_count_68, alk_in, ask_in, blk_in, bsk_in, qlk_in, ack_in, rcv_in, rcA_in, bk_i, bk_l, bk_v, hS_same, hS_ne, hS_hS, hS_2, am_10, am_01, am_00, if_true, if_false, gf_12_0, pf_12_0, gf_12_1, pf_12_1, gf_12_2, pf_12_2, gf_12_3, pf_12_3, gf_12_4, pf_12_4, gf_12_5, pf_12_5, gf_12_6, pf_12_6, gf_12_7, pf_12_7, gf_12_8, pf_12_8, gf_12_9, pf_12_9, gf_12_10, pf_12_10, gf_12_11, pf_12_11, gf_12_12, pf_12_12, gf_12_13, pf_12_13, gf_12_14, pf_12_14, gf_12_15, pf_12_15, gf_12_16, pf_12_16, gf_12_17, pf_12_17, gf_12_18, pf_12_18, gf_12_19, pf_12_19, gf_12_20, pf_12_20, o, a, tl_1, r1]
  by_cases w2 : w = 2
  · subst w2; simp (disch := omega) only [e_Mod_count_0, e_Mod_count_1c0, e_Mod_count_1c1, e_Mod_count_1c2, e_Mod_count_1c3, e_Mod_count_1c4, e_Mod_count_1d, e_Mod_count_36, e_Mod_count_37, e_Mod_count_40, e_Mod_count_41, e_Mod_count_42, e_Mod_count_43, e_Mod_count_44, e_Mod_count_47, e_Mod_count_48, e_Mod_count_49, e_Mod_count_50, e_Mod_count_51, e_Mod_count_54, e_Mod_count_55, e_Mod_count_56, e_Mod_count_57, e_Mod_count_58, e_Mod_count_61, e_Mod_count_62, e_Mod_count_63, e_Mod_count_66, e_Mod_count_67, e_Mod_count_68, alk_in, ask_in, blk_in, bsk_in, qlk_in, ack_in, rcv_in, rcA_in, bk_i, bk_l, bk_v, hS_same, hS_ne, hS_hS, hS_2, am_10, am_01, am_00, if_true, if_false, gf_12_0, pf_12_0, gf_12_1, pf_12_1, gf_12_2, pf_12_2, gf_12_3, pf_12_3, gf_12_4, pf_12_4, gf_12_5, pf_12_5, gf_12_6, pf_12_6, gf_12_7, pf_12_7, gf_12_8, pf_12_8, gf_12_9, pf_12_9, gf_12_10, pf_12_10, gf_12_11, pf_12_11, gf_12_12, pf_12_12, gf_12_13, pf_12_13, gf_12_14, pf_12_14, gf_12_15, pf_12_15, gf_12_16, pf_12_16, gf_12_17, pf_12_17, gf_12_18, pf_12_18, gf_12_19, pf_12_19, gf_12_20, pf_12_20, o, a, tl_2, r2, w0, w1]
  by_cases w3 : w = 3
  · subst w3; simp (disch := omega) only [e_Mod_count_0, e_Mod_count_1c0, e_Mod_count_1c1, e_Mod_count_1c2, e_Mod_count_1c3, e_Mod_count_1c4, e_Mod_count_1d, e_Mod_count_36, e_Mod_count_37, e_Mod_count_40, e_Mod_count_41, e_Mod_count_42, e_Mod_count_43, e_Mod_count_44, e_Mod_count_47, e_Mod_count_48, e_Mod_count_49, e_Mod_count_50, e_Mod_count_51, e_Mod_count_54, e_Mod_count_55, e_Mod_count_56, e_Mod_count_57, e_Mod_count_58, e_Mod_count_61, e_Mod_count_62, e_Mod_count_63, e_Mod_count_66, e_Mod_count_67, e_Mod_count_68, alk_in, ask_in, blk_in, bsk_in, qlk_in, ack_in, rcv_in, rcA_in, bk_i, bk_l, bk_v, hS_same, hS_ne, hS_hS, hS_2, am_10, am_01, am_00, if_true, if_false, gf_12_0, pf_12_0, gf_12_1, pf_12_1, gf_12_2, pf_12_2, gf_12_3, pf_12_3, gf_12_4, pf_12_4, gf_12_5, pf_12_5, gf_12_6, pf_12_6, gf_12_7, pf_12_7, gf_12_8, pf_12_8, gf_12_9, pf_12_9, gf_12_10, pf_12_10, gf_12_11, pf_12_11, gf_12_12, pf_12_12, gf_12_13, pf_12_13, gf_12_14, pf_12_14, gf_12_15, pf_12_15, gf_12_16, pf_12_16, gf_12_17, pf_12_17, gf_12_18, pf_12_18, gf_12_19, pf_12_19, gf_12_20, pf_12_20, o, w0, w1, w2]
  by_cases w4 : w = 4
  · subst w4; simp (disch := omega) only [e_Mod_count_0, e_Mod_count_1c0, e_Mod_count_1c1, e_Mod_count_1c2, e_Mod_count_1c3, e_Mod_count_1c4, e_Mod_count_1d, e_Mod_count_36, e_Mod_count_37, e_Mod_count_40, e_Mod_count_41, e_Mod_count_42, e_Mod_count_43, e_Mod_count_44, e_Mod_count_47, e_Mod_count_48, e_Mod_count_49, e_Mod_count_50, e_Mod_count_51, e_Mod_count_54, e_Mod_count_55, e_Mod_count_56, e_Mod_count_57, e_Mod_count_58, e_Mod_count_61, e_Mod_count_62, e_Mod_count_63, e_Mod_count_66, e_Mod_count_67, e_Mod_count_68, alk_in, ask_in, blk_in, bsk_in, qlk_in, ack_in, rcv_in, rcA_in, bk_i, bk_l, bk_v, hS_same, hS_ne, hS_hS, hS_2, am_10, am_01, am_00, if_true, if_false, gf_12_0, pf_12_0, gf_12_1, pf_12_1, gf_12_2, pf_12_2, gf_12_3, pf_12_3, gf_12_4, pf_12_4, gf_12_5, pf_12_5, gf_12_6, pf_12_6, gf_12_7, pf_12_7, gf_12_8, pf_12_8, gf_12_9, pf_12_9, gf_12_10, pf_12_10, gf_12_11, pf_12_11, gf_12_12, pf_12_12, gf_12_13, pf_12_13, gf_12_14, pf_12_14, gf_12_15, pf_12_15, gf_12_16, pf_12_16, gf_12_17, pf_12_17, gf_12_18, pf_12_18, gf_12_19, pf_12_19, gf_12_20, pf_12_20, o, w0, w1, w2, w3]
  · simp (disch := omega) only [e_Mod_count_0, e_Mod_count_1c0, e_Mod_count_1c1, e_Mod_count_1c2, e_Mod_count_1c3, e_Mod_count_1c4, e_Mod_count_1d, e_Mod_count_36, e_Mod_count_37, e_Mod_count_40, e_Mod_count_41, e_Mod_count_42, e_Mod_count_43, e_Mod_count_44, e_Mod_count_47, e_Mod_count_48, e_Mod_count_49, e_Mod_count_50, e_Mod_count_51, e_Mod_count_54, e_Mod_count_55, e_Mod_count_56, e_Mod_count_57, e_Mod_count_58, e_Mod_count_61, e_Mod_count_62, e_Mod_count_63, e_Mod_count_66, e_Mod_count_67, e_Mod_count_68, alk_in, ask_in, blk_in, bsk_in, qlk_in, ack_in, rcv_in, rcA_in, bk_i, bk_l, bk_v, hS_same, hS_ne, hS_hS, hS_2, am_10, am_01, am_00, if_true, if_false, gf_12_0, pf_12_0, gf_12_1, pf_12_1, gf_12_2, pf_12_2, gf_12_3, pf_12_3, gf_12_4, pf_12_4, gf_12_5, pf_12_5, gf_12_6, pf_12_6, gf_12_7, pf_12_7, gf_12_8, pf_12_8, gf_12_9, pf_12_9, gf_12_10, pf_12_10, gf_12_11, pf_12_11, gf_12_12, pf_12_12, gf_12_13, pf_12_13, gf_12_14, pf_12_14, gf_12_15, pf_12_15, gf_12_16, pf_12_16, gf_12_17, pf_12_17, gf_12_18, pf_12_18, gf_12_19, pf_12_19, gf_12_20, pf_12_20, o, w0, w1, w2, w3, w4]
theorem q_trace {tr L pc k : Int} (O : MO h tr L pc k) : ev mMod_trace [vR 120] h = some (some (vL tr), h) := by
  obtain ⟨x12, x13, x14, x15, o⟩ := O
  unfold MoA at o
  rw [ev_Mod_trace]
  simp (disch := omega) only [e_Mod_trace_0, e_Mod_trace_1, e_Mod_trace_4, alk_in, ask_in, blk_in, bsk_in, qlk_in, ack_in, rcv_in, rcA_in, bk_i, bk_l, bk_v, hS_same, hS_ne, hS_hS, hS_2, am_10, am_01, am_00, if_true, if_false, gf_12_0, pf_12_0, gf_12_1, pf_12_1, gf_12_2, pf_12_2, gf_12_3, pf_12_3, gf_12_4, pf_12_4, gf_12_5, pf_12_5, gf_12_6, pf_12_6, gf_12_7, pf_12_7, gf_12_8, pf_12_8, gf_12_9, pf_12_9, gf_12_10, pf_12_10, gf_12_11, pf_12_11, gf_12_12, pf_12_12, gf_12_13, pf_12_13, gf_12_14, pf_12_14, gf_12_15, pf_12_15, gf_12_16, pf_12_16, gf_12_17, pf_12_17, gf_12_18, pf_12_18, gf_12_19, pf_12_19, gf_12_20, pf_12_20, o]
theorem q_type {tr pc k : Int} {L : Nat} {f : Nat → Int} (hL : L ≤ 120) (O : MO h tr L pc k) (S : RM h G T) (X : MTx h L f) {x : Int} (hx : rg32 x) : ∃ h', ev mMod_type [vR 120, vI x] h = some (some (vI (aType L x)), h') ∧ MO h' tr ((nType L f x).1 : Int) pc k ∧ RM h' G T ∧ MTx h' (nType L f x).1 (nType L f x).2 ∧ FE [120, 121] h h' := by
  have O' := O
  have X' := X
  obtain ⟨x12, x13, x14, x15, o⟩ := O
  unfold MoA at o
  obtain ⟨g, X0, X1⟩ := X
  unfold rg32 at hx
  have c1 := c_min (h := h) (v := x) (x := 0) (y := 255) hx (by omega) (by omega)
  unfold aType nType
  by_cases q : 0 ≤ x ∧ x ≤ 255
  · simp only [q, and_self, if_true] at c1
    by_cases r : L < 120
    · rw [if_pos q, if_neg (by omega), if_pos ⟨q, r⟩]
      have f1 : FE [121] h (hS h 121 (cI 0 120 (fun j => if j = L then x else g j))) := FE.st (by decide)
      refine ⟨hS (hS h 121 (cI 0 120 (fun j => if j = L then x else g j))) 120 (cO 12 [vL tr, vR 121, vI ((L : Int) + 1), vR 122, vR 123, vR 124, vR 125, vI pc, vR 126, vR 127, vR 128, vI k, x12, x13, x14, x15, vR 129, vR 130, vR 131, vR 132, vR 133]), ?_, ⟨x12, x13, x14, x15, by unfold MoA; rw [hS_same]; rfl⟩, (S.fe f1 (by decide)).obj _ _ _ _ _ _ _ _, ⟨_, by rw [hS_ne (by decide)]; exact hS_same, fun j hj => ?_⟩, (f1.wd (by decide)).tr (FE.st (by decide))⟩
      · rw [ev_Mod_type]
        simp (disch := omega) only [e_Mod_type_0, e_Mod_type_1, e_Mod_type_2, e_Mod_type_5, e_Mod_type_8, e_Mod_type_8b, e_Mod_type_11, e_Mod_type_12, e_Mod_type_13, e_Mod_type_14, e_Mod_type_17, e_Mod_type_19, e_Mod_type_22, e_Mod_type_24, e_Mod_type_25, e_Mod_type_26, e_Mod_type_29, e_Mod_type_30, e_Mod_type_33, e_Mod_type_34, e_Mod_type_35, e_Mod_type_36, e_Mod_type_37, e_Mod_type_40, e_Mod_type_41, e_Mod_type_42, e_Mod_type_45, e_Mod_type_46, e_Mod_type_49, alk_in, ask_in, blk_in, bsk_in, qlk_in, ack_in, rcv_in, rcA_in, bk_i, bk_l, bk_v, hS_same, hS_ne, hS_hS, hS_2, am_10, am_01, am_00, if_true, if_false, gf_12_0, pf_12_0, gf_12_1, pf_12_1, gf_12_2, pf_12_2, gf_12_3, pf_12_3, gf_12_4, pf_12_4, gf_12_5, pf_12_5, gf_12_6, pf_12_6, gf_12_7, pf_12_7, gf_12_8, pf_12_8, gf_12_9, pf_12_9, gf_12_10, pf_12_10, gf_12_11, pf_12_11, gf_12_12, pf_12_12, gf_12_13, pf_12_13, gf_12_14, pf_12_14, gf_12_15, pf_12_15, gf_12_16, pf_12_16, gf_12_17, pf_12_17, gf_12_18, pf_12_18, gf_12_19, pf_12_19, gf_12_20, pf_12_20, o, X0, c1, Int.toNat_natCast]
        rw [if_neg (by omega)]
      · show (if j = L then x else g j) = if j = L then x else f j
        by_cases z : j = L
        · simp [z]
        · rw [if_neg z, if_neg z]; exact X1 j (by simp only at hj; omega)
    · rw [if_pos q, if_pos (by omega), if_neg (fun z => r z.2)]
      refine ⟨h, ?_, O', S, X', FE.rf⟩
      rw [ev_Mod_type]
      simp (disch := omega) only [e_Mod_type_0, e_Mod_type_1, e_Mod_type_2, e_Mod_type_5, e_Mod_type_8, e_Mod_type_8b, e_Mod_type_11, e_Mod_type_12, e_Mod_type_13, e_Mod_type_14, e_Mod_type_17, e_Mod_type_19, e_Mod_type_22, e_Mod_type_24, e_Mod_type_25, e_Mod_type_26, e_Mod_type_29, e_Mod_type_30, e_Mod_type_33, e_Mod_type_34, e_Mod_type_35, e_Mod_type_36, e_Mod_type_37, e_Mod_type_40, e_Mod_type_41, e_Mod_type_42, e_Mod_type_45, e_Mod_type_46, e_Mod_type_49, alk_in, ask_in, blk_in, bsk_in, qlk_in, ack_in, rcv_in, rcA_in, bk_i, bk_l, bk_v, hS_same, hS_ne, hS_hS, hS_2, am_10, am_01, am_00, if_true, if_false, gf_12_0, pf_12_0, gf_12_1, pf_12_1, gf_12_2, pf_12_2, gf_12_3, pf_12_3, gf_12_4, pf_12_4, gf_12_5, pf_12_5, gf_12_6, pf_12_6, gf_12_7, pf_12_7, gf_12_8, pf_12_8, gf_12_9, pf_12_9, gf_12_10, pf_12_10, gf_12_11, pf_12_11, gf_12_12, pf_12_12, gf_12_13, pf_12_13, gf_12_14, pf_12_14, gf_12_15, pf_12_15, gf_12_16, pf_12_16, gf_12_17, pf_12_17, gf_12_18, pf_12_18, gf_12_19, pf_12_19, gf_12_20, pf_12_20, o, X0, c1]
      rw [if_pos (by omega)]
  · simp only [q, if_false] at c1
    rw [if_neg q, if_neg (fun z => q z.1)]
    refine ⟨h, ?_, O', S, X', FE.rf⟩
    rw [ev_Mod_type]
    simp (disch := omega) only [e_Mod_type_0, e_Mod_type_1, e_Mod_type_2, e_Mod_type_5, e_Mod_type_8, e_Mod_type_8b, e_Mod_type_11, e_Mod_type_12, e_Mod_type_13, e_Mod_type_14, e_Mod_type_17, e_Mod_type_19, e_Mod_type_22, e_Mod_type_24, e_Mod_type_25, e_Mod_type_26, e_Mod_type_29, e_Mod_type_30, e_Mod_type_33, e_Mod_type_34, e_Mod_type_35, e_Mod_type_36, e_Mod_type_37, e_Mod_type_40, e_Mod_type_41, e_Mod_type_42, e_Mod_type_45, e_Mod_type_46, e_Mod_type_49, alk_in, ask_in, blk_in, bsk_in, qlk_in, ack_in, rcv_in, rcA_in, bk_i, bk_l, bk_v, hS_same, hS_ne, hS_hS, hS_2, am_10, am_01, am_00, if_true, if_false, gf_12_0, pf_12_0, gf_12_1, pf_12_1, gf_12_2, pf_12_2, gf_12_3, pf_12_3, gf_12_4, pf_12_4, gf_12_5, pf_12_5, gf_12_6, pf_12_6, gf_12_7, pf_12_7, gf_12_8, pf_12_8, gf_12_9, pf_12_9, gf_12_10, pf_12_10, gf_12_11, pf_12_11, gf_12_12, pf_12_12, gf_12_13, pf_12_13, gf_12_14, pf_12_14, gf_12_15, pf_12_15, gf_12_16, pf_12_16, gf_12_17, pf_12_17, gf_12_18, pf_12_18, gf_12_19, pf_12_19, gf_12_20, pf_12_20, o, X0, c1]
theorem q_clear {tr pc k L : Int} {f : Nat → Int} (O : MO h tr L pc k) (S : RM h G T) (X : Sh h 121 120) : ∃ h', ev mMod_clear [vR 120] h = some (some (vI L), h') ∧ MO h' tr 0 pc k ∧ RM h' G T ∧ MTx h' 0 f ∧ FE [120] h h' := by
  obtain ⟨x12, x13, x14, x15, o⟩ := O
  unfold MoA at o
  obtain ⟨g, X0⟩ := X
  refine ⟨hS h 120 (cO 12 [vL tr, vR 121, vI 0, vR 122, vR 123, vR 124, vR 125, vI pc, vR 126, vR 127, vR 128, vI k, x12, x13, x14, x15, vR 129, vR 130, vR 131, vR 132, vR 133]), ?_, ⟨x12, x13, x14, x15, hS_same⟩, S.obj _ _ _ _ _ _ _ _, ⟨g, by rw [hS_ne (by decide)]; exact X0, fun j hj => by omega⟩, FE.st (by decide)⟩
  rw [ev_Mod_clear]
  simp (disch := omega) only [e_Mod_clear_0, e_Mod_clear_1, e_Mod_clear_4, e_Mod_clear_5, e_Mod_clear_6, e_Mod_clear_7, e_Mod_clear_10, e_Mod_clear_11, alk_in, ask_in, blk_in, bsk_in, qlk_in, ack_in, rcv_in, rcA_in, bk_i, bk_l, bk_v, hS_same, hS_ne, hS_hS, hS_2, am_10, am_01, am_00, if_true, if_false, gf_12_0, pf_12_0, gf_12_1, pf_12_1, gf_12_2, pf_12_2, gf_12_3, pf_12_3, gf_12_4, pf_12_4, gf_12_5, pf_12_5, gf_12_6, pf_12_6, gf_12_7, pf_12_7, gf_12_8, pf_12_8, gf_12_9, pf_12_9, gf_12_10, pf_12_10, gf_12_11, pf_12_11, gf_12_12, pf_12_12, gf_12_13, pf_12_13, gf_12_14, pf_12_14, gf_12_15, pf_12_15, gf_12_16, pf_12_16, gf_12_17, pf_12_17, gf_12_18, pf_12_18, gf_12_19, pf_12_19, gf_12_20, pf_12_20, o]
end ModA
