/-! The class: man, cell, brings, count, trace, seen -/
def rg32 (x : Int) : Prop := -2147483648 ≤ x ∧ x < 2147483648
def aMan (G : Gl) (T : Tm) (m w : Int) : Int := if 0 ≤ m ∧ m < G.1 then (if w = 0 then T.2.1 m.toNat else if w = 1 then T.2.2.1 m.toNat else if w = 2 then G.2.2.2 m.toNat else if w = 3 then T.2.2.2 m.toNat else if w = 4 then ((nbk T.2.1 m.toNat G.1 : Nat) : Int) else if w = 5 then outF G.1 T.2.2.1 G.2.2.2 m.toNat 61 0 T.2.1 T.2.2.2 else -1) else -1
section CellA
variable {h : am_H} {G : Gl} {T : Tm} {lo pc : Int}
theorem k_man (O : CeO h lo pc) (S : RT h 10 G T) (hw : WT G T) (Q : ScSh h 16) {m w : Int} (hm : rg32 m) (hr : rg32 w) : ∃ h', ev mCell_man [vR 1, vI m, vI w] h = some (some (vI (aMan G T m w)), h') ∧ ScSh h' 16 ∧ Fr 16 22 h h' := by
  unfold CeO at O
  obtain ⟨n, c, lq, ha⟩ := G
  obtain ⟨t, ce, so, ye⟩ := T
  unfold RT at S
  unfold WT at hw
  simp only at S hw
  have hn := hw.1
  have hc9 := hw.2.2.1
  unfold rg32 at hm hr
  have c1 := d_hasMan S hm hn
  have S0 := S
  obtain ⟨ce', so', ha', ye', ic, ⟨s0, s1, s2, s3, s4, s5⟩, r1, r2⟩ := S
  unfold aMan
  simp only
  by_cases q : 0 ≤ m ∧ m < n
  · obtain ⟨k, rfl⟩ : ∃ k : Nat, m = (k : Int) := ⟨m.toNat, by omega⟩
    have hk : k < n := by omega
    have z := r1 k hk
    simp only [q, and_self, if_true] at c1
    rw [if_pos q]
    simp only [Int.toNat_natCast]
    by_cases w0 : w = 0
    · subst w0
      refine ⟨h, ?_, Q, Fr.rf⟩
      rw [ev_Cell_man]
      simp (disch := omega) only [e_Cell_man_0, e_Cell_man_1, e_Cell_man_4, e_Cell_man_5, e_Cell_man_8, e_Cell_man_8b, e_Cell_man_11, e_Cell_man_12, e_Cell_man_13, e_Cell_man_14c0, e_Cell_man_14c1, e_Cell_man_14c2, e_Cell_man_14c3, e_Cell_man_14c4, e_Cell_man_14c5, e_Cell_man_14d, e_Cell_man_52, e_Cell_man_53, e_Cell_man_56, e_Cell_man_59, e_Cell_man_60, e_Cell_man_61, e_Cell_man_62, e_Cell_man_63, e_Cell_man_66, e_Cell_man_69, e_Cell_man_70, e_Cell_man_71, e_Cell_man_72, e_Cell_man_73, e_Cell_man_76, e_Cell_man_79, e_Cell_man_80, e_Cell_man_81, e_Cell_man_82, e_Cell_man_83, e_Cell_man_86, e_Cell_man_89, e_Cell_man_90, e_Cell_man_91, e_Cell_man_92, e_Cell_man_93, e_Cell_man_96, e_Cell_man_97, e_Cell_man_100, e_Cell_man_101, e_Cell_man_102, e_Cell_man_105, e_Cell_man_106, e_Cell_man_109, e_Cell_man_112, e_Cell_man_113, e_Cell_man_116, e_Cell_man_117, e_Cell_man_120, e_Cell_man_121, e_Cell_man_122, alk_in, ask_in, blk_in, bsk_in, qlk_in, ack_in, rcv_in, rcA_in, bk_i, bk_l, bk_v, hS_same, hS_ne, hS_hS, hS_2, am_10, am_01, am_00, if_true, if_false, gf_5_0, pf_5_0, gf_5_1, pf_5_1, gf_5_2, pf_5_2, gf_5_3, pf_5_3, gf_5_4, pf_5_4, gf_5_5, pf_5_5, gf_5_6, pf_5_6, gf_5_7, pf_5_7, gf_11_0, pf_11_0, gf_11_1, pf_11_1, gf_11_2, pf_11_2, gf_11_3, pf_11_3, gf_11_4, pf_11_4, gf_11_5, pf_11_5, gf_11_6, pf_11_6, gf_11_7, pf_11_7, gf_11_8, pf_11_8, gf_11_9, pf_11_9, gf_11_10, pf_11_10, gf_11_11, pf_11_11, O, s0, s1, c1, Int.toNat_natCast, z.1]
    by_cases w1 : w = 1
    · subst w1
      refine ⟨h, ?_, Q, Fr.rf⟩
      rw [ev_Cell_man]
      simp (disch := omega) only [e_Cell_man_0, e_Cell_man_1, e_Cell_man_4, e_Cell_man_5, e_Cell_man_8, e_Cell_man_8b, e_Cell_man_11, e_Cell_man_12, e_Cell_man_13, e_Cell_man_14c0, e_Cell_man_14c1, e_Cell_man_14c2, e_Cell_man_14c3, e_Cell_man_14c4, e_Cell_man_14c5, e_Cell_man_14d, e_Cell_man_52, e_Cell_man_53, e_Cell_man_56, e_Cell_man_59, e_Cell_man_60, e_Cell_man_61, e_Cell_man_62, e_Cell_man_63, e_Cell_man_66, e_Cell_man_69, e_Cell_man_70, e_Cell_man_71, e_Cell_man_72, e_Cell_man_73, e_Cell_man_76, e_Cell_man_79, e_Cell_man_80, e_Cell_man_81, e_Cell_man_82, e_Cell_man_83, e_Cell_man_86, e_Cell_man_89, e_Cell_man_90, e_Cell_man_91, e_Cell_man_92, e_Cell_man_93, e_Cell_man_96, e_Cell_man_97, e_Cell_man_100, e_Cell_man_101, e_Cell_man_102, e_Cell_man_105, e_Cell_man_106, e_Cell_man_109, e_Cell_man_112, e_Cell_man_113, e_Cell_man_116, e_Cell_man_117, e_Cell_man_120, e_Cell_man_121, e_Cell_man_122, alk_in, ask_in, blk_in, bsk_in, qlk_in, ack_in, rcv_in, rcA_in, bk_i, bk_l, bk_v, hS_same, hS_ne, hS_hS, hS_2, am_10, am_01, am_00, if_true, if_false, gf_5_0, pf_5_0, gf_5_1, pf_5_1, gf_5_2, pf_5_2, gf_5_3, pf_5_3, gf_5_4, pf_5_4, gf_5_5, pf_5_5, gf_5_6, pf_5_6, gf_5_7, pf_5_7, gf_11_0, pf_11_0, gf_11_1, pf_11_1, gf_11_2, pf_11_2, gf_11_3, pf_11_3, gf_11_4, pf_11_4, gf_11_5, pf_11_5, gf_11_6, pf_11_6, gf_11_7, pf_11_7, gf_11_8, pf_11_8, gf_11_9, pf_11_9, gf_11_10, pf_11_10, gf_11_11, pf_11_11, O, s0, s2, c1, Int.toNat_natCast, z.2.1]
    by_cases w2 : w = 2
    · subst w2
      refine ⟨h, ?_, Q, Fr.rf⟩
      rw [ev_Cell_man]
      simp (disch := omega) only [e_Cell_man_0, e_Cell_man_1, e_Cell_man_4, e_Cell_man_5, e_Cell_man_8, e_Cell_man_8b, e_Cell_man_11, e_Cell_man_12, e_Cell_man_13, e_Cell_man_14c0, e_Cell_man_14c1, e_Cell_man_14c2, e_Cell_man_14c3, e_Cell_man_14c4, e_Cell_man_14c5, e_Cell_man_14d, e_Cell_man_52, e_Cell_man_53, e_Cell_man_56, e_Cell_man_59, e_Cell_man_60, e_Cell_man_61, e_Cell_man_62, e_Cell_man_63, e_Cell_man_66, e_Cell_man_69, e_Cell_man_70, e_Cell_man_71, e_Cell_man_72, e_Cell_man_73, e_Cell_man_76, e_Cell_man_79, e_Cell_man_80, e_Cell_man_81, e_Cell_man_82, e_Cell_man_83, e_Cell_man_86, e_Cell_man_89, e_Cell_man_90, e_Cell_man_91, e_Cell_man_92, e_Cell_man_93, e_Cell_man_96, e_Cell_man_97, e_Cell_man_100, e_Cell_man_101, e_Cell_man_102, e_Cell_man_105, e_Cell_man_106, e_Cell_man_109, e_Cell_man_112, e_Cell_man_113, e_Cell_man_116, e_Cell_man_117, e_Cell_man_120, e_Cell_man_121, e_Cell_man_122, alk_in, ask_in, blk_in, bsk_in, qlk_in, ack_in, rcv_in, rcA_in, bk_i, bk_l, bk_v, hS_same, hS_ne, hS_hS, hS_2, am_10, am_01, am_00, if_true, if_false, gf_5_0, pf_5_0, gf_5_1, pf_5_1, gf_5_2, pf_5_2, gf_5_3, pf_5_3, gf_5_4, pf_5_4, gf_5_5, pf_5_5, gf_5_6, pf_5_6, gf_5_7, pf_5_7, gf_11_0, pf_11_0, gf_11_1, pf_11_1, gf_11_2, pf_11_2, gf_11_3, pf_11_3, gf_11_4, pf_11_4, gf_11_5, pf_11_5, gf_11_6, pf_11_6, gf_11_7, pf_11_7, gf_11_8, pf_11_8, gf_11_9, pf_11_9, gf_11_10, pf_11_10, gf_11_11, pf_11_11, O, s0, s3, c1, Int.toNat_natCast, z.2.2.1, w0, w1]
    by_cases w3 : w = 3
    · subst w3
      refine ⟨h, ?_, Q, Fr.rf⟩
      rw [ev_Cell_man]
      simp (disch := omega) only [e_Cell_man_0, e_Cell_man_1, e_Cell_man_4, e_Cell_man_5, e_Cell_man_8, e_Cell_man_8b, e_Cell_man_11, e_Cell_man_12, e_Cell_man_13, e_Cell_man_14c0, e_Cell_man_14c1, e_Cell_man_14c2, e_Cell_man_14c3, e_Cell_man_14c4, e_Cell_man_14c5, e_Cell_man_14d, e_Cell_man_52, e_Cell_man_53, e_Cell_man_56, e_Cell_man_59, e_Cell_man_60, e_Cell_man_61, e_Cell_man_62, e_Cell_man_63, e_Cell_man_66, e_Cell_man_69, e_Cell_man_70, e_Cell_man_71, e_Cell_man_72, e_Cell_man_73, e_Cell_man_76, e_Cell_man_79, e_Cell_man_80, e_Cell_man_81, e_Cell_man_82, e_Cell_man_83, e_Cell_man_86, e_Cell_man_89, e_Cell_man_90, e_Cell_man_91, e_Cell_man_92, e_Cell_man_93, e_Cell_man_96, e_Cell_man_97, e_Cell_man_100, e_Cell_man_101, e_Cell_man_102, e_Cell_man_105, e_Cell_man_106, e_Cell_man_109, e_Cell_man_112, e_Cell_man_113, e_Cell_man_116, e_Cell_man_117, e_Cell_man_120, e_Cell_man_121, e_Cell_man_122, alk_in, ask_in, blk_in, bsk_in, qlk_in, ack_in, rcv_in, rcA_in, bk_i, bk_l, bk_v, hS_same, hS_ne, hS_hS, hS_2, am_10, am_01, am_00, if_true, if_false, gf_5_0, pf_5_0, gf_5_1, pf_5_1, gf_5_2, pf_5_2, gf_5_3, pf_5_3, gf_5_4, pf_5_4, gf_5_5, pf_5_5, gf_5_6, pf_5_6, gf_5_7, pf_5_7, gf_11_0, pf_11_0, gf_11_1, pf_11_1, gf_11_2, pf_11_2, gf_11_3, pf_11_3, gf_11_4, pf_11_4, gf_11_5, pf_11_5, gf_11_6, pf_11_6, gf_11_7, pf_11_7, gf_11_8, pf_11_8, gf_11_9, pf_11_9, gf_11_10, pf_11_10, gf_11_11, pf_11_11, O, s0, s4, c1, Int.toNat_natCast, z.2.2.2, w0, w1, w2]
    by_cases w4 : w = 4
    · subst w4
      have c2 := d_neighbourBits S0 hw hk
      refine ⟨h, ?_, Q, Fr.rf⟩
      rw [ev_Cell_man]
      simp (disch := omega) only [e_Cell_man_0, e_Cell_man_1, e_Cell_man_4, e_Cell_man_5, e_Cell_man_8, e_Cell_man_8b, e_Cell_man_11, e_Cell_man_12, e_Cell_man_13, e_Cell_man_14c0, e_Cell_man_14c1, e_Cell_man_14c2, e_Cell_man_14c3, e_Cell_man_14c4, e_Cell_man_14c5, e_Cell_man_14d, e_Cell_man_52, e_Cell_man_53, e_Cell_man_56, e_Cell_man_59, e_Cell_man_60, e_Cell_man_61, e_Cell_man_62, e_Cell_man_63, e_Cell_man_66, e_Cell_man_69, e_Cell_man_70, e_Cell_man_71, e_Cell_man_72, e_Cell_man_73, e_Cell_man_76, e_Cell_man_79, e_Cell_man_80, e_Cell_man_81, e_Cell_man_82, e_Cell_man_83, e_Cell_man_86, e_Cell_man_89, e_Cell_man_90, e_Cell_man_91, e_Cell_man_92, e_Cell_man_93, e_Cell_man_96, e_Cell_man_97, e_Cell_man_100, e_Cell_man_101, e_Cell_man_102, e_Cell_man_105, e_Cell_man_106, e_Cell_man_109, e_Cell_man_112, e_Cell_man_113, e_Cell_man_116, e_Cell_man_117, e_Cell_man_120, e_Cell_man_121, e_Cell_man_122, alk_in, ask_in, blk_in, bsk_in, qlk_in, ack_in, rcv_in, rcA_in, bk_i, bk_l, bk_v, hS_same, hS_ne, hS_hS, hS_2, am_10, am_01, am_00, if_true, if_false, gf_5_0, pf_5_0, gf_5_1, pf_5_1, gf_5_2, pf_5_2, gf_5_3, pf_5_3, gf_5_4, pf_5_4, gf_5_5, pf_5_5, gf_5_6, pf_5_6, gf_5_7, pf_5_7, gf_11_0, pf_11_0, gf_11_1, pf_11_1, gf_11_2, pf_11_2, gf_11_3, pf_11_3, gf_11_4, pf_11_4, gf_11_5, pf_11_5, gf_11_6, pf_11_6, gf_11_7, pf_11_7, gf_11_8, pf_11_8, gf_11_9, pf_11_9, gf_11_10, pf_11_10, gf_11_11, pf_11_11, O, s0, c1, c2, w0, w1, w2, w3]
    by_cases w5 : w = 5
    · subst w5
      obtain ⟨h1, e1, S1, f1⟩ := d_copyFrom S0 hn hc9 Q (by omega)
      obtain ⟨h2, e2, S2, f2⟩ := d_months hk S1 hw
      refine ⟨h2, ?_, S2, f1.tr f2⟩
      have O1 : h1.1 1 = _ := (f1.at (by omega)).trans O
      obtain ⟨nq, cq, tq, ceq, soq, haq, yeq, icq, ⟨p0, -⟩⟩ := Q
      obtain ⟨ce1, so1, ha1, ye1, ic1, ⟨t0, -⟩, -⟩ := S1
      rw [ev_Cell_man]
      simp (disch := omega) only [e_Cell_man_0, e_Cell_man_1, e_Cell_man_4, e_Cell_man_5, e_Cell_man_8, e_Cell_man_8b, e_Cell_man_11, e_Cell_man_12, e_Cell_man_13, e_Cell_man_14c0, e_Cell_man_14c1, e_Cell_man_14c2, e_Cell_man_14c3, e_Cell_man_14c4, e_Cell_man_14c5, e_Cell_man_14d, e_Cell_man_52, e_Cell_man_53, e_Cell_man_56, e_Cell_man_59, e_Cell_man_60, e_Cell_man_61, e_Cell_man_62, e_Cell_man_63, e_Cell_man_66, e_Cell_man_69, e_Cell_man_70, e_Cell_man_71, e_Cell_man_72, e_Cell_man_73, e_Cell_man_76, e_Cell_man_79, e_Cell_man_80, e_Cell_man_81, e_Cell_man_82, e_Cell_man_83, e_Cell_man_86, e_Cell_man_89, e_Cell_man_90, e_Cell_man_91, e_Cell_man_92, e_Cell_man_93, e_Cell_man_96, e_Cell_man_97, e_Cell_man_100, e_Cell_man_101, e_Cell_man_102, e_Cell_man_105, e_Cell_man_106, e_Cell_man_109, e_Cell_man_112, e_Cell_man_113, e_Cell_man_116, e_Cell_man_117, e_Cell_man_120, e_Cell_man_121, e_Cell_man_122, alk_in, ask_in, blk_in, bsk_in, qlk_in, ack_in, rcv_in, rcA_in, bk_i, bk_l, bk_v, hS_same, hS_ne, hS_hS, hS_2, am_10, am_01, am_00, if_true, if_false, gf_5_0, pf_5_0, gf_5_1, pf_5_1, gf_5_2, pf_5_2, gf_5_3, pf_5_3, gf_5_4, pf_5_4, gf_5_5, pf_5_5, gf_5_6, pf_5_6, gf_5_7, pf_5_7, gf_11_0, pf_11_0, gf_11_1, pf_11_1, gf_11_2, pf_11_2, gf_11_3, pf_11_3, gf_11_4, pf_11_4, gf_11_5, pf_11_5, gf_11_6, pf_11_6, gf_11_7, pf_11_7, gf_11_8, pf_11_8, gf_11_9, pf_11_9, gf_11_10, pf_11_10, gf_11_11, pf_11_11, O, O1, s0, p0, t0, c1, e1, e2, w0, w1, w2, w3, w4]
    · refine ⟨h, ?_, Q, Fr.rf⟩
      rw [ev_Cell_man]
      simp (disch := omega) only [e_Cell_man_0, e_Cell_man_1, e_Cell_man_4, e_Cell_man_5, e_Cell_man_8, e_Cell_man_8b, e_Cell_man_11, e_Cell_man_12, e_Cell_man_13, e_Cell_man_14c0, e_Cell_man_14c1, e_Cell_man_14c2, e_Cell_man_14c3, e_Cell_man_14c4, e_Cell_man_14c5, e_Cell_man_14d, e_Cell_man_52, e_Cell_man_53, e_Cell_man_56, e_Cell_man_59, e_Cell_man_60, e_Cell_man_61, e_Cell_man_62, e_Cell_man_63, e_Cell_man_66, e_Cell_man_69, e_Cell_man_70, e_Cell_man_71, e_Cell_man_72, e_Cell_man_73, e_Cell_man_76, e_Cell_man_79, e_Cell_man_80, e_Cell_man_81, e_Cell_man_82, e_Cell_man_83, e_Cell_man_86, e_Cell_man_89, e_Cell_man_90, e_Cell_man_91, e_Cell_man_92, e_Cell_man_93, e_Cell_man_96, e_Cell_man_97, e_Cell_man_100, e_Cell_man_101, e_Cell_man_102, e_Cell_man_105, e_Cell_man_106, e_Cell_man_109, e_Cell_man_112, e_Cell_man_113, e_Cell_man_116, e_Cell_man_117, e_Cell_man_120, e_Cell_man_121, e_Cell_man_122, alk_in, ask_in, blk_in, bsk_in, qlk_in, ack_in, rcv_in, rcA_in, bk_i, bk_l, bk_v, hS_same, hS_ne, hS_hS, hS_2, am_10, am_01, am_00, if_true, if_false, gf_5_0, pf_5_0, gf_5_1, pf_5_1, gf_5_2, pf_5_2, gf_5_3, pf_5_3, gf_5_4, pf_5_4, gf_5_5, pf_5_5, gf_5_6, pf_5_6, gf_5_7, pf_5_7, gf_11_0, pf_11_0, gf_11_1, pf_11_1, gf_11_2, pf_11_2, gf_11_3, pf_11_3, gf_11_4, pf_11_4, gf_11_5, pf_11_5, gf_11_6, pf_11_6, gf_11_7, pf_11_7, gf_11_8, pf_11_8, gf_11_9, pf_11_9, gf_11_10, pf_11_10, gf_11_11, pf_11_11, O, s0, c1, w0, w1, w2, w3, w4, w5]
  · simp only [q, if_false] at c1
    rw [if_neg q]
    refine ⟨h, ?_, Q, Fr.rf⟩
    rw [ev_Cell_man]
    simp (disch := omega) only [e_Cell_man_0, e_Cell_man_1, e_Cell_man_4, e_Cell_man_5, e_Cell_man_8, e_Cell_man_8b, e_Cell_man_11, e_Cell_man_12, e_Cell_man_13, e_Cell_man_14c0, e_Cell_man_14c1, e_Cell_man_14c2, e_Cell_man_14c3, e_Cell_man_14c4, e_Cell_man_14c5, e_Cell_man_14d, e_Cell_man_52, e_Cell_man_53, e_Cell_man_56, e_Cell_man_59, e_Cell_man_60, e_Cell_man_61, e_Cell_man_62, e_Cell_man_63, e_Cell_man_66, e_Cell_man_69, e_Cell_man_70, e_Cell_man_71, e_Cell_man_72, e_Cell_man_73, e_Cell_man_76, e_Cell_man_79, e_Cell_man_80, e_Cell_man_81, e_Cell_man_82, e_Cell_man_83, e_Cell_man_86, e_Cell_man_89, e_Cell_man_90, e_Cell_man_91, e_Cell_man_92, e_Cell_man_93, e_Cell_man_96, e_Cell_man_97, e_Cell_man_100, e_Cell_man_101, e_Cell_man_102, e_Cell_man_105, e_Cell_man_106, e_Cell_man_109, e_Cell_man_112, e_Cell_man_113, e_Cell_man_116, e_Cell_man_117, e_Cell_man_120, e_Cell_man_121, e_Cell_man_122, alk_in, ask_in, blk_in, bsk_in, qlk_in, ack_in, rcv_in, rcA_in, bk_i, bk_l, bk_v, hS_same, hS_ne, hS_hS, hS_2, am_10, am_01, am_00, if_true, if_false, gf_5_0, pf_5_0, gf_5_1, pf_5_1, gf_5_2, pf_5_2, gf_5_3, pf_5_3, gf_5_4, pf_5_4, gf_5_5, pf_5_5, gf_5_6, pf_5_6, gf_5_7, pf_5_7, gf_11_0, pf_11_0, gf_11_1, pf_11_1, gf_11_2, pf_11_2, gf_11_3, pf_11_3, gf_11_4, pf_11_4, gf_11_5, pf_11_5, gf_11_6, pf_11_6, gf_11_7, pf_11_7, gf_11_8, pf_11_8, gf_11_9, pf_11_9, gf_11_10, pf_11_10, gf_11_11, pf_11_11, O, s0, c1]
def aCell (G : Gl) (T : Tm) (x : Int) : Int := if 0 ≤ x ∧ x < G.2.1 then who G.1 T.2.1 x else -1
theorem k_cell (O : CeO h lo pc) (S : RT h 10 G T) (hw : WT G T) {x : Int} (hx : rg32 x) : ev mCell_cell [vR 1, vI x] h = some (some (vI (aCell G T x)), h) := by
  unfold CeO at O
  obtain ⟨n, c, lq, ha⟩ := G
  obtain ⟨t, ce, so, ye⟩ := T
  unfold RT at S
  unfold WT at hw
  simp only at S hw
  unfold rg32 at hx
  have c1 := d_hasCell S hx hw.2.2.1
  unfold aCell
  simp only
  have S0 := S
  obtain ⟨ce', so', ha', ye', ic, ⟨s0, s1, s2, s3, s4, s5⟩, r1, r2⟩ := S
  rw [ev_Cell_cell]
  by_cases q : 0 ≤ x ∧ x < c
  · have c2 := d_whoIn S0 hw hx (by omega)
    simp only [q, and_self, if_true] at c1
    rw [if_pos q]
    simp (disch := omega) only [e_Cell_cell_0, e_Cell_cell_1, e_Cell_cell_4, e_Cell_cell_5, e_Cell_cell_8, e_Cell_cell_8b, e_Cell_cell_11, e_Cell_cell_12, e_Cell_cell_13, e_Cell_cell_14, e_Cell_cell_17, e_Cell_cell_18, e_Cell_cell_21, alk_in, ask_in, blk_in, bsk_in, qlk_in, ack_in, rcv_in, rcA_in, bk_i, bk_l, bk_v, hS_same, hS_ne, hS_hS, hS_2, am_10, am_01, am_00, if_true, if_false, gf_5_0, pf_5_0, gf_5_1, pf_5_1, gf_5_2, pf_5_2, gf_5_3, pf_5_3, gf_5_4, pf_5_4, gf_5_5, pf_5_5, gf_5_6, pf_5_6, gf_5_7, pf_5_7, gf_11_0, pf_11_0, gf_11_1, pf_11_1, gf_11_2, pf_11_2, gf_11_3, pf_11_3, gf_11_4, pf_11_4, gf_11_5, pf_11_5, gf_11_6, pf_11_6, gf_11_7, pf_11_7, gf_11_8, pf_11_8, gf_11_9, pf_11_9, gf_11_10, pf_11_10, gf_11_11, pf_11_11, O, s0, c1, c2]
  · simp only [q, if_false] at c1
    rw [if_neg q]
    simp (disch := omega) only [e_Cell_cell_0, e_Cell_cell_1, e_Cell_cell_4, e_Cell_cell_5, e_Cell_cell_8, e_Cell_cell_8b, e_Cell_cell_11, e_Cell_cell_12, e_Cell_cell_13, e_Cell_cell_14, e_Cell_cell_17, e_Cell_cell_18, e_Cell_cell_21, alk_in, ask_in, blk_in, bsk_in, qlk_in, ack_in, rcv_in, rcA_in, bk_i, bk_l, bk_v, hS_same, hS_ne, hS_hS, hS_2, am_10, am_01, am_00, if_true, if_false, gf_5_0, pf_5_0, gf_5_1, pf_5_1, gf_5_2, pf_5_2, gf_5_3, pf_5_3, gf_5_4, pf_5_4, gf_5_5, pf_5_5, gf_5_6, pf_5_6, gf_5_7, pf_5_7, gf_11_0, pf_11_0, gf_11_1, pf_11_1, gf_11_2, pf_11_2, gf_11_3, pf_11_3, gf_11_4, pf_11_4, gf_11_5, pf_11_5, gf_11_6, pf_11_6, gf_11_7, pf_11_7, gf_11_8, pf_11_8, gf_11_9, pf_11_9, gf_11_10, pf_11_10, gf_11_11, pf_11_11, O, s0, c1]
def aBrings (G : Gl) (T : Tm) (m : Int) : Int := if 0 ≤ m ∧ m < G.1 then (if T.2.1 m.toNat = -9 then 0 else aft G.1 T.2.1 T.2.2.1 G.2.2.2 T.2.2.2 m.toNat - T.2.2.2 m.toNat) else -1000000
theorem k_brings (O : CeO h lo pc) (S : RT h 10 G T) (hw : WT G T) {m : Int} (hm : rg32 m) : ev mCell_brings [vR 1, vI m] h = some (some (vI (aBrings G T m)), h) := by
  unfold CeO at O
  obtain ⟨n, c, lq, ha⟩ := G
  obtain ⟨t, ce, so, ye⟩ := T
  unfold RT at S
  unfold WT at hw
  simp only at S hw
  unfold rg32 at hm
  have c1 := d_hasMan S hm hw.1
  have hn := hw.1
  unfold aBrings
  simp only
  have S0 := S
  obtain ⟨ce', so', ha', ye', ic, ⟨s0, s1, s2, s3, s4, s5⟩, r1, r2⟩ := S
  rw [ev_Cell_brings]
  by_cases q : 0 ≤ m ∧ m < n
  · obtain ⟨k, rfl⟩ : ∃ k : Nat, m = (k : Int) := ⟨m.toNat, by omega⟩
    have hk : k < n := by omega
    have z := r1 k hk
    have c2 := d_isIn S0 hw hk
    simp only [q, and_self, if_true] at c1
    rw [if_pos q]
    simp only [Int.toNat_natCast]
    by_cases y : ce k = -9
    · simp only [y, if_true] at c2
      rw [if_pos y]
      simp (disch := omega) only [e_Cell_brings_0, e_Cell_brings_1, e_Cell_brings_4, e_Cell_brings_5, e_Cell_brings_8, e_Cell_brings_8b, e_Cell_brings_11, e_Cell_brings_13, e_Cell_brings_14, e_Cell_brings_15, e_Cell_brings_18, e_Cell_brings_19, e_Cell_brings_22, e_Cell_brings_22b, e_Cell_brings_25, e_Cell_brings_26, e_Cell_brings_27, e_Cell_brings_28, e_Cell_brings_31, e_Cell_brings_32, e_Cell_brings_35, e_Cell_brings_36, e_Cell_brings_39, e_Cell_brings_42, e_Cell_brings_43, e_Cell_brings_44, e_Cell_brings_45, alk_in, ask_in, blk_in, bsk_in, qlk_in, ack_in, rcv_in, rcA_in, bk_i, bk_l, bk_v, hS_same, hS_ne, hS_hS, hS_2, am_10, am_01, am_00, if_true, if_false, gf_5_0, pf_5_0, gf_5_1, pf_5_1, gf_5_2, pf_5_2, gf_5_3, pf_5_3, gf_5_4, pf_5_4, gf_5_5, pf_5_5, gf_5_6, pf_5_6, gf_5_7, pf_5_7, gf_11_0, pf_11_0, gf_11_1, pf_11_1, gf_11_2, pf_11_2, gf_11_3, pf_11_3, gf_11_4, pf_11_4, gf_11_5, pf_11_5, gf_11_6, pf_11_6, gf_11_7, pf_11_7, gf_11_8, pf_11_8, gf_11_9, pf_11_9, gf_11_10, pf_11_10, gf_11_11, pf_11_11, O, s0, c1, c2]
    · have c3 := d_yearsAfter S0 hw hk y
      simp only [y, if_false] at c2
      rw [if_neg y]
      simp (disch := omega) only [e_Cell_brings_0, e_Cell_brings_1, e_Cell_brings_4, e_Cell_brings_5, e_Cell_brings_8, e_Cell_brings_8b, e_Cell_brings_11, e_Cell_brings_13, e_Cell_brings_14, e_Cell_brings_15, e_Cell_brings_18, e_Cell_brings_19, e_Cell_brings_22, e_Cell_brings_22b, e_Cell_brings_25, e_Cell_brings_26, e_Cell_brings_27, e_Cell_brings_28, e_Cell_brings_31, e_Cell_brings_32, e_Cell_brings_35, e_Cell_brings_36, e_Cell_brings_39, e_Cell_brings_42, e_Cell_brings_43, e_Cell_brings_44, e_Cell_brings_45, alk_in, ask_in, blk_in, bsk_in, qlk_in, ack_in, rcv_in, rcA_in, bk_i, bk_l, bk_v, hS_same, hS_ne, hS_hS, hS_2, am_10, am_01, am_00, if_true, if_false, gf_5_0, pf_5_0, gf_5_1, pf_5_1, gf_5_2, pf_5_2, gf_5_3, pf_5_3, gf_5_4, pf_5_4, gf_5_5, pf_5_5, gf_5_6, pf_5_6, gf_5_7, pf_5_7, gf_11_0, pf_11_0, gf_11_1, pf_11_1, gf_11_2, pf_11_2, gf_11_3, pf_11_3, gf_11_4, pf_11_4, gf_11_5, pf_11_5, gf_11_6, pf_11_6, gf_11_7, pf_11_7, gf_11_8, pf_11_8, gf_11_9, pf_11_9, gf_11_10, pf_11_10, gf_11_11, pf_11_11, O, s0, s4, c1, c2, c3, Int.toNat_natCast, z.2.2.2]
  · simp only [q, if_false] at c1
    rw [if_neg q]
    simp (disch := omega) only [e_Cell_brings_0, e_Cell_brings_1, e_Cell_brings_4, e_Cell_brings_5, e_Cell_brings_8, e_Cell_brings_8b, e_Cell_brings_11, e_Cell_brings_13, e_Cell_brings_14, e_Cell_brings_15, e_Cell_brings_18, e_Cell_brings_19, e_Cell_brings_22, e_Cell_brings_22b, e_Cell_brings_25, e_Cell_brings_26, e_Cell_brings_27, e_Cell_brings_28, e_Cell_brings_31, e_Cell_brings_32, e_Cell_brings_35, e_Cell_brings_36, e_Cell_brings_39, e_Cell_brings_42, e_Cell_brings_43, e_Cell_brings_44, e_Cell_brings_45, alk_in, ask_in, blk_in, bsk_in, qlk_in, ack_in, rcv_in, rcA_in, bk_i, bk_l, bk_v, hS_same, hS_ne, hS_hS, hS_2, am_10, am_01, am_00, if_true, if_false, gf_5_0, pf_5_0, gf_5_1, pf_5_1, gf_5_2, pf_5_2, gf_5_3, pf_5_3, gf_5_4, pf_5_4, gf_5_5, pf_5_5, gf_5_6, pf_5_6, gf_5_7, pf_5_7, gf_11_0, pf_11_0, gf_11_1, pf_11_1, gf_11_2, pf_11_2, gf_11_3, pf_11_3, gf_11_4, pf_11_4, gf_11_5, pf_11_5, gf_11_6, pf_11_6, gf_11_7, pf_11_7, gf_11_8, pf_11_8, gf_11_9, pf_11_9, gf_11_10, pf_11_10, gf_11_11, pf_11_11, O, s0, c1]
def aCount (L : Nat) (G : Gl) (k : Nat) (w : Int) : Int := if w = 0 then (G.2.1 : Int) else if w = 1 then (G.1 : Int) else if w = 2 then G.2.2.1 else if w = 3 then (k : Int) else if w = 4 then (L : Int) else -1
theorem k_count (O : CeO h G.2.2.1 pc) (S : RT h 10 G T) {L k : Nat} {f s v : Nat → Int} (X : CTx h L f) (E : CSe h k s v) {w : Int} (hr : rg32 w) : ev mCell_count [vR 1, vI w] h = some (some (vI (aCount L G k w)), h) := by
  unfold CeO at O
  obtain ⟨n, c, lq, ha⟩ := G
  obtain ⟨t, ce, so, ye⟩ := T
  unfold RT at S
  simp only at S O
  unfold rg32 at hr
  obtain ⟨ce', so', ha', ye', ic, ⟨s0, s1, s2, s3, s4, s5⟩, r1, r2⟩ := S
  obtain ⟨x3, x4, x5, x6, x7, x8, x9, x10, g, X0, X1, -, -⟩ := X
  obtain ⟨s', v', E0, -⟩ := E
  unfold aCount
  rw [ev_Cell_count]
  by_cases w0 : w = 0
  · subst w0; simp (disch := omega) only [e_Cell_count_0, e_Cell_count_1c0, e_Cell_count_1c1, e_Cell_count_1c2, e_Cell_count_1c3, e_Cell_count_1c4, e_Cell_count_1d, e_Cell_count_36, e_Cell_count_37, e_Cell_count_40, e_Cell_count_43, e_Cell_count_44, e_Cell_count_45, e_Cell_count_48, e_Cell_count_51, e_Cell_count_52, e_Cell_count_53, e_Cell_count_56, e_Cell_count_57, e_Cell_count_58, e_Cell_count_61, e_Cell_count_64, e_Cell_count_65, e_Cell_count_66, e_Cell_count_69, e_Cell_count_72, e_Cell_count_73, e_Cell_count_74, alk_in, ask_in, blk_in, bsk_in, qlk_in, ack_in, rcv_in, rcA_in, bk_i, bk_l, bk_v, hS_same, hS_ne, hS_hS, hS_2, am_10, am_01, am_00, if_true, if_false, gf_5_0, pf_5_0, gf_5_1, pf_5_1, gf_5_2, pf_5_2, gf_5_3, pf_5_3, gf_5_4, pf_5_4, gf_5_5, pf_5_5, gf_5_6, pf_5_6, gf_5_7, pf_5_7, gf_6_0, pf_6_0, gf_6_1, pf_6_1, gf_6_2, pf_6_2, gf_8_0, pf_8_0, gf_8_1, pf_8_1, gf_8_2, pf_8_2, gf_8_3, pf_8_3, gf_8_4, pf_8_4, gf_8_5, pf_8_5, gf_8_6, pf_8_6, gf_8_7, pf_8_7, gf_8_8, pf_8_8, gf_8_9, pf_8_9, gf_8_10, pf_8_10, gf_11_0, pf_11_0, gf_11_1, pf_11_1, gf_11_2, pf_11_2, gf_11_3, pf_11_3, gf_11_4, pf_11_4, gf_11_5, pf_11_5, gf_11_6, pf_11_6, gf_11_7, pf_11_7, gf_11_8, pf_11_8, gf_11_9, pf_11_9, gf_11_10, pf_11_10, gf_11_11, pf_11_11, O, s0]
  by_cases w1 : w = 1
  · subst w1; simp (disch := omega) only [e_Cell_count_0, e_Cell_count_1c0, e_Cell_count_1c1, e_Cell_count_1c2, e_Cell_count_1c3, e_Cell_count_1c4, e_Cell_count_1d, e_Cell_count_36, e_Cell_count_37, e_Cell_count_40, e_Cell_count_43, e_Cell_count_44, e_Cell_count_45, e_Cell_count_48, e_Cell_count_51, e_Cell_count_52, e_Cell_count_53, e_Cell_count_56, e_Cell_count_57, e_Cell_count_58, e_Cell_count_61, e_Cell_count_64, e_Cell_count_65, e_Cell_count_66, e_Cell_count_69, e_Cell_count_72, e_Cell_count_73, e_Cell_count_74, alk_in, ask_in, blk_in, bsk_in, qlk_in, ack_in, rcv_in, rcA_in, bk_i, bk_l, bk_v, hS_same, hS_ne, hS_hS, hS_2, am_10, am_01, am_00, if_true, if_false, gf_5_0, pf_5_0, gf_5_1, pf_5_1, gf_5_2, pf_5_2, gf_5_3, pf_5_3, gf_5_4, pf_5_4, gf_5_5, pf_5_5, gf_5_6, pf_5_6, gf_5_7, pf_5_7, gf_6_0, pf_6_0, gf_6_1, pf_6_1, gf_6_2, pf_6_2, gf_8_0, pf_8_0, gf_8_1, pf_8_1, gf_8_2, pf_8_2, gf_8_3, pf_8_3, gf_8_4, pf_8_4, gf_8_5, pf_8_5, gf_8_6, pf_8_6, gf_8_7, pf_8_7, gf_8_8, pf_8_8, gf_8_9, pf_8_9, gf_8_10, pf_8_10, gf_11_0, pf_11_0, gf_11_1, pf_11_1, gf_11_2, pf_11_2, gf_11_3, pf_11_3, gf_11_4, pf_11_4, gf_11_5, pf_11_5, gf_11_6, pf_11_6, gf_11_7, pf_11_7, gf_11_8, pf_11_8, gf_11_9, pf_11_9, gf_11_10, pf_11_10, gf_11_11, pf_11_11, O, s0]
  by_cases w2 : w = 2
  · subst w2; simp (disch := omega) only [e_Cell_count_0, e_Cell_count_1c0, e_Cell_count_1c1, e_Cell_count_1c2, e_Cell_count_1c3, e_Cell_count_1c4, e_Cell_count_1d, e_Cell_count_36, e_Cell_count_37, e_Cell_count_40, e_Cell_count_43, e_Cell_count_44, e_Cell_count_45, e_Cell_count_48, e_Cell_count_51, e_Cell_count_52, e_Cell_count_53, e_Cell_count_56, e_Cell_count_57, e_Cell_count_58, e_Cell_count_61, e_Cell_count_64, e_Cell_count_65, e_Cell_count_66, e_Cell_count_69, e_Cell_count_72, e_Cell_count_73, e_Cell_count_74, alk_in, ask_in, blk_in, bsk_in, qlk_in, ack_in, rcv_in, rcA_in, bk_i, bk_l, bk_v, hS_same, hS_ne, hS_hS, hS_2, am_10, am_01, am_00, if_true, if_false, gf_5_0, pf_5_0, gf_5_1, pf_5_1, gf_5_2, pf_5_2, gf_5_3, pf_5_3, gf_5_4, pf_5_4, gf_5_5, pf_5_5, gf_5_6, pf_5_6, gf_5_7, pf_5_7, gf_6_0, pf_6_0, gf_6_1, pf_6_1, gf_6_2, pf_6_2, gf_8_0, pf_8_0, gf_8_1, pf_8_1, gf_8_2, pf_8_2, gf_8_3, pf_8_3, gf_8_4, pf_8_4, gf_8_5, pf_8_5, gf_8_6, pf_8_6, gf_8_7, pf_8_7, gf_8_8, pf_8_8, gf_8_9, pf_8_9, gf_8_10, pf_8_10, gf_11_0, pf_11_0, gf_11_1, pf_11_1, gf_11_2, pf_11_2, gf_11_3, pf_11_3, gf_11_4, pf_11_4, gf_11_5, pf_11_5, gf_11_6, pf_11_6, gf_11_7, pf_11_7, gf_11_8, pf_11_8, gf_11_9, pf_11_9, gf_11_10, pf_11_10, gf_11_11, pf_11_11, O, s0, w0, w1]
  by_cases w3 : w = 3
  · subst w3; simp (disch := omega) only [e_Cell_count_0, e_Cell_count_1c0, e_Cell_count_1c1, e_Cell_count_1c2, e_Cell_count_1c3, e_Cell_count_1c4, e_Cell_count_1d, e_Cell_count_36, e_Cell_count_37, e_Cell_count_40, e_Cell_count_43, e_Cell_count_44, e_Cell_count_45, e_Cell_count_48, e_Cell_count_51, e_Cell_count_52, e_Cell_count_53, e_Cell_count_56, e_Cell_count_57, e_Cell_count_58, e_Cell_count_61, e_Cell_count_64, e_Cell_count_65, e_Cell_count_66, e_Cell_count_69, e_Cell_count_72, e_Cell_count_73, e_Cell_count_74, alk_in, ask_in, blk_in, bsk_in, qlk_in, ack_in, rcv_in, rcA_in, bk_i, bk_l, bk_v, hS_same, hS_ne, hS_hS, hS_2, am_10, am_01, am_00, if_true, if_false, gf_5_0, pf_5_0, gf_5_1, pf_5_1, gf_5_2, pf_5_2, gf_5_3, pf_5_3, gf_5_4, pf_5_4, gf_5_5, pf_5_5, gf_5_6, pf_5_6, gf_5_7, pf_5_7, gf_6_0, pf_6_0, gf_6_1, pf_6_1, gf_6_2, pf_6_2, gf_8_0, pf_8_0, gf_8_1, pf_8_1, gf_8_2, pf_8_2, gf_8_3, pf_8_3, gf_8_4, pf_8_4, gf_8_5, pf_8_5, gf_8_6, pf_8_6, gf_8_7, pf_8_7, gf_8_8, pf_8_8, gf_8_9, pf_8_9, gf_8_10, pf_8_10, gf_11_0, pf_11_0, gf_11_1, pf_11_1, gf_11_2, pf_11_2, gf_11_3, pf_11_3, gf_11_4, pf_11_4, gf_11_5, pf_11_5, gf_11_6, pf_11_6, gf_11_7, pf_11_7, gf_11_8, pf_11_8, gf_11_9, pf_11_9, gf_11_10, pf_11_10, gf_11_11, pf_11_11, O, E0, w0, w1, w2]
  by_cases w4 : w = 4
  · subst w4; simp (disch := omega) only [e_Cell_count_0, e_Cell_count_1c0, e_Cell_count_1c1, e_Cell_count_1c2, e_Cell_count_1c3, e_Cell_count_1c4, e_Cell_count_1d, e_Cell_count_36, e_Cell_count_37, e_Cell_count_40, e_Cell_count_43, e_Cell_count_44, e_Cell_count_45, e_Cell_count_48, e_Cell_count_51, e_Cell_count_52, e_Cell_count_53, e_Cell_count_56, e_Cell_count_57, e_Cell_count_58, e_Cell_count_61, e_Cell_count_64, e_Cell_count_65, e_Cell_count_66, e_Cell_count_69, e_Cell_count_72, e_Cell_count_73, e_Cell_count_74, alk_in, ask_in, blk_in, bsk_in, qlk_in, ack_in, rcv_in, rcA_in, bk_i, bk_l, bk_v, hS_same, hS_ne, hS_hS, hS_2, am_10, am_01, am_00, if_true, if_false, gf_5_0, pf_5_0, gf_5_1, pf_5_1, gf_5_2, pf_5_2, gf_5_3, pf_5_3, gf_5_4, pf_5_4, gf_5_5, pf_5_5, gf_5_6, pf_5_6, gf_5_7, pf_5_7, gf_6_0, pf_6_0, gf_6_1, pf_6_1, gf_6_2, pf_6_2, gf_8_0, pf_8_0, gf_8_1, pf_8_1, gf_8_2, pf_8_2, gf_8_3, pf_8_3, gf_8_4, pf_8_4, gf_8_5, pf_8_5, gf_8_6, pf_8_6, gf_8_7, pf_8_7, gf_8_8, pf_8_8, gf_8_9, pf_8_9, gf_8_10, pf_8_10, gf_11_0, pf_11_0, gf_11_1, pf_11_1, gf_11_2, pf_11_2, gf_11_3, pf_11_3, gf_11_4, pf_11_4, gf_11_5, pf_11_5, gf_11_6, pf_11_6, gf_11_7, pf_11_7, gf_11_8, pf_11_8, gf_11_9, pf_11_9, gf_11_10, pf_11_10, gf_11_11, pf_11_11, O, X0, w0, w1, w2, w3]
  · simp (disch := omega) only [e_Cell_count_0, e_Cell_count_1c0, e_Cell_count_1c1, e_Cell_count_1c2, e_Cell_count_1c3, e_Cell_count_1c4, e_Cell_count_1d, e_Cell_count_36, e_Cell_count_37, e_Cell_count_40, e_Cell_count_43, e_Cell_count_44, e_Cell_count_45, e_Cell_count_48, e_Cell_count_51, e_Cell_count_52, e_Cell_count_53, e_Cell_count_56, e_Cell_count_57, e_Cell_count_58, e_Cell_count_61, e_Cell_count_64, e_Cell_count_65, e_Cell_count_66, e_Cell_count_69, e_Cell_count_72, e_Cell_count_73, e_Cell_count_74, alk_in, ask_in, blk_in, bsk_in, qlk_in, ack_in, rcv_in, rcA_in, bk_i, bk_l, bk_v, hS_same, hS_ne, hS_hS, hS_2, am_10, am_01, am_00, if_true, if_false, gf_5_0, pf_5_0, gf_5_1, pf_5_1, gf_5_2, pf_5_2, gf_5_3, pf_5_3, gf_5_4, pf_5_4, gf_5_5, pf_5_5, gf_5_6, pf_5_6, gf_5_7, pf_5_7, gf_6_0, pf_6_0, gf_6_1, pf_6_1, gf_6_2, pf_6_2, gf_8_0, pf_8_0, gf_8_1, pf_8_1, gf_8_2, pf_8_2, gf_8_3, pf_8_3, gf_8_4, pf_8_4, gf_8_5, pf_8_5, gf_8_6, pf_8_6, gf_8_7, pf_8_7, gf_8_8, pf_8_8, gf_8_9, pf_8_9, gf_8_10, pf_8_10, gf_11_0, pf_11_0, gf_11_1, pf_11_1, gf_11_2, pf_11_2, gf_11_3, pf_11_3, gf_11_4, pf_11_4, gf_11_5, pf_11_5, gf_11_6, pf_11_6, gf_11_7, pf_11_7, gf_11_8, pf_11_8, gf_11_9, pf_11_9, gf_11_10, pf_11_10, gf_11_11, pf_11_11, O, w0, w1, w2, w3, w4]
theorem k_trace (O : CeO h lo pc) {tr : Int} (E : CTa h tr) : ev mCell_trace [vR 1] h = some (some (vL tr), h) := by
  unfold CeO at O
  unfold CTa at E
  rw [ev_Cell_trace]
  simp (disch := omega) only [e_Cell_trace_0, e_Cell_trace_1, e_Cell_trace_4, e_Cell_trace_7, alk_in, ask_in, blk_in, bsk_in, qlk_in, ack_in, rcv_in, rcA_in, bk_i, bk_l, bk_v, hS_same, hS_ne, hS_hS, hS_2, am_10, am_01, am_00, if_true, if_false, gf_7_0, pf_7_0, gf_11_0, pf_11_0, gf_11_1, pf_11_1, gf_11_2, pf_11_2, gf_11_3, pf_11_3, gf_11_4, pf_11_4, gf_11_5, pf_11_5, gf_11_6, pf_11_6, gf_11_7, pf_11_7, gf_11_8, pf_11_8, gf_11_9, pf_11_9, gf_11_10, pf_11_10, gf_11_11, pf_11_11, O, E]
def aType (L : Nat) (x : Int) : Int := if 0 ≤ x ∧ x ≤ 255 then (if 120 ≤ L then -3 else (L : Int) + 1) else -1
def nType (L : Nat) (f : Nat → Int) (x : Int) : Nat × (Nat → Int) := if (0 ≤ x ∧ x ≤ 255) ∧ L < 120 then (L + 1, fun j => if j = L then x else f j) else (L, f)
theorem k_type (O : CeO h lo pc) {L : Nat} {f : Nat → Int} (hL : L ≤ 120) (X : CTx h L f) {x : Int} (hx : rg32 x) : ∃ h', ev mCell_type [vR 1, vI x] h = some (some (vI (aType L x)), h') ∧ CTx h' (nType L f x).1 (nType L f x).2 ∧ Fr 2 4 h h' := by
  unfold CeO at O
  unfold rg32 at hx
  have X' := X
  obtain ⟨x3, x4, x5, x6, x7, x8, x9, x10, g, X0, X1, X2, X3⟩ := X
  unfold aType nType
  by_cases q : 0 ≤ x ∧ x ≤ 255
  · by_cases r : L < 120
    · rw [if_pos q, if_neg (by omega), if_pos ⟨q, r⟩]
      have e1 : ev mText_add [vR 2, vI x] h = some (none, hS (hS h 3 (cI 0 120 (fun j => if j = L then x else g j))) 2 (cO 8 [vI ((L : Int) + 1), vR 3, vR 4, x3, x4, x5, x6, x7, x8, x9, x10])) := by
        rw [ev_Text_add]
        simp (disch := omega) only [e_Text_add_0, e_Text_add_1, e_Text_add_4, e_Text_add_6, e_Text_add_9, e_Text_add_10, e_Text_add_13, e_Text_add_14, e_Text_add_17, e_Text_add_18, e_Text_add_19, e_Text_add_20, e_Text_add_21, e_Text_add_24, e_Text_add_25, e_Text_add_26, e_Text_add_29, alk_in, ask_in, blk_in, bsk_in, qlk_in, ack_in, rcv_in, rcA_in, bk_i, bk_l, bk_v, hS_same, hS_ne, hS_hS, hS_2, am_10, am_01, am_00, if_true, if_false, gf_8_0, pf_8_0, gf_8_1, pf_8_1, gf_8_2, pf_8_2, gf_8_3, pf_8_3, gf_8_4, pf_8_4, gf_8_5, pf_8_5, gf_8_6, pf_8_6, gf_8_7, pf_8_7, gf_8_8, pf_8_8, gf_8_9, pf_8_9, gf_8_10, pf_8_10, X0, X1, Int.toNat_natCast]
        rw [if_pos (by omega)]
      refine ⟨hS (hS h 3 (cI 0 120 (fun j => if j = L then x else g j))) 2 (cO 8 [vI ((L : Int) + 1), vR 3, vR 4, x3, x4, x5, x6, x7, x8, x9, x10]), ?_, ⟨x3, x4, x5, x6, x7, x8, x9, x10, (fun j => if j = L then x else g j), hS_same, by rw [hS_ne (by decide)]; exact hS_same, fun j hj => ?_, X3.fr (b' := 2) (e' := 4) ((Fr.st (by omega)).tr (Fr.st (by omega))) (by omega)⟩, (Fr.st (by omega)).tr (Fr.st (by omega))⟩
      · rw [ev_Cell_type]
        simp (disch := omega) only [e_Cell_type_0, e_Cell_type_1, e_Cell_type_4, e_Cell_type_5, e_Cell_type_8, e_Cell_type_11, e_Cell_type_12, e_Cell_type_13, e_Cell_type_14, e_Cell_type_17, e_Cell_type_20, e_Cell_type_22, e_Cell_type_25, e_Cell_type_27, e_Cell_type_28, e_Cell_type_29, e_Cell_type_32, e_Cell_type_33, e_Cell_type_36, e_Cell_type_37, e_Cell_type_40, e_Cell_type_43, alk_in, ask_in, blk_in, bsk_in, qlk_in, ack_in, rcv_in, rcA_in, bk_i, bk_l, bk_v, hS_same, hS_ne, hS_hS, hS_2, am_10, am_01, am_00, if_true, if_false, gf_8_0, pf_8_0, gf_8_1, pf_8_1, gf_8_2, pf_8_2, gf_8_3, pf_8_3, gf_8_4, pf_8_4, gf_8_5, pf_8_5, gf_8_6, pf_8_6, gf_8_7, pf_8_7, gf_8_8, pf_8_8, gf_8_9, pf_8_9, gf_8_10, pf_8_10, gf_11_0, pf_11_0, gf_11_1, pf_11_1, gf_11_2, pf_11_2, gf_11_3, pf_11_3, gf_11_4, pf_11_4, gf_11_5, pf_11_5, gf_11_6, pf_11_6, gf_11_7, pf_11_7, gf_11_8, pf_11_8, gf_11_9, pf_11_9, gf_11_10, pf_11_10, gf_11_11, pf_11_11, O, X0, e1]
        rw [if_neg (by omega), if_neg (by omega), if_pos (by omega)]
      · show (if j = L then x else g j) = if j = L then x else f j
        by_cases z : j = L
        · simp [z]
        · rw [if_neg z, if_neg z]; exact X2 j (by simp only at hj; omega)
    · rw [if_pos q, if_pos (by omega), if_neg (fun z => r z.2)]
      refine ⟨h, ?_, X', Fr.rf⟩
      rw [ev_Cell_type]
      simp (disch := omega) only [e_Cell_type_0, e_Cell_type_1, e_Cell_type_4, e_Cell_type_5, e_Cell_type_8, e_Cell_type_11, e_Cell_type_12, e_Cell_type_13, e_Cell_type_14, e_Cell_type_17, e_Cell_type_20, e_Cell_type_22, e_Cell_type_25, e_Cell_type_27, e_Cell_type_28, e_Cell_type_29, e_Cell_type_32, e_Cell_type_33, e_Cell_type_36, e_Cell_type_37, e_Cell_type_40, e_Cell_type_43, alk_in, ask_in, blk_in, bsk_in, qlk_in, ack_in, rcv_in, rcA_in, bk_i, bk_l, bk_v, hS_same, hS_ne, hS_hS, hS_2, am_10, am_01, am_00, if_true, if_false, gf_8_0, pf_8_0, gf_8_1, pf_8_1, gf_8_2, pf_8_2, gf_8_3, pf_8_3, gf_8_4, pf_8_4, gf_8_5, pf_8_5, gf_8_6, pf_8_6, gf_8_7, pf_8_7, gf_8_8, pf_8_8, gf_8_9, pf_8_9, gf_8_10, pf_8_10, gf_11_0, pf_11_0, gf_11_1, pf_11_1, gf_11_2, pf_11_2, gf_11_3, pf_11_3, gf_11_4, pf_11_4, gf_11_5, pf_11_5, gf_11_6, pf_11_6, gf_11_7, pf_11_7, gf_11_8, pf_11_8, gf_11_9, pf_11_9, gf_11_10, pf_11_10, gf_11_11, pf_11_11, O, X0]
      rw [if_neg (by omega), if_neg (by omega), if_neg (by omega)]
  · rw [if_neg q, if_neg (fun z => q z.1)]
    refine ⟨h, ?_, X', Fr.rf⟩
    rw [ev_Cell_type]
    simp (disch := omega) only [e_Cell_type_0, e_Cell_type_1, e_Cell_type_4, e_Cell_type_5, e_Cell_type_8, e_Cell_type_11, e_Cell_type_12, e_Cell_type_13, e_Cell_type_14, e_Cell_type_17, e_Cell_type_20, e_Cell_type_22, e_Cell_type_25, e_Cell_type_27, e_Cell_type_28, e_Cell_type_29, e_Cell_type_32, e_Cell_type_33, e_Cell_type_36, e_Cell_type_37, e_Cell_type_40, e_Cell_type_43, alk_in, ask_in, blk_in, bsk_in, qlk_in, ack_in, rcv_in, rcA_in, bk_i, bk_l, bk_v, hS_same, hS_ne, hS_hS, hS_2, am_10, am_01, am_00, if_true, if_false, gf_8_0, pf_8_0, gf_8_1, pf_8_1, gf_8_2, pf_8_2, gf_8_3, pf_8_3, gf_8_4, pf_8_4, gf_8_5, pf_8_5, gf_8_6, pf_8_6, gf_8_7, pf_8_7, gf_8_8, pf_8_8, gf_8_9, pf_8_9, gf_8_10, pf_8_10, gf_11_0, pf_11_0, gf_11_1, pf_11_1, gf_11_2, pf_11_2, gf_11_3, pf_11_3, gf_11_4, pf_11_4, gf_11_5, pf_11_5, gf_11_6, pf_11_6, gf_11_7, pf_11_7, gf_11_8, pf_11_8, gf_11_9, pf_11_9, gf_11_10, pf_11_10, gf_11_11, pf_11_11, O, X0]
    by_cases z : x < 0
    · rw [if_pos z]
    · rw [if_neg z, if_pos (by omega)]
theorem k_clear (O : CeO h lo pc) {L : Nat} {f : Nat → Int} (X : CTx h L f) : ∃ h', ev mCell_clear [vR 1] h = some (some (vI (L : Int)), h') ∧ CTx h' 0 f ∧ Fr 2 4 h h' := by
  unfold CeO at O
  obtain ⟨x3, x4, x5, x6, x7, x8, x9, x10, g, X0, X1, X2, X3⟩ := X
  refine ⟨hS h 2 (cO 8 [vI 0, vR 3, vR 4, x3, x4, x5, x6, x7, x8, x9, x10]), ?_, ⟨x3, x4, x5, x6, x7, x8, x9, x10, g, hS_same, by rw [hS_ne (by decide)]; exact X1, fun j hj => by omega, X3.fr (b' := 2) (e' := 4) (Fr.st (by omega)) (by omega)⟩, Fr.st (by omega)⟩
  rw [ev_Cell_clear]
  simp (disch := omega) only [e_Cell_clear_0, e_Cell_clear_1, e_Cell_clear_4, e_Cell_clear_7, e_Cell_clear_8, e_Cell_clear_9, e_Cell_clear_12, e_Cell_clear_13, e_Cell_clear_16, e_Cell_clear_17, alk_in, ask_in, blk_in, bsk_in, qlk_in, ack_in, rcv_in, rcA_in, bk_i, bk_l, bk_v, hS_same, hS_ne, hS_hS, hS_2, am_10, am_01, am_00, if_true, if_false, gf_8_0, pf_8_0, gf_8_1, pf_8_1, gf_8_2, pf_8_2, gf_8_3, pf_8_3, gf_8_4, pf_8_4, gf_8_5, pf_8_5, gf_8_6, pf_8_6, gf_8_7, pf_8_7, gf_8_8, pf_8_8, gf_8_9, pf_8_9, gf_8_10, pf_8_10, gf_11_0, pf_11_0, gf_11_1, pf_11_1, gf_11_2, pf_11_2, gf_11_3, pf_11_3, gf_11_4, pf_11_4, gf_11_5, pf_11_5, gf_11_6, pf_11_6, gf_11_7, pf_11_7, gf_11_8, pf_11_8, gf_11_9, pf_11_9, gf_11_10, pf_11_10, gf_11_11, pf_11_11, O, X0]
end CellA
