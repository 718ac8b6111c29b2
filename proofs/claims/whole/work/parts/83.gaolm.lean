/-! the model: gaol -/
section GaolM
variable {L : Nat} {g : Nat → Int} {x0 x7 x11 : am_V} {tE tS : Nat → Nat} {tC tN : Nat → Int}
/-- the model stands behind a token -/
def MAt (h : am_H) (L : Nat) (x0 x7 x11 : am_V) (tE tS : Nat → Nat) (tC tN : Nat → Int) (p : Nat) : Prop := ∃ s v, MoA h x0 (vI (L : Int)) x7 x11 (vI (tE p : Int)) (vI s) (vI (tS p : Int)) (vI v) ∧ MTk (tC p) (tN p) s v
theorem m_readsItem {h : am_H} {p : Nat} {A : Nat → Int} {D : Dr} (X : MxG L g x0 x7 x11 tE tS tC tN) (hp : p ≤ L) (o : MAt h L x0 x7 x11 tE tS tC tN p) (Gg : h.1 121 = cI 0 120 g) (A1 : h.1 123 = cI 0 29 A) (hA : MDa A D) (hD : DrO D) (hI : D.2.2.2 ≤ 200) (hc : ¬ tC p = 0) : match rdB tE tS tC tN D p with
    | .inl q => ∃ h' x12 x13 x15 A', ev mMod_readsItem [vR 120] h = some (some (vI 0), h') ∧ MoA h' x0 (vI (L : Int)) x7 x11 x12 x13 (vI (q : Int)) x15 ∧ h'.1 123 = cI 0 29 A' ∧ FE [120, 123] h h'
    | .inr r => ∃ h' x13 x14 x15 A', ev mMod_readsItem [vR 120] h = some (some (vI 1), h') ∧ MoA h' x0 (vI (L : Int)) x7 x11 (vI (r.2 : Int)) x13 x14 x15 ∧ h'.1 123 = cI 0 29 A' ∧ MDa A' r.1 ∧ FE [120, 123] h h' := by
  obtain ⟨⟨n, c, lq, ha⟩, ⟨t, ce, so, ye⟩, lt, it⟩ := D
  obtain ⟨hw, ht, hlt, hlo, hit⟩ := hD
  have hA' := hA
  obtain ⟨a0, a1, a2, a3, a4, a5⟩ := hA
  simp only at hw ht hlt hlo hit a0 a1 a2 a3 a4 a5 hI
  obtain ⟨s, v, o, m⟩ := o
  have m1 := m.1
  have m2 := m.2
  have o0 := o
  unfold MoA at o0
  have p1 := (X.2.1 p hp).2.1
  have hn6 : n ≤ 6 := hw.1
  unfold rdB
  simp only
  by_cases t1 : tC p = 110 ∨ tC p = 109 ∨ tC p = 108
  · have s1 : s = 1 := by omega
    have v1 : v = tC p := by omega
    subst s1
    rcases t1 with t1 | t1 | t1
    · rw [t1] at v1
      subst v1
      by_cases z : it = 0
      · rw [if_pos ⟨t1, z⟩]
        by_cases b : fit tC tN (tE p) 2 9
        · rw [if_pos b]
          simp only
          obtain ⟨h1, s1, v1, e1, o1, A11, f1⟩ := m_number1 (P := 0) X p1.2 o Gg A1 (by omega) (by omega) b
          refine ⟨h1, _, _, _, _, ?_, o1, A11, ⟨?_, ?_, ?_, ?_, ?_, fun j hj => ?_⟩, f1⟩
          · rw [ev_Mod_readsItem]
            simp only [show ((0 : Nat) : Int) = 0 from rfl] at e1
            simp (disch := omega) only [e_Mod_readsItem_0, e_Mod_readsItem_1, e_Mod_readsItem_4, e_Mod_readsItem_5, e_Mod_readsItem_8, e_Mod_readsItem_9, e_Mod_readsItem_12, e_Mod_readsItem_15, e_Mod_readsItem_16, e_Mod_readsItem_17, e_Mod_readsItem_18c0, e_Mod_readsItem_18c1, e_Mod_readsItem_18c2, e_Mod_readsItem_18d, e_Mod_readsItem_44, e_Mod_readsItem_45, e_Mod_readsItem_48, e_Mod_readsItem_49, e_Mod_readsItem_50, e_Mod_readsItem_50b, e_Mod_readsItem_53, e_Mod_readsItem_54, e_Mod_readsItem_55, e_Mod_readsItem_56, e_Mod_readsItem_58, e_Mod_readsItem_61, e_Mod_readsItem_61b, e_Mod_readsItem_64, e_Mod_readsItem_65, e_Mod_readsItem_68, e_Mod_readsItem_69, e_Mod_readsItem_71, e_Mod_readsItem_74, e_Mod_readsItem_76, e_Mod_readsItem_79, e_Mod_readsItem_80, e_Mod_readsItem_81, e_Mod_readsItem_82, e_Mod_readsItem_85, e_Mod_readsItem_86, e_Mod_readsItem_87, e_Mod_readsItem_88, e_Mod_readsItem_91, e_Mod_readsItem_92, e_Mod_readsItem_93, e_Mod_readsItem_94, e_Mod_readsItem_95, e_Mod_readsItem_96, e_Mod_readsItem_97, e_Mod_readsItem_98, e_Mod_readsItem_101, e_Mod_readsItem_103, alk_in, ask_in, blk_in, bsk_in, qlk_in, ack_in, rcv_in, rcA_in, bk_i, bk_l, bk_v, hS_same, hS_ne, hS_hS, hS_2, am_10, am_01, am_00, if_true, if_false, gf_12_0, pf_12_0, gf_12_1, pf_12_1, gf_12_2, pf_12_2, gf_12_3, pf_12_3, gf_12_4, pf_12_4, gf_12_5, pf_12_5, gf_12_6, pf_12_6, gf_12_7, pf_12_7, gf_12_8, pf_12_8, gf_12_9, pf_12_9, gf_12_10, pf_12_10, gf_12_11, pf_12_11, gf_12_12, pf_12_12, gf_12_13, pf_12_13, gf_12_14, pf_12_14, gf_12_15, pf_12_15, gf_12_16, pf_12_16, gf_12_17, pf_12_17, gf_12_18, pf_12_18, gf_12_19, pf_12_19, gf_12_20, pf_12_20, o0, A1, tl_3, a3, e1]
            rw [if_pos (by omega)]
          · show (if (0 : Nat) = 0 then tN (tE p) else A 0) = (((tN (tE p)).toNat : Nat) : Int)
            rw [if_pos rfl, Int.toNat_of_nonneg (by have := b.2; omega)]
          · exact (if_neg (by omega)).trans a1
          · exact (if_neg (by omega)).trans a2
          · exact (if_neg (by omega)).trans a3
          · exact (if_neg (by omega)).trans a4
          · have b := a5 j hj
            exact ⟨(if_neg (by omega)).trans b.1, (if_neg (by omega)).trans b.2.1, (if_neg (by omega)).trans b.2.2.1, (if_neg (by omega)).trans b.2.2.2⟩
        · rw [if_neg b]
          simp only
          obtain ⟨h1, s1, v1, e1, o1, A11, f1⟩ := m_number0 (P := 0) X p1.2 o Gg A1 (by omega) (by omega) b
          refine ⟨h1, _, _, _, _, ?_, o1, A11, f1⟩
          rw [ev_Mod_readsItem]
          simp only [show ((0 : Nat) : Int) = 0 from rfl] at e1
          simp (disch := omega) only [e_Mod_readsItem_0, e_Mod_readsItem_1, e_Mod_readsItem_4, e_Mod_readsItem_5, e_Mod_readsItem_8, e_Mod_readsItem_9, e_Mod_readsItem_12, e_Mod_readsItem_15, e_Mod_readsItem_16, e_Mod_readsItem_17, e_Mod_readsItem_18c0, e_Mod_readsItem_18c1, e_Mod_readsItem_18c2, e_Mod_readsItem_18d, e_Mod_readsItem_44, e_Mod_readsItem_45, e_Mod_readsItem_48, e_Mod_readsItem_49, e_Mod_readsItem_50, e_Mod_readsItem_50b, e_Mod_readsItem_53, e_Mod_readsItem_54, e_Mod_readsItem_55, e_Mod_readsItem_56, e_Mod_readsItem_58, e_Mod_readsItem_61, e_Mod_readsItem_61b, e_Mod_readsItem_64, e_Mod_readsItem_65, e_Mod_readsItem_68, e_Mod_readsItem_69, e_Mod_readsItem_71, e_Mod_readsItem_74, e_Mod_readsItem_76, e_Mod_readsItem_79, e_Mod_readsItem_80, e_Mod_readsItem_81, e_Mod_readsItem_82, e_Mod_readsItem_85, e_Mod_readsItem_86, e_Mod_readsItem_87, e_Mod_readsItem_88, e_Mod_readsItem_91, e_Mod_readsItem_92, e_Mod_readsItem_93, e_Mod_readsItem_94, e_Mod_readsItem_95, e_Mod_readsItem_96, e_Mod_readsItem_97, e_Mod_readsItem_98, e_Mod_readsItem_101, e_Mod_readsItem_103, alk_in, ask_in, blk_in, bsk_in, qlk_in, ack_in, rcv_in, rcA_in, bk_i, bk_l, bk_v, hS_same, hS_ne, hS_hS, hS_2, am_10, am_01, am_00, if_true, if_false, gf_12_0, pf_12_0, gf_12_1, pf_12_1, gf_12_2, pf_12_2, gf_12_3, pf_12_3, gf_12_4, pf_12_4, gf_12_5, pf_12_5, gf_12_6, pf_12_6, gf_12_7, pf_12_7, gf_12_8, pf_12_8, gf_12_9, pf_12_9, gf_12_10, pf_12_10, gf_12_11, pf_12_11, gf_12_12, pf_12_12, gf_12_13, pf_12_13, gf_12_14, pf_12_14, gf_12_15, pf_12_15, gf_12_16, pf_12_16, gf_12_17, pf_12_17, gf_12_18, pf_12_18, gf_12_19, pf_12_19, gf_12_20, pf_12_20, o0, A1, tl_3, a3, e1]
          rw [if_pos (by omega)]
      · rw [if_neg (fun w => z w.2), if_neg (by omega), if_neg (by omega)]
        simp only
        refine ⟨h, _, _, _, _, ?_, o, A1, FE.rf⟩
        rw [ev_Mod_readsItem]
        simp (disch := omega) only [e_Mod_readsItem_0, e_Mod_readsItem_1, e_Mod_readsItem_4, e_Mod_readsItem_5, e_Mod_readsItem_8, e_Mod_readsItem_9, e_Mod_readsItem_12, e_Mod_readsItem_15, e_Mod_readsItem_16, e_Mod_readsItem_17, e_Mod_readsItem_18c0, e_Mod_readsItem_18c1, e_Mod_readsItem_18c2, e_Mod_readsItem_18d, e_Mod_readsItem_44, e_Mod_readsItem_45, e_Mod_readsItem_48, e_Mod_readsItem_49, e_Mod_readsItem_50, e_Mod_readsItem_50b, e_Mod_readsItem_54, e_Mod_readsItem_55, e_Mod_readsItem_56, e_Mod_readsItem_58, e_Mod_readsItem_61, e_Mod_readsItem_61b, e_Mod_readsItem_64, e_Mod_readsItem_65, e_Mod_readsItem_68, e_Mod_readsItem_69, e_Mod_readsItem_71, e_Mod_readsItem_74, e_Mod_readsItem_76, e_Mod_readsItem_79, e_Mod_readsItem_80, e_Mod_readsItem_81, e_Mod_readsItem_82, e_Mod_readsItem_85, e_Mod_readsItem_86, e_Mod_readsItem_87, e_Mod_readsItem_88, e_Mod_readsItem_91, e_Mod_readsItem_92, e_Mod_readsItem_93, e_Mod_readsItem_94, e_Mod_readsItem_95, e_Mod_readsItem_96, e_Mod_readsItem_97, e_Mod_readsItem_98, e_Mod_readsItem_101, e_Mod_readsItem_103, alk_in, ask_in, blk_in, bsk_in, qlk_in, ack_in, rcv_in, rcA_in, bk_i, bk_l, bk_v, hS_same, hS_ne, hS_hS, hS_2, am_10, am_01, am_00, if_true, if_false, gf_12_0, pf_12_0, gf_12_1, pf_12_1, gf_12_2, pf_12_2, gf_12_3, pf_12_3, gf_12_4, pf_12_4, gf_12_5, pf_12_5, gf_12_6, pf_12_6, gf_12_7, pf_12_7, gf_12_8, pf_12_8, gf_12_9, pf_12_9, gf_12_10, pf_12_10, gf_12_11, pf_12_11, gf_12_12, pf_12_12, gf_12_13, pf_12_13, gf_12_14, pf_12_14, gf_12_15, pf_12_15, gf_12_16, pf_12_16, gf_12_17, pf_12_17, gf_12_18, pf_12_18, gf_12_19, pf_12_19, gf_12_20, pf_12_20, o0, A1, tl_3, a3]
        rw [if_neg (by omega)]
    · rw [t1] at v1
      subst v1
      rw [if_neg (by omega)]
      by_cases z : n < 6
      · rw [if_pos ⟨t1, z⟩]
        have w := m_readsMan (lt := lt) (it := it) X p1.2 o Gg A1 hA' hw z
        cases e : rdN tE tS tC tN (n, c, lq, ha) (t, ce, so, ye) (tE p) with
        | inl q =>
          rw [e] at w
          simp only at w ⊢
          obtain ⟨h1, y12, y13, y15, A', e1, o1, A11, f1⟩ := w
          refine ⟨h1, _, _, _, _, ?_, o1, A11, f1⟩
          rw [ev_Mod_readsItem]
          simp (disch := omega) only [e_Mod_readsItem_0, e_Mod_readsItem_1, e_Mod_readsItem_4, e_Mod_readsItem_5, e_Mod_readsItem_8, e_Mod_readsItem_9, e_Mod_readsItem_12, e_Mod_readsItem_15, e_Mod_readsItem_16, e_Mod_readsItem_17, e_Mod_readsItem_18c0, e_Mod_readsItem_18c1, e_Mod_readsItem_18c2, e_Mod_readsItem_18d, e_Mod_readsItem_45, e_Mod_readsItem_48, e_Mod_readsItem_49, e_Mod_readsItem_50, e_Mod_readsItem_50b, e_Mod_readsItem_53, e_Mod_readsItem_54, e_Mod_readsItem_55, e_Mod_readsItem_56, e_Mod_readsItem_58, e_Mod_readsItem_61, e_Mod_readsItem_61b, e_Mod_readsItem_64, e_Mod_readsItem_65, e_Mod_readsItem_68, e_Mod_readsItem_69, e_Mod_readsItem_70, e_Mod_readsItem_71, e_Mod_readsItem_74, e_Mod_readsItem_76, e_Mod_readsItem_79, e_Mod_readsItem_80, e_Mod_readsItem_81, e_Mod_readsItem_82, e_Mod_readsItem_85, e_Mod_readsItem_86, e_Mod_readsItem_87, e_Mod_readsItem_88, e_Mod_readsItem_91, e_Mod_readsItem_92, e_Mod_readsItem_93, e_Mod_readsItem_94, e_Mod_readsItem_95, e_Mod_readsItem_96, e_Mod_readsItem_97, e_Mod_readsItem_98, e_Mod_readsItem_101, e_Mod_readsItem_103, alk_in, ask_in, blk_in, bsk_in, qlk_in, ack_in, rcv_in, rcA_in, bk_i, bk_l, bk_v, hS_same, hS_ne, hS_hS, hS_2, am_10, am_01, am_00, if_true, if_false, gf_12_0, pf_12_0, gf_12_1, pf_12_1, gf_12_2, pf_12_2, gf_12_3, pf_12_3, gf_12_4, pf_12_4, gf_12_5, pf_12_5, gf_12_6, pf_12_6, gf_12_7, pf_12_7, gf_12_8, pf_12_8, gf_12_9, pf_12_9, gf_12_10, pf_12_10, gf_12_11, pf_12_11, gf_12_12, pf_12_12, gf_12_13, pf_12_13, gf_12_14, pf_12_14, gf_12_15, pf_12_15, gf_12_16, pf_12_16, gf_12_17, pf_12_17, gf_12_18, pf_12_18, gf_12_19, pf_12_19, gf_12_20, pf_12_20, o0, e1]
        | inr r =>
          rw [e] at w
          simp only at w ⊢
          obtain ⟨h1, y12, y13, y15, A', e1, o1, A11, hA1, f1⟩ := w
          refine ⟨h1, _, _, _, _, ?_, o1, A11, hA1, f1⟩
          rw [ev_Mod_readsItem]
          simp (disch := omega) only [e_Mod_readsItem_0, e_Mod_readsItem_1, e_Mod_readsItem_4, e_Mod_readsItem_5, e_Mod_readsItem_8, e_Mod_readsItem_9, e_Mod_readsItem_12, e_Mod_readsItem_15, e_Mod_readsItem_16, e_Mod_readsItem_17, e_Mod_readsItem_18c0, e_Mod_readsItem_18c1, e_Mod_readsItem_18c2, e_Mod_readsItem_18d, e_Mod_readsItem_45, e_Mod_readsItem_48, e_Mod_readsItem_49, e_Mod_readsItem_50, e_Mod_readsItem_50b, e_Mod_readsItem_53, e_Mod_readsItem_54, e_Mod_readsItem_55, e_Mod_readsItem_56, e_Mod_readsItem_58, e_Mod_readsItem_61, e_Mod_readsItem_61b, e_Mod_readsItem_64, e_Mod_readsItem_65, e_Mod_readsItem_68, e_Mod_readsItem_69, e_Mod_readsItem_70, e_Mod_readsItem_71, e_Mod_readsItem_74, e_Mod_readsItem_76, e_Mod_readsItem_79, e_Mod_readsItem_80, e_Mod_readsItem_81, e_Mod_readsItem_82, e_Mod_readsItem_85, e_Mod_readsItem_86, e_Mod_readsItem_87, e_Mod_readsItem_88, e_Mod_readsItem_91, e_Mod_readsItem_92, e_Mod_readsItem_93, e_Mod_readsItem_94, e_Mod_readsItem_95, e_Mod_readsItem_96, e_Mod_readsItem_97, e_Mod_readsItem_98, e_Mod_readsItem_101, e_Mod_readsItem_103, alk_in, ask_in, blk_in, bsk_in, qlk_in, ack_in, rcv_in, rcA_in, bk_i, bk_l, bk_v, hS_same, hS_ne, hS_hS, hS_2, am_10, am_01, am_00, if_true, if_false, gf_12_0, pf_12_0, gf_12_1, pf_12_1, gf_12_2, pf_12_2, gf_12_3, pf_12_3, gf_12_4, pf_12_4, gf_12_5, pf_12_5, gf_12_6, pf_12_6, gf_12_7, pf_12_7, gf_12_8, pf_12_8, gf_12_9, pf_12_9, gf_12_10, pf_12_10, gf_12_11, pf_12_11, gf_12_12, pf_12_12, gf_12_13, pf_12_13, gf_12_14, pf_12_14, gf_12_15, pf_12_15, gf_12_16, pf_12_16, gf_12_17, pf_12_17, gf_12_18, pf_12_18, gf_12_19, pf_12_19, gf_12_20, pf_12_20, o0, e1]
      · rw [if_neg (fun w => z w.2), if_neg (by omega)]
        simp only
        have e1 : ev mMod_readsMan [vR 120] h = some (some (vI 0), h) := by
          rw [ev_Mod_readsMan]
          simp (disch := omega) only [e_Mod_readsMan_0, e_Mod_readsMan_1, e_Mod_readsMan_4, e_Mod_readsMan_5, e_Mod_readsMan_6, e_Mod_readsMan_7, e_Mod_readsMan_8, e_Mod_readsMan_10, e_Mod_readsMan_33, e_Mod_readsMan_34, alk_in, ask_in, blk_in, bsk_in, qlk_in, ack_in, rcv_in, rcA_in, bk_i, bk_l, bk_v, hS_same, hS_ne, hS_hS, hS_2, am_10, am_01, am_00, if_true, if_false, gf_12_0, pf_12_0, gf_12_1, pf_12_1, gf_12_2, pf_12_2, gf_12_3, pf_12_3, gf_12_4, pf_12_4, gf_12_5, pf_12_5, gf_12_6, pf_12_6, gf_12_7, pf_12_7, gf_12_8, pf_12_8, gf_12_9, pf_12_9, gf_12_10, pf_12_10, gf_12_11, pf_12_11, gf_12_12, pf_12_12, gf_12_13, pf_12_13, gf_12_14, pf_12_14, gf_12_15, pf_12_15, gf_12_16, pf_12_16, gf_12_17, pf_12_17, gf_12_18, pf_12_18, gf_12_19, pf_12_19, gf_12_20, pf_12_20, o0, A1, tl_1, a1]
          rw [if_pos (by omega)]
        refine ⟨h, _, _, _, _, ?_, o, A1, FE.rf⟩
        rw [ev_Mod_readsItem]
        simp (disch := omega) only [e_Mod_readsItem_0, e_Mod_readsItem_1, e_Mod_readsItem_4, e_Mod_readsItem_5, e_Mod_readsItem_8, e_Mod_readsItem_9, e_Mod_readsItem_12, e_Mod_readsItem_15, e_Mod_readsItem_16, e_Mod_readsItem_17, e_Mod_readsItem_18c0, e_Mod_readsItem_18c1, e_Mod_readsItem_18c2, e_Mod_readsItem_18d, e_Mod_readsItem_45, e_Mod_readsItem_48, e_Mod_readsItem_49, e_Mod_readsItem_50, e_Mod_readsItem_50b, e_Mod_readsItem_53, e_Mod_readsItem_54, e_Mod_readsItem_55, e_Mod_readsItem_56, e_Mod_readsItem_58, e_Mod_readsItem_61, e_Mod_readsItem_61b, e_Mod_readsItem_64, e_Mod_readsItem_65, e_Mod_readsItem_68, e_Mod_readsItem_69, e_Mod_readsItem_70, e_Mod_readsItem_71, e_Mod_readsItem_74, e_Mod_readsItem_76, e_Mod_readsItem_79, e_Mod_readsItem_80, e_Mod_readsItem_81, e_Mod_readsItem_82, e_Mod_readsItem_85, e_Mod_readsItem_86, e_Mod_readsItem_87, e_Mod_readsItem_88, e_Mod_readsItem_91, e_Mod_readsItem_92, e_Mod_readsItem_93, e_Mod_readsItem_94, e_Mod_readsItem_95, e_Mod_readsItem_96, e_Mod_readsItem_97, e_Mod_readsItem_98, e_Mod_readsItem_101, e_Mod_readsItem_103, alk_in, ask_in, blk_in, bsk_in, qlk_in, ack_in, rcv_in, rcA_in, bk_i, bk_l, bk_v, hS_same, hS_ne, hS_hS, hS_2, am_10, am_01, am_00, if_true, if_false, gf_12_0, pf_12_0, gf_12_1, pf_12_1, gf_12_2, pf_12_2, gf_12_3, pf_12_3, gf_12_4, pf_12_4, gf_12_5, pf_12_5, gf_12_6, pf_12_6, gf_12_7, pf_12_7, gf_12_8, pf_12_8, gf_12_9, pf_12_9, gf_12_10, pf_12_10, gf_12_11, pf_12_11, gf_12_12, pf_12_12, gf_12_13, pf_12_13, gf_12_14, pf_12_14, gf_12_15, pf_12_15, gf_12_16, pf_12_16, gf_12_17, pf_12_17, gf_12_18, pf_12_18, gf_12_19, pf_12_19, gf_12_20, pf_12_20, o0, e1]
    · rw [t1] at v1
      subst v1
      rw [if_neg (by omega), if_neg (by omega)]
      by_cases z : lt = 0
      · rw [if_pos ⟨t1, z⟩]
        have f0 : FE [120, 123] h (hS h 123 (cI 0 29 (fun j => if j = 4 then 1 else A j))) := FE.st (by decide)
        by_cases b : fit tC tN (tE p) 1 3
        · rw [if_pos b]
          simp only
          obtain ⟨h1, s1, v1, e1, o1, A11, f1⟩ := m_number1 (P := 2) X p1.2 (show MoA (hS h 123 (cI 0 29 (fun j => if j = 4 then 1 else A j))) _ _ _ _ _ _ _ _ from (hS_ne (by omega)).trans o) (f0.at Gg (by decide)) (hS_same (h := h) (a := 123) (c := cI 0 29 (fun j => if j = 4 then 1 else A j))) (by omega) (by omega) b
          refine ⟨h1, _, _, _, _, ?_, o1, A11, ⟨?_, ?_, ?_, ?_, ?_, fun j hj => ?_⟩, f0.tr f1⟩
          · rw [ev_Mod_readsItem]
            simp only [show ((2 : Nat) : Int) = 2 from rfl] at e1
            simp (disch := omega) only [e_Mod_readsItem_0, e_Mod_readsItem_1, e_Mod_readsItem_4, e_Mod_readsItem_5, e_Mod_readsItem_8, e_Mod_readsItem_9, e_Mod_readsItem_12, e_Mod_readsItem_15, e_Mod_readsItem_16, e_Mod_readsItem_17, e_Mod_readsItem_18c0, e_Mod_readsItem_18c1, e_Mod_readsItem_18c2, e_Mod_readsItem_18d, e_Mod_readsItem_45, e_Mod_readsItem_48, e_Mod_readsItem_49, e_Mod_readsItem_50, e_Mod_readsItem_50b, e_Mod_readsItem_53, e_Mod_readsItem_54, e_Mod_readsItem_55, e_Mod_readsItem_56, e_Mod_readsItem_58, e_Mod_readsItem_61, e_Mod_readsItem_61b, e_Mod_readsItem_64, e_Mod_readsItem_65, e_Mod_readsItem_68, e_Mod_readsItem_69, e_Mod_readsItem_71, e_Mod_readsItem_74, e_Mod_readsItem_75, e_Mod_readsItem_76, e_Mod_readsItem_79, e_Mod_readsItem_80, e_Mod_readsItem_81, e_Mod_readsItem_82, e_Mod_readsItem_85, e_Mod_readsItem_86, e_Mod_readsItem_87, e_Mod_readsItem_88, e_Mod_readsItem_91, e_Mod_readsItem_92, e_Mod_readsItem_93, e_Mod_readsItem_94, e_Mod_readsItem_95, e_Mod_readsItem_96, e_Mod_readsItem_97, e_Mod_readsItem_98, e_Mod_readsItem_101, e_Mod_readsItem_103, alk_in, ask_in, blk_in, bsk_in, qlk_in, ack_in, rcv_in, rcA_in, bk_i, bk_l, bk_v, hS_same, hS_ne, hS_hS, hS_2, am_10, am_01, am_00, if_true, if_false, gf_12_0, pf_12_0, gf_12_1, pf_12_1, gf_12_2, pf_12_2, gf_12_3, pf_12_3, gf_12_4, pf_12_4, gf_12_5, pf_12_5, gf_12_6, pf_12_6, gf_12_7, pf_12_7, gf_12_8, pf_12_8, gf_12_9, pf_12_9, gf_12_10, pf_12_10, gf_12_11, pf_12_11, gf_12_12, pf_12_12, gf_12_13, pf_12_13, gf_12_14, pf_12_14, gf_12_15, pf_12_15, gf_12_16, pf_12_16, gf_12_17, pf_12_17, gf_12_18, pf_12_18, gf_12_19, pf_12_19, gf_12_20, pf_12_20, o0, A1, tl_4, a4, e1]
            rw [if_neg (by omega)]
          · exact (if_neg (by omega)).trans ((if_neg (by omega)).trans a0)
          · exact (if_neg (by omega)).trans ((if_neg (by omega)).trans a1)
          · exact if_pos rfl
          · exact (if_neg (by omega)).trans ((if_neg (by omega)).trans a3)
          · exact (if_neg (by omega)).trans (if_pos rfl)
          · have b := a5 j hj
            exact ⟨(if_neg (by omega)).trans ((if_neg (by omega)).trans b.1), (if_neg (by omega)).trans ((if_neg (by omega)).trans b.2.1), (if_neg (by omega)).trans ((if_neg (by omega)).trans b.2.2.1), (if_neg (by omega)).trans ((if_neg (by omega)).trans b.2.2.2)⟩
        · rw [if_neg b]
          simp only
          obtain ⟨h1, s1, v1, e1, o1, A11, f1⟩ := m_number0 (P := 2) X p1.2 (show MoA (hS h 123 (cI 0 29 (fun j => if j = 4 then 1 else A j))) _ _ _ _ _ _ _ _ from (hS_ne (by omega)).trans o) (f0.at Gg (by decide)) (hS_same (h := h) (a := 123) (c := cI 0 29 (fun j => if j = 4 then 1 else A j))) (by omega) (by omega) b
          refine ⟨h1, _, _, _, _, ?_, o1, A11, f0.tr f1⟩
          rw [ev_Mod_readsItem]
          simp only [show ((2 : Nat) : Int) = 2 from rfl] at e1
          simp (disch := omega) only [e_Mod_readsItem_0, e_Mod_readsItem_1, e_Mod_readsItem_4, e_Mod_readsItem_5, e_Mod_readsItem_8, e_Mod_readsItem_9, e_Mod_readsItem_12, e_Mod_readsItem_15, e_Mod_readsItem_16, e_Mod_readsItem_17, e_Mod_readsItem_18c0, e_Mod_readsItem_18c1, e_Mod_readsItem_18c2, e_Mod_readsItem_18d, e_Mod_readsItem_45, e_Mod_readsItem_48, e_Mod_readsItem_49, e_Mod_readsItem_50, e_Mod_readsItem_50b, e_Mod_readsItem_53, e_Mod_readsItem_54, e_Mod_readsItem_55, e_Mod_readsItem_56, e_Mod_readsItem_58, e_Mod_readsItem_61, e_Mod_readsItem_61b, e_Mod_readsItem_64, e_Mod_readsItem_65, e_Mod_readsItem_68, e_Mod_readsItem_69, e_Mod_readsItem_71, e_Mod_readsItem_74, e_Mod_readsItem_75, e_Mod_readsItem_76, e_Mod_readsItem_79, e_Mod_readsItem_80, e_Mod_readsItem_81, e_Mod_readsItem_82, e_Mod_readsItem_85, e_Mod_readsItem_86, e_Mod_readsItem_87, e_Mod_readsItem_88, e_Mod_readsItem_91, e_Mod_readsItem_92, e_Mod_readsItem_93, e_Mod_readsItem_94, e_Mod_readsItem_95, e_Mod_readsItem_96, e_Mod_readsItem_97, e_Mod_readsItem_98, e_Mod_readsItem_101, e_Mod_readsItem_103, alk_in, ask_in, blk_in, bsk_in, qlk_in, ack_in, rcv_in, rcA_in, bk_i, bk_l, bk_v, hS_same, hS_ne, hS_hS, hS_2, am_10, am_01, am_00, if_true, if_false, gf_12_0, pf_12_0, gf_12_1, pf_12_1, gf_12_2, pf_12_2, gf_12_3, pf_12_3, gf_12_4, pf_12_4, gf_12_5, pf_12_5, gf_12_6, pf_12_6, gf_12_7, pf_12_7, gf_12_8, pf_12_8, gf_12_9, pf_12_9, gf_12_10, pf_12_10, gf_12_11, pf_12_11, gf_12_12, pf_12_12, gf_12_13, pf_12_13, gf_12_14, pf_12_14, gf_12_15, pf_12_15, gf_12_16, pf_12_16, gf_12_17, pf_12_17, gf_12_18, pf_12_18, gf_12_19, pf_12_19, gf_12_20, pf_12_20, o0, A1, tl_4, a4, e1]
          rw [if_neg (by omega)]
      · rw [if_neg (fun w => z w.2)]
        simp only
        refine ⟨h, _, _, _, _, ?_, o, A1, FE.rf⟩
        rw [ev_Mod_readsItem]
        simp (disch := omega) only [e_Mod_readsItem_0, e_Mod_readsItem_1, e_Mod_readsItem_4, e_Mod_readsItem_5, e_Mod_readsItem_8, e_Mod_readsItem_9, e_Mod_readsItem_12, e_Mod_readsItem_15, e_Mod_readsItem_16, e_Mod_readsItem_17, e_Mod_readsItem_18c0, e_Mod_readsItem_18c1, e_Mod_readsItem_18c2, e_Mod_readsItem_18d, e_Mod_readsItem_45, e_Mod_readsItem_48, e_Mod_readsItem_49, e_Mod_readsItem_50, e_Mod_readsItem_50b, e_Mod_readsItem_53, e_Mod_readsItem_54, e_Mod_readsItem_55, e_Mod_readsItem_56, e_Mod_readsItem_58, e_Mod_readsItem_61, e_Mod_readsItem_61b, e_Mod_readsItem_64, e_Mod_readsItem_65, e_Mod_readsItem_68, e_Mod_readsItem_69, e_Mod_readsItem_71, e_Mod_readsItem_74, e_Mod_readsItem_75, e_Mod_readsItem_76, e_Mod_readsItem_79, e_Mod_readsItem_80, e_Mod_readsItem_81, e_Mod_readsItem_82, e_Mod_readsItem_85, e_Mod_readsItem_86, e_Mod_readsItem_88, e_Mod_readsItem_91, e_Mod_readsItem_92, e_Mod_readsItem_93, e_Mod_readsItem_94, e_Mod_readsItem_95, e_Mod_readsItem_96, e_Mod_readsItem_97, e_Mod_readsItem_98, e_Mod_readsItem_101, e_Mod_readsItem_103, alk_in, ask_in, blk_in, bsk_in, qlk_in, ack_in, rcv_in, rcA_in, bk_i, bk_l, bk_v, hS_same, hS_ne, hS_hS, hS_2, am_10, am_01, am_00, if_true, if_false, gf_12_0, pf_12_0, gf_12_1, pf_12_1, gf_12_2, pf_12_2, gf_12_3, pf_12_3, gf_12_4, pf_12_4, gf_12_5, pf_12_5, gf_12_6, pf_12_6, gf_12_7, pf_12_7, gf_12_8, pf_12_8, gf_12_9, pf_12_9, gf_12_10, pf_12_10, gf_12_11, pf_12_11, gf_12_12, pf_12_12, gf_12_13, pf_12_13, gf_12_14, pf_12_14, gf_12_15, pf_12_15, gf_12_16, pf_12_16, gf_12_17, pf_12_17, gf_12_18, pf_12_18, gf_12_19, pf_12_19, gf_12_20, pf_12_20, o0, A1, tl_4, a4]
        rw [if_pos (by omega)]
  · rw [if_neg (by omega), if_neg (by omega), if_neg (by omega)]
    simp only
    refine ⟨h, _, _, _, _, ?_, o, A1, FE.rf⟩
    have ns : ¬ s = 1 := by omega
    have sr : 0 ≤ s ∧ s ≤ 4 := by omega
    rw [ev_Mod_readsItem]
    simp (disch := omega) only [e_Mod_readsItem_0, e_Mod_readsItem_1, e_Mod_readsItem_4, e_Mod_readsItem_5, e_Mod_readsItem_9, e_Mod_readsItem_12, e_Mod_readsItem_15, e_Mod_readsItem_16, e_Mod_readsItem_17, e_Mod_readsItem_18c0, e_Mod_readsItem_18c1, e_Mod_readsItem_18c2, e_Mod_readsItem_18d, e_Mod_readsItem_45, e_Mod_readsItem_48, e_Mod_readsItem_49, e_Mod_readsItem_50, e_Mod_readsItem_50b, e_Mod_readsItem_53, e_Mod_readsItem_54, e_Mod_readsItem_55, e_Mod_readsItem_56, e_Mod_readsItem_58, e_Mod_readsItem_61, e_Mod_readsItem_61b, e_Mod_readsItem_64, e_Mod_readsItem_65, e_Mod_readsItem_68, e_Mod_readsItem_69, e_Mod_readsItem_71, e_Mod_readsItem_74, e_Mod_readsItem_76, e_Mod_readsItem_79, e_Mod_readsItem_80, e_Mod_readsItem_81, e_Mod_readsItem_82, e_Mod_readsItem_85, e_Mod_readsItem_86, e_Mod_readsItem_87, e_Mod_readsItem_88, e_Mod_readsItem_91, e_Mod_readsItem_92, e_Mod_readsItem_93, e_Mod_readsItem_94, e_Mod_readsItem_95, e_Mod_readsItem_96, e_Mod_readsItem_97, e_Mod_readsItem_98, e_Mod_readsItem_101, e_Mod_readsItem_102, e_Mod_readsItem_103, alk_in, ask_in, blk_in, bsk_in, qlk_in, ack_in, rcv_in, rcA_in, bk_i, bk_l, bk_v, hS_same, hS_ne, hS_hS, hS_2, am_10, am_01, am_00, if_true, if_false, gf_12_0, pf_12_0, gf_12_1, pf_12_1, gf_12_2, pf_12_2, gf_12_3, pf_12_3, gf_12_4, pf_12_4, gf_12_5, pf_12_5, gf_12_6, pf_12_6, gf_12_7, pf_12_7, gf_12_8, pf_12_8, gf_12_9, pf_12_9, gf_12_10, pf_12_10, gf_12_11, pf_12_11, gf_12_12, pf_12_12, gf_12_13, pf_12_13, gf_12_14, pf_12_14, gf_12_15, pf_12_15, gf_12_16, pf_12_16, gf_12_17, pf_12_17, gf_12_18, pf_12_18, gf_12_19, pf_12_19, gf_12_20, pf_12_20, o0]
    rw [if_neg ns]
theorem lm_reads {l1 : am_V} (X : MxG L g x0 x7 x11 tE tS tC tN) : ∀ (d p : Nat) (h : am_H) (D : Dr) (A : Nat → Int), L + 1 ≤ d + p → p ≤ L → D.2.2.2 ≤ p → DrO D → MAt h L x0 x7 x11 tE tS tC tN p → h.1 121 = cI 0 120 g → h.1 123 = cI 0 29 A → MDa A D → ∃ h' x12 x13 x15 A', h'.1 123 = cI 0 29 A' ∧ FE [120, 123] h h' ∧ match rdA tE tS tC tN d D p with
    | .inl q => gv mMod_reads 45 [vR 120, l1] [] h = some (some (vI 0), h') ∧ MoA h' x0 (vI (L : Int)) x7 x11 x12 x13 (vI (q : Int)) x15
    | .inr D' => gv mMod_reads 45 [vR 120, l1] [] h = some (some (vI 1), h') ∧ (∃ x14, MoA h' x0 (vI (L : Int)) x7 x11 x12 x13 x14 x15) ∧ MDa A' D' ∧ DrO D' := by
  have hL := X.1
  intro d
  induction d with
  | zero => intro p h D A hd hp; omega
  | succ d ih =>
    intro p h D A hd hp hI hD o Gg A1 hA
    have o' := o
    obtain ⟨s, v, oo, m⟩ := o'
    have m2 := m.2
    have oo' := oo
    unfold MoA at oo'
    unfold rdA
    by_cases c0 : tC p = 0
    · rw [if_pos c0]
      have s0 : s = 0 := by omega
      subst s0
      refine ⟨h, _, _, _, A, A1, FE.rf, ?_, ⟨_, oo⟩, hA, hD⟩
      rw [e_Mod_reads_45]
      simp (disch := omega) only [e_Mod_reads_0, e_Mod_reads_1, e_Mod_reads_2, e_Mod_reads_3, e_Mod_reads_5, e_Mod_reads_8, e_Mod_reads_9, e_Mod_reads_12, e_Mod_reads_13, e_Mod_reads_14, e_Mod_reads_15, e_Mod_reads_18, e_Mod_reads_21, e_Mod_reads_22, e_Mod_reads_25, e_Mod_reads_26, e_Mod_reads_28, e_Mod_reads_29, e_Mod_reads_30, e_Mod_reads_33, e_Mod_reads_34, e_Mod_reads_35, e_Mod_reads_36, e_Mod_reads_37, e_Mod_reads_38, e_Mod_reads_41, e_Mod_reads_42, e_Mod_reads_46, e_Mod_reads_49, e_Mod_reads_49b, e_Mod_reads_52, e_Mod_reads_53, e_Mod_reads_56, e_Mod_reads_56b, e_Mod_reads_59, e_Mod_reads_60, e_Mod_reads_61, e_Mod_reads_62, e_Mod_reads_65, e_Mod_reads_66, e_Mod_reads_69, e_Mod_reads_70, e_Mod_reads_73, e_Mod_reads_74, e_Mod_reads_75, e_Mod_reads_76, e_Mod_reads_79, e_Mod_reads_80, e_Mod_reads_81, e_Mod_reads_82, e_Mod_reads_83, e_Mod_reads_84, e_Mod_reads_85, e_Mod_reads_86, e_Mod_reads_89, e_Mod_reads_92, e_Mod_reads_93, alk_in, ask_in, blk_in, bsk_in, qlk_in, ack_in, rcv_in, rcA_in, bk_i, bk_l, bk_v, hS_same, hS_ne, hS_hS, hS_2, am_10, am_01, am_00, if_true, if_false, gf_12_0, pf_12_0, gf_12_1, pf_12_1, gf_12_2, pf_12_2, gf_12_3, pf_12_3, gf_12_4, pf_12_4, gf_12_5, pf_12_5, gf_12_6, pf_12_6, gf_12_7, pf_12_7, gf_12_8, pf_12_8, gf_12_9, pf_12_9, gf_12_10, pf_12_10, gf_12_11, pf_12_11, gf_12_12, pf_12_12, gf_12_13, pf_12_13, gf_12_14, pf_12_14, gf_12_15, pf_12_15, gf_12_16, pf_12_16, gf_12_17, pf_12_17, gf_12_18, pf_12_18, gf_12_19, pf_12_19, gf_12_20, pf_12_20, oo']
    · rw [if_neg c0]
      have s0 : ¬ s = 0 := by omega
      have sr : 0 ≤ s ∧ s ≤ 4 := by omega
      have w := m_readsItem X hp o Gg A1 hA hD (by omega) c0
      have ok := rdB_ok X.2.1 hp hD c0
      have okI := rdI_ok X.2.1 hp hD c0
      unfold rdI at okI ⊢
      cases e : rdB tE tS tC tN D p with
      | inl q =>
        rw [e] at w
        simp only at w ⊢
        obtain ⟨h1, y12, y13, y15, A', e1, o1, A11, f1⟩ := w
        refine ⟨h1, _, _, _, _, A11, f1, ?_, o1⟩
        rw [e_Mod_reads_45]
        simp (disch := omega) only [e_Mod_reads_0, e_Mod_reads_1, e_Mod_reads_2, e_Mod_reads_3, e_Mod_reads_5, e_Mod_reads_8, e_Mod_reads_9, e_Mod_reads_12, e_Mod_reads_13, e_Mod_reads_14, e_Mod_reads_15, e_Mod_reads_18, e_Mod_reads_21, e_Mod_reads_22, e_Mod_reads_25, e_Mod_reads_26, e_Mod_reads_28, e_Mod_reads_29, e_Mod_reads_30, e_Mod_reads_33, e_Mod_reads_34, e_Mod_reads_35, e_Mod_reads_36, e_Mod_reads_37, e_Mod_reads_38, e_Mod_reads_41, e_Mod_reads_42, e_Mod_reads_46, e_Mod_reads_49, e_Mod_reads_49b, e_Mod_reads_52, e_Mod_reads_53, e_Mod_reads_56, e_Mod_reads_56b, e_Mod_reads_59, e_Mod_reads_60, e_Mod_reads_61, e_Mod_reads_62, e_Mod_reads_65, e_Mod_reads_66, e_Mod_reads_69, e_Mod_reads_70, e_Mod_reads_73, e_Mod_reads_74, e_Mod_reads_75, e_Mod_reads_76, e_Mod_reads_79, e_Mod_reads_80, e_Mod_reads_81, e_Mod_reads_82, e_Mod_reads_83, e_Mod_reads_84, e_Mod_reads_85, e_Mod_reads_86, e_Mod_reads_89, e_Mod_reads_92, e_Mod_reads_93, alk_in, ask_in, blk_in, bsk_in, qlk_in, ack_in, rcv_in, rcA_in, bk_i, bk_l, bk_v, hS_same, hS_ne, hS_hS, hS_2, am_10, am_01, am_00, if_true, if_false, gf_12_0, pf_12_0, gf_12_1, pf_12_1, gf_12_2, pf_12_2, gf_12_3, pf_12_3, gf_12_4, pf_12_4, gf_12_5, pf_12_5, gf_12_6, pf_12_6, gf_12_7, pf_12_7, gf_12_8, pf_12_8, gf_12_9, pf_12_9, gf_12_10, pf_12_10, gf_12_11, pf_12_11, gf_12_12, pf_12_12, gf_12_13, pf_12_13, gf_12_14, pf_12_14, gf_12_15, pf_12_15, gf_12_16, pf_12_16, gf_12_17, pf_12_17, gf_12_18, pf_12_18, gf_12_19, pf_12_19, gf_12_20, pf_12_20, oo', e1]
        rw [if_neg s0]
      | inr r =>
        rw [e] at w ok okI
        simp only at w ok okI ⊢
        obtain ⟨h1, y13, y14, y15, A', e1, o1, A11, hA1, f1⟩ := w
        obtain ⟨h2, s2, v2, e2, o2, mm2, f2⟩ := X.2.2 h1 r.2 _ _ _ ok.2.1 o1 (f1.at Gg (by decide))
        have o1' := o1
        unfold MoA at o1'
        have o2' := o2
        unfold MoA at o2'
        have mz := mm2.2
        have sr2 : 0 ≤ s2 ∧ s2 ≤ 4 := by omega
        by_cases b : tC r.2 = 59
        · rw [if_pos b] at okI ⊢
          simp only at okI ⊢
          have s3 : s2 = 3 := by omega
          subst s3
          have rb := (X.2.1 _ ok.2.1).2.1
          have A2 := f2.at A11 (by decide)
          have f3 : FE [120, 123] h2 (hS h2 123 (cI 0 29 (fun j => if j = 3 then A' 3 + 1 else A' j))) := FE.st (by decide)
          obtain ⟨h4, s4, v4, e4, o4, m4, f4⟩ := X.2.2 (hS h2 123 (cI 0 29 (fun j => if j = 3 then A' 3 + 1 else A' j))) (tE r.2) _ _ _ rb.2 (show MoA (hS h2 123 (cI 0 29 (fun j => if j = 3 then A' 3 + 1 else A' j))) _ _ _ _ _ _ _ _ from (hS_ne (by omega)).trans o2) (f3.at (f2.at (f1.at Gg (by decide)) (by decide)) (by decide))
          have A4 : h4.1 123 = cI 0 29 (fun j => if j = 3 then A' 3 + 1 else A' j) := f4.at hS_same (by decide)
          have iteq := rdB_it e
          obtain ⟨b0, b1, b2, b3, b4, b5⟩ := hA1
          have hA4 : MDa (fun j => if j = 3 then A' 3 + 1 else A' j) (r.1.1, r.1.2.1, r.1.2.2.1, r.1.2.2.2 + 1) := by
            refine ⟨(if_neg (by omega)).trans b0, (if_neg (by omega)).trans b1, (if_neg (by omega)).trans b2, ?_, (if_neg (by omega)).trans b4, fun j hj => ?_⟩
            · show (if (3 : Nat) = 3 then A' 3 + 1 else A' 3) = _
              rw [if_pos rfl, b3]; rfl
            · have bb := b5 j hj
              exact ⟨(if_neg (by omega)).trans bb.1, (if_neg (by omega)).trans bb.2.1, (if_neg (by omega)).trans bb.2.2.1, (if_neg (by omega)).trans bb.2.2.2⟩
          obtain ⟨h5, z12, z13, z15, A5, A51, f5, Q⟩ := ih (tE r.2) h4 (r.1.1, r.1.2.1, r.1.2.2.1, r.1.2.2.2 + 1) _ (by omega) rb.2 (by simp only; omega) okI.2.2.1 ⟨s4, v4, o4, m4⟩ (f4.at (f3.at (f2.at (f1.at Gg (by decide)) (by decide)) (by decide)) (by decide)) A4 hA4
          have st : gv mMod_reads 45 [vR 120, l1] [] h = gv mMod_reads 45 [vR 120, l1] [] h4 := by
            rw [e_Mod_reads_45]
            simp (disch := omega) only [e_Mod_reads_0, e_Mod_reads_1, e_Mod_reads_2, e_Mod_reads_3, e_Mod_reads_5, e_Mod_reads_8, e_Mod_reads_9, e_Mod_reads_12, e_Mod_reads_13, e_Mod_reads_14, e_Mod_reads_15, e_Mod_reads_18, e_Mod_reads_21, e_Mod_reads_22, e_Mod_reads_25, e_Mod_reads_26, e_Mod_reads_28, e_Mod_reads_29, e_Mod_reads_30, e_Mod_reads_33, e_Mod_reads_34, e_Mod_reads_35, e_Mod_reads_36, e_Mod_reads_37, e_Mod_reads_38, e_Mod_reads_41, e_Mod_reads_42, e_Mod_reads_46, e_Mod_reads_49, e_Mod_reads_49b, e_Mod_reads_52, e_Mod_reads_53, e_Mod_reads_56, e_Mod_reads_56b, e_Mod_reads_59, e_Mod_reads_60, e_Mod_reads_61, e_Mod_reads_62, e_Mod_reads_65, e_Mod_reads_66, e_Mod_reads_69, e_Mod_reads_70, e_Mod_reads_73, e_Mod_reads_74, e_Mod_reads_75, e_Mod_reads_76, e_Mod_reads_79, e_Mod_reads_80, e_Mod_reads_81, e_Mod_reads_82, e_Mod_reads_83, e_Mod_reads_84, e_Mod_reads_85, e_Mod_reads_86, e_Mod_reads_89, e_Mod_reads_92, e_Mod_reads_93, alk_in, ask_in, blk_in, bsk_in, qlk_in, ack_in, rcv_in, rcA_in, bk_i, bk_l, bk_v, hS_same, hS_ne, hS_hS, hS_2, am_10, am_01, am_00, if_true, if_false, gf_12_0, pf_12_0, gf_12_1, pf_12_1, gf_12_2, pf_12_2, gf_12_3, pf_12_3, gf_12_4, pf_12_4, gf_12_5, pf_12_5, gf_12_6, pf_12_6, gf_12_7, pf_12_7, gf_12_8, pf_12_8, gf_12_9, pf_12_9, gf_12_10, pf_12_10, gf_12_11, pf_12_11, gf_12_12, pf_12_12, gf_12_13, pf_12_13, gf_12_14, pf_12_14, gf_12_15, pf_12_15, gf_12_16, pf_12_16, gf_12_17, pf_12_17, gf_12_18, pf_12_18, gf_12_19, pf_12_19, gf_12_20, pf_12_20, oo', e1, o1', e2, o2', A2, tl_3, e4]
            rw [if_neg s0]
          refine ⟨h5, z12, z13, z15, A5, A51, (((f1.tr (f2.wd (by decide))).tr f3).tr (f4.wd (by decide))).tr f5, ?_⟩
          rw [st]
          exact Q
        · rw [if_neg b]
          simp only
          have s3 : ¬ s2 = 3 := by omega
          refine ⟨h2, _, _, _, _, f2.at A11 (by decide), f1.tr (f2.wd (by decide)), ?_, o2⟩
          rw [e_Mod_reads_45]
          simp (disch := omega) only [e_Mod_reads_0, e_Mod_reads_1, e_Mod_reads_2, e_Mod_reads_3, e_Mod_reads_5, e_Mod_reads_8, e_Mod_reads_9, e_Mod_reads_12, e_Mod_reads_13, e_Mod_reads_14, e_Mod_reads_15, e_Mod_reads_18, e_Mod_reads_21, e_Mod_reads_22, e_Mod_reads_25, e_Mod_reads_26, e_Mod_reads_28, e_Mod_reads_29, e_Mod_reads_30, e_Mod_reads_33, e_Mod_reads_34, e_Mod_reads_35, e_Mod_reads_36, e_Mod_reads_37, e_Mod_reads_38, e_Mod_reads_41, e_Mod_reads_42, e_Mod_reads_46, e_Mod_reads_49, e_Mod_reads_49b, e_Mod_reads_52, e_Mod_reads_53, e_Mod_reads_56, e_Mod_reads_56b, e_Mod_reads_59, e_Mod_reads_60, e_Mod_reads_61, e_Mod_reads_62, e_Mod_reads_65, e_Mod_reads_66, e_Mod_reads_69, e_Mod_reads_70, e_Mod_reads_73, e_Mod_reads_74, e_Mod_reads_76, e_Mod_reads_79, e_Mod_reads_80, e_Mod_reads_81, e_Mod_reads_82, e_Mod_reads_83, e_Mod_reads_84, e_Mod_reads_85, e_Mod_reads_86, e_Mod_reads_89, e_Mod_reads_92, e_Mod_reads_93, alk_in, ask_in, blk_in, bsk_in, qlk_in, ack_in, rcv_in, rcA_in, bk_i, bk_l, bk_v, hS_same, hS_ne, hS_hS, hS_2, am_10, am_01, am_00, if_true, if_false, gf_12_0, pf_12_0, gf_12_1, pf_12_1, gf_12_2, pf_12_2, gf_12_3, pf_12_3, gf_12_4, pf_12_4, gf_12_5, pf_12_5, gf_12_6, pf_12_6, gf_12_7, pf_12_7, gf_12_8, pf_12_8, gf_12_9, pf_12_9, gf_12_10, pf_12_10, gf_12_11, pf_12_11, gf_12_12, pf_12_12, gf_12_13, pf_12_13, gf_12_14, pf_12_14, gf_12_15, pf_12_15, gf_12_16, pf_12_16, gf_12_17, pf_12_17, gf_12_18, pf_12_18, gf_12_19, pf_12_19, gf_12_20, pf_12_20, oo', e1, o1', e2, o2']
          rw [if_neg s0, if_neg s3]
theorem lm_zero {x2 x12 x13 x14 x15 : am_V} : ∀ (d k : Nat) (h : am_H) (A : Nat → Int), k + d = 29 → MoA h x0 x2 x7 x11 x12 x13 x14 x15 → h.1 123 = cI 0 29 A → (∀ j, j < k → A j = 0) → ∃ h' A', gv mMod_reads 2 [vR 120, vI (k : Int)] [] h = gv mMod_reads 21 [vR 120, vI 29] [] h' ∧ h'.1 123 = cI 0 29 A' ∧ (∀ j, j < 29 → A' j = 0) ∧ FE [123] h h' := by
  intro d
  induction d with
  | zero =>
    intro k h A hk o A1 H
    have : k = 29 := by omega
    subst this
    refine ⟨h, A, ?_, A1, H, FE.rf⟩
    rw [e_Mod_reads_2]
    simp (disch := omega) only [e_Mod_reads_0, e_Mod_reads_1, e_Mod_reads_3, e_Mod_reads_5, e_Mod_reads_8, e_Mod_reads_9, e_Mod_reads_12, e_Mod_reads_13, e_Mod_reads_14, e_Mod_reads_15, e_Mod_reads_18, e_Mod_reads_22, e_Mod_reads_25, e_Mod_reads_26, e_Mod_reads_28, e_Mod_reads_29, e_Mod_reads_30, e_Mod_reads_33, e_Mod_reads_34, e_Mod_reads_35, e_Mod_reads_36, e_Mod_reads_37, e_Mod_reads_38, e_Mod_reads_41, e_Mod_reads_42, e_Mod_reads_45, e_Mod_reads_46, e_Mod_reads_49, e_Mod_reads_49b, e_Mod_reads_52, e_Mod_reads_53, e_Mod_reads_56, e_Mod_reads_56b, e_Mod_reads_59, e_Mod_reads_60, e_Mod_reads_61, e_Mod_reads_62, e_Mod_reads_65, e_Mod_reads_66, e_Mod_reads_69, e_Mod_reads_70, e_Mod_reads_73, e_Mod_reads_74, e_Mod_reads_75, e_Mod_reads_76, e_Mod_reads_79, e_Mod_reads_80, e_Mod_reads_81, e_Mod_reads_82, e_Mod_reads_83, e_Mod_reads_84, e_Mod_reads_85, e_Mod_reads_86, e_Mod_reads_89, e_Mod_reads_92, e_Mod_reads_93, alk_in, ask_in, blk_in, bsk_in, qlk_in, ack_in, rcv_in, rcA_in, bk_i, bk_l, bk_v, hS_same, hS_ne, hS_hS, hS_2, am_10, am_01, am_00, if_true, if_false]
    rw [if_neg (by omega)]; rfl
  | succ d ih =>
    intro k h A hk o A1 H
    have f1 : FE [123] h (hS h 123 (cI 0 29 (fun j => if j = k then 0 else A j))) := FE.st (by decide)
    obtain ⟨h2, A', e2, A2, H2, f2⟩ := ih (k + 1) (hS h 123 (cI 0 29 (fun j => if j = k then 0 else A j))) _ (by omega) (f1.at o (by decide)) hS_same (fun j hj => by
      by_cases q : j = k
      · exact if_pos q
      · exact (if_neg q).trans (H j (by omega)))
    refine ⟨h2, A', ?_, A2, H2, f1.tr f2⟩
    unfold MoA at o
    rw [e_Mod_reads_2, ← e2]
    simp (disch := omega) only [e_Mod_reads_0, e_Mod_reads_1, e_Mod_reads_3, e_Mod_reads_5, e_Mod_reads_8, e_Mod_reads_9, e_Mod_reads_12, e_Mod_reads_13, e_Mod_reads_14, e_Mod_reads_15, e_Mod_reads_18, e_Mod_reads_22, e_Mod_reads_25, e_Mod_reads_26, e_Mod_reads_28, e_Mod_reads_29, e_Mod_reads_30, e_Mod_reads_33, e_Mod_reads_34, e_Mod_reads_35, e_Mod_reads_36, e_Mod_reads_37, e_Mod_reads_38, e_Mod_reads_41, e_Mod_reads_42, e_Mod_reads_45, e_Mod_reads_46, e_Mod_reads_49, e_Mod_reads_49b, e_Mod_reads_52, e_Mod_reads_53, e_Mod_reads_56, e_Mod_reads_56b, e_Mod_reads_59, e_Mod_reads_60, e_Mod_reads_61, e_Mod_reads_62, e_Mod_reads_65, e_Mod_reads_66, e_Mod_reads_69, e_Mod_reads_70, e_Mod_reads_73, e_Mod_reads_74, e_Mod_reads_75, e_Mod_reads_76, e_Mod_reads_79, e_Mod_reads_80, e_Mod_reads_81, e_Mod_reads_82, e_Mod_reads_83, e_Mod_reads_84, e_Mod_reads_85, e_Mod_reads_86, e_Mod_reads_89, e_Mod_reads_92, e_Mod_reads_93, alk_in, ask_in, blk_in, bsk_in, qlk_in, ack_in, rcv_in, rcA_in, bk_i, bk_l, bk_v, hS_same, hS_ne, hS_hS, hS_2, am_10, am_01, am_00, if_true, if_false, gf_12_0, pf_12_0, gf_12_1, pf_12_1, gf_12_2, pf_12_2, gf_12_3, pf_12_3, gf_12_4, pf_12_4, gf_12_5, pf_12_5, gf_12_6, pf_12_6, gf_12_7, pf_12_7, gf_12_8, pf_12_8, gf_12_9, pf_12_9, gf_12_10, pf_12_10, gf_12_11, pf_12_11, gf_12_12, pf_12_12, gf_12_13, pf_12_13, gf_12_14, pf_12_14, gf_12_15, pf_12_15, gf_12_16, pf_12_16, gf_12_17, pf_12_17, gf_12_18, pf_12_18, gf_12_19, pf_12_19, gf_12_20, pf_12_20, o, A1, Int.toNat_natCast]
    rw [if_pos (by omega)]; rfl
theorem m_reads {h : am_H} {A : Nat → Int} {x12 x13 x14 x15 : am_V} (X : MxG L g x0 x7 x11 tE tS tC tN) (o : MoA h x0 (vI (L : Int)) x7 x11 x12 x13 x14 x15) (Gg : h.1 121 = cI 0 120 g) (A1 : h.1 123 = cI 0 29 A) : ∃ h' x12 x13 x15 A', h'.1 123 = cI 0 29 A' ∧ FE [120, 123] h h' ∧ match rdA tE tS tC tN (L + 1) D0 0 with
    | .inl q => ev mMod_reads [vR 120] h = some (some (vI 0), h') ∧ MoA h' x0 (vI (L : Int)) x7 x11 x12 x13 (vI (q : Int)) x15
    | .inr D' => ev mMod_reads [vR 120] h = some (some (vI 1), h') ∧ (∃ x14, MoA h' x0 (vI (L : Int)) x7 x11 x12 x13 x14 x15) ∧ MDa A' D' ∧ DrO D' := by
  obtain ⟨h1, A', e1, A2, H2, f1⟩ := lm_zero 29 0 h A (by omega) o A1 (fun j hj => by omega)
  have o1 := f1.at o (by decide)
  have f2 : FE [120, 123] h1 (hS (hS h1 123 (cI 0 29 (fun j => if j = 2 then 1 else if j = 0 then 6 else A' j))) 120 (cO 12 [x0, vR 121, vI (L : Int), vR 122, vR 123, vR 124, vR 125, x7, vR 126, vR 127, vR 128, x11, vI 0, x13, x14, x15, vR 129, vR 130, vR 131, vR 132, vR 133])) := (FE.st (by decide)).tr (FE.st (by decide))
  obtain ⟨h3, s, v, e3, o3, m3, f3⟩ := X.2.2 (hS (hS h1 123 (cI 0 29 (fun j => if j = 2 then 1 else if j = 0 then 6 else A' j))) 120 (cO 12 [x0, vR 121, vI (L : Int), vR 122, vR 123, vR 124, vR 125, x7, vR 126, vR 127, vR 128, x11, vI 0, x13, x14, x15, vR 129, vR 130, vR 131, vR 132, vR 133])) 0 _ _ _ (by omega) hS_same (f2.at (f1.at Gg (by decide)) (by decide))
  have A3 : h3.1 123 = cI 0 29 (fun j => if j = 2 then 1 else if j = 0 then 6 else A' j) := f3.at (by rw [hS_ne (by omega)]; exact hS_same) (by decide)
  have hA3 : MDa (fun j => if j = 2 then 1 else if j = 0 then 6 else A' j) D0 := by
    refine ⟨rfl, ?_, rfl, ?_, ?_, fun j hj => absurd hj (Nat.not_lt_zero _)⟩
    · exact (if_neg (by omega)).trans ((if_neg (by omega)).trans (H2 1 (by omega)))
    · exact (if_neg (by omega)).trans ((if_neg (by omega)).trans (H2 3 (by omega)))
    · exact (if_neg (by omega)).trans ((if_neg (by omega)).trans (H2 4 (by omega)))
  obtain ⟨h4, z12, z13, z15, A4, A41, f4, Q⟩ := lm_reads (l1 := vI 29) X (L + 1) 0 h3 D0 _ (by omega) (by omega) (by decide) D0_ok ⟨s, v, o3, m3⟩ (f3.at (f2.at (f1.at Gg (by decide)) (by decide)) (by decide)) A3 hA3
  have st : ev mMod_reads [vR 120] h = gv mMod_reads 45 [vR 120, vI 29] [] h3 := by
    have o1' := o1
    unfold MoA at o1'
    rw [ev_Mod_reads]
    simp (disch := omega) only [e_Mod_reads_0, e_Mod_reads_1]
    refine Eq.trans e1 ?_
    simp (disch := omega) only [e_Mod_reads_21, e_Mod_reads_22, e_Mod_reads_25, e_Mod_reads_26, e_Mod_reads_28, e_Mod_reads_29, e_Mod_reads_30, e_Mod_reads_33, e_Mod_reads_34, e_Mod_reads_35, e_Mod_reads_36, e_Mod_reads_37, e_Mod_reads_38, e_Mod_reads_41, e_Mod_reads_42, alk_in, ask_in, blk_in, bsk_in, qlk_in, ack_in, rcv_in, rcA_in, bk_i, bk_l, bk_v, hS_same, hS_ne, hS_hS, hS_2, am_10, am_01, am_00, if_true, if_false, gf_12_0, pf_12_0, gf_12_1, pf_12_1, gf_12_2, pf_12_2, gf_12_3, pf_12_3, gf_12_4, pf_12_4, gf_12_5, pf_12_5, gf_12_6, pf_12_6, gf_12_7, pf_12_7, gf_12_8, pf_12_8, gf_12_9, pf_12_9, gf_12_10, pf_12_10, gf_12_11, pf_12_11, gf_12_12, pf_12_12, gf_12_13, pf_12_13, gf_12_14, pf_12_14, gf_12_15, pf_12_15, gf_12_16, pf_12_16, gf_12_17, pf_12_17, gf_12_18, pf_12_18, gf_12_19, pf_12_19, gf_12_20, pf_12_20, o1', A2, tl_0, tl_2, e3]
  refine ⟨h4, z12, z13, z15, A4, A41, ((f1.wd (by decide)).tr f2).tr ((f3.wd (by decide)).tr f4), ?_⟩
  rw [st]
  exact Q
end GaolM
