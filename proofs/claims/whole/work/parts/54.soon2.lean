/-! putsOn, carry: the class's answers, and the model -/
section Soon2
variable {h : am_H} {G : Gl} {T : Tm} {lo pc : Int}
theorem sn2_s {c : Nat → Int} (hc : CR c) (k : Nat) : sn2 c (k + 1) = if ¬ c k = -9 ∧ c k < (sn c k).2 then c k else sn2 c k := by
  have es : sn c (k + 1) = if ¬ c k = -9 ∧ c k < (sn c k).2 then ((k : Int), c k) else sn c k := rfl
  unfold sn2
  rw [es]
  by_cases q : ¬ c k = -9 ∧ c k < (sn c k).2
  · rw [if_pos q, if_pos q]; simp only; rw [if_neg (by omega)]
  · rw [if_neg q, if_neg q]
theorem lk_carry {m : Nat} {w : Int} (hr : w = 0 ∨ w = 1) (hm : m < G.1) (hi : ¬ T.2.1 m = -9) (hw : WT G T) : ∀ (d k : Nat) (h : am_H) (x6 : am_V), k + d = G.2.1 → CeO h lo pc → RT h 10 G T → ScSh h 16 → ∃ h', gv mCell_carry 44 [vR 1, vI (m : Int), vI w, vI (sn (candC G T m) k).1, vI (sn2 (candC G T m) k), vI (k : Int), x6] [] h = some (some (vI (aSn w (candC G T m) G.2.1)), h') ∧ ScSh h' 16 ∧ Fr 16 22 h h' := by
  have hc9 := hw.2.2.1
  intro d
  induction d with
  | zero =>
    intro k h x6 hk O S Q
    have : k = G.2.1 := by omega
    subst this
    refine ⟨h, ?_, Q, Fr.rf⟩
    have ob := S.ob
    unfold CeO at O
    rw [e_Cell_carry_44]
    unfold aSn
    simp (disch := omega) only [e_Cell_carry_0, e_Cell_carry_1, e_Cell_carry_4, e_Cell_carry_5, e_Cell_carry_8, e_Cell_carry_8b, e_Cell_carry_11, e_Cell_carry_12, e_Cell_carry_15, e_Cell_carry_15b, e_Cell_carry_18, e_Cell_carry_19, e_Cell_carry_20, e_Cell_carry_21, e_Cell_carry_24, e_Cell_carry_25, e_Cell_carry_28, e_Cell_carry_28b, e_Cell_carry_31, e_Cell_carry_33, e_Cell_carry_34, e_Cell_carry_36, e_Cell_carry_37, e_Cell_carry_39, e_Cell_carry_41, e_Cell_carry_42, e_Cell_carry_46, e_Cell_carry_47, e_Cell_carry_50, e_Cell_carry_53, e_Cell_carry_56, e_Cell_carry_57, e_Cell_carry_58, e_Cell_carry_60, e_Cell_carry_63, e_Cell_carry_65, e_Cell_carry_67, e_Cell_carry_69, e_Cell_carry_72, e_Cell_carry_72b, e_Cell_carry_75, e_Cell_carry_77, e_Cell_carry_78, e_Cell_carry_80, e_Cell_carry_82, e_Cell_carry_85, e_Cell_carry_88, e_Cell_carry_89, e_Cell_carry_89b, e_Cell_carry_92, e_Cell_carry_93, e_Cell_carry_96, e_Cell_carry_98, alk_in, ask_in, blk_in, bsk_in, qlk_in, ack_in, rcv_in, rcA_in, bk_i, bk_l, bk_v, hS_same, hS_ne, hS_hS, hS_2, am_10, am_01, am_00, if_true, if_false, gf_5_0, pf_5_0, gf_5_1, pf_5_1, gf_5_2, pf_5_2, gf_5_3, pf_5_3, gf_5_4, pf_5_4, gf_5_5, pf_5_5, gf_5_6, pf_5_6, gf_5_7, pf_5_7, gf_11_0, pf_11_0, gf_11_1, pf_11_1, gf_11_2, pf_11_2, gf_11_3, pf_11_3, gf_11_4, pf_11_4, gf_11_5, pf_11_5, gf_11_6, pf_11_6, gf_11_7, pf_11_7, gf_11_8, pf_11_8, gf_11_9, pf_11_9, gf_11_10, pf_11_10, gf_11_11, pf_11_11, O, ob]
    rw [if_neg (by omega)]
    rcases hr with z | z <;> subst z <;> simp
  | succ d ih =>
    intro k h x6 hk O S Q
    obtain ⟨h1, e1, Q1, f1⟩ := k_ifMoved O S hw Q hm hi (s := k) (by omega)
    have cr := candC_r G T m
    obtain ⟨h2, e2, Q2, f2⟩ := ih (k + 1) h1 (vI (candC G T m k)) (by omega) ((f1.at (by omega)).trans O) (S.on (fun x hx => f1.at (by omega))) Q1
    refine ⟨h2, ?_, Q2, f1.tr f2⟩
    have hn := hw.1
    have ob := S.ob
    have b1 := sn_b cr k
    have b2 := sn2_b cr k
    have b3 := cr k
    have b4 := sn_step cr k
    have c2 := c_isSooner (h := h1) (x := candC G T m k) (y := sn2 (candC G T m) k) (by unfold rg32; omega) (by unfold rg32; omega)
    have es : sn (candC G T m) (k + 1) = if ¬ candC G T m k = -9 ∧ candC G T m k < (sn (candC G T m) k).2 then ((k : Int), candC G T m k) else sn (candC G T m) k := rfl
    unfold CeO at O
    rw [e_Cell_carry_44, ← e2, es, sn2_s cr]
    by_cases q : ¬ candC G T m k = -9 ∧ candC G T m k < (sn (candC G T m) k).2
    · rw [if_pos (b4.mpr q)] at c2
      rw [if_pos q, if_pos q]
      simp (disch := omega) only [e_Cell_carry_0, e_Cell_carry_1, e_Cell_carry_4, e_Cell_carry_5, e_Cell_carry_8, e_Cell_carry_8b, e_Cell_carry_11, e_Cell_carry_12, e_Cell_carry_15, e_Cell_carry_15b, e_Cell_carry_18, e_Cell_carry_19, e_Cell_carry_20, e_Cell_carry_21, e_Cell_carry_24, e_Cell_carry_25, e_Cell_carry_28, e_Cell_carry_28b, e_Cell_carry_31, e_Cell_carry_33, e_Cell_carry_34, e_Cell_carry_36, e_Cell_carry_37, e_Cell_carry_39, e_Cell_carry_41, e_Cell_carry_42, e_Cell_carry_46, e_Cell_carry_47, e_Cell_carry_50, e_Cell_carry_53, e_Cell_carry_56, e_Cell_carry_57, e_Cell_carry_58, e_Cell_carry_60, e_Cell_carry_63, e_Cell_carry_65, e_Cell_carry_67, e_Cell_carry_69, e_Cell_carry_72, e_Cell_carry_72b, e_Cell_carry_75, e_Cell_carry_77, e_Cell_carry_78, e_Cell_carry_80, e_Cell_carry_82, e_Cell_carry_85, e_Cell_carry_88, e_Cell_carry_89, e_Cell_carry_89b, e_Cell_carry_92, e_Cell_carry_93, e_Cell_carry_96, e_Cell_carry_98, alk_in, ask_in, blk_in, bsk_in, qlk_in, ack_in, rcv_in, rcA_in, bk_i, bk_l, bk_v, hS_same, hS_ne, hS_hS, hS_2, am_10, am_01, am_00, if_true, if_false, gf_5_0, pf_5_0, gf_5_1, pf_5_1, gf_5_2, pf_5_2, gf_5_3, pf_5_3, gf_5_4, pf_5_4, gf_5_5, pf_5_5, gf_5_6, pf_5_6, gf_5_7, pf_5_7, gf_11_0, pf_11_0, gf_11_1, pf_11_1, gf_11_2, pf_11_2, gf_11_3, pf_11_3, gf_11_4, pf_11_4, gf_11_5, pf_11_5, gf_11_6, pf_11_6, gf_11_7, pf_11_7, gf_11_8, pf_11_8, gf_11_9, pf_11_9, gf_11_10, pf_11_10, gf_11_11, pf_11_11, O, ob, e1, c2]
      rw [if_pos (by omega)]; rfl
    · rw [if_neg (fun z => q (b4.mp z))] at c2
      rw [if_neg q, if_neg q]
      simp (disch := omega) only [e_Cell_carry_0, e_Cell_carry_1, e_Cell_carry_4, e_Cell_carry_5, e_Cell_carry_8, e_Cell_carry_8b, e_Cell_carry_11, e_Cell_carry_12, e_Cell_carry_15, e_Cell_carry_15b, e_Cell_carry_18, e_Cell_carry_19, e_Cell_carry_20, e_Cell_carry_21, e_Cell_carry_24, e_Cell_carry_25, e_Cell_carry_28, e_Cell_carry_28b, e_Cell_carry_31, e_Cell_carry_33, e_Cell_carry_34, e_Cell_carry_36, e_Cell_carry_37, e_Cell_carry_39, e_Cell_carry_41, e_Cell_carry_42, e_Cell_carry_46, e_Cell_carry_47, e_Cell_carry_50, e_Cell_carry_53, e_Cell_carry_56, e_Cell_carry_57, e_Cell_carry_58, e_Cell_carry_60, e_Cell_carry_63, e_Cell_carry_65, e_Cell_carry_67, e_Cell_carry_69, e_Cell_carry_72, e_Cell_carry_72b, e_Cell_carry_75, e_Cell_carry_77, e_Cell_carry_78, e_Cell_carry_80, e_Cell_carry_82, e_Cell_carry_85, e_Cell_carry_88, e_Cell_carry_89, e_Cell_carry_89b, e_Cell_carry_92, e_Cell_carry_93, e_Cell_carry_96, e_Cell_carry_98, alk_in, ask_in, blk_in, bsk_in, qlk_in, ack_in, rcv_in, rcA_in, bk_i, bk_l, bk_v, hS_same, hS_ne, hS_hS, hS_2, am_10, am_01, am_00, if_true, if_false, gf_5_0, pf_5_0, gf_5_1, pf_5_1, gf_5_2, pf_5_2, gf_5_3, pf_5_3, gf_5_4, pf_5_4, gf_5_5, pf_5_5, gf_5_6, pf_5_6, gf_5_7, pf_5_7, gf_11_0, pf_11_0, gf_11_1, pf_11_1, gf_11_2, pf_11_2, gf_11_3, pf_11_3, gf_11_4, pf_11_4, gf_11_5, pf_11_5, gf_11_6, pf_11_6, gf_11_7, pf_11_7, gf_11_8, pf_11_8, gf_11_9, pf_11_9, gf_11_10, pf_11_10, gf_11_11, pf_11_11, O, ob, e1, c2]
      rw [if_pos (by omega)]; rfl
theorem k_putsOn (O : CeO h lo pc) (S : RT h 10 G T) (hw : WT G T) (Q : ScSh h 16) {m w : Int} (hm : rg32 m) (hr : rg32 w) : ∃ h', ev mCell_putsOn [vR 1, vI m, vI w] h = some (some (vI (aPut G T m w)), h') ∧ ScSh h' 16 ∧ Fr 16 22 h h' := by
  have c2 := c_isWhich (h := h) hr
  unfold rg32 at hm
  have S' : RepS h 10 G.1 G.2.1 T.1 T.2.1 T.2.2.1 G.2.2.2 T.2.2.2 := S
  have c1 := d_hasMan S' hm hw.1
  have ob := S.ob
  have O' := O
  unfold CeO at O
  unfold aPut
  by_cases q : (0 ≤ m ∧ m < G.1) ∧ (w = 0 ∨ w = 1)
  · rw [if_pos q.1] at c1
    rw [if_pos q.2] at c2
    rw [if_pos q]
    obtain ⟨m, rfl⟩ : ∃ k : Nat, m = (k : Int) := ⟨m.toNat, by omega⟩
    have hmn : m < G.1 := by omega
    have c3 := d_isIn S' hw hmn
    rw [Int.toNat_natCast]
    by_cases y : T.2.1 m = -9
    · rw [if_pos y] at c3 ⊢
      refine ⟨h, ?_, Q, Fr.rf⟩
      rw [ev_Cell_putsOn]
      simp (disch := omega) only [e_Cell_putsOn_0, e_Cell_putsOn_1, e_Cell_putsOn_4, e_Cell_putsOn_5, e_Cell_putsOn_8, e_Cell_putsOn_8b, e_Cell_putsOn_11, e_Cell_putsOn_12, e_Cell_putsOn_15, e_Cell_putsOn_15b, e_Cell_putsOn_18, e_Cell_putsOn_19, e_Cell_putsOn_20, e_Cell_putsOn_21, e_Cell_putsOn_24, e_Cell_putsOn_25, e_Cell_putsOn_28, e_Cell_putsOn_28b, e_Cell_putsOn_31, e_Cell_putsOn_33, e_Cell_putsOn_34, e_Cell_putsOn_36, e_Cell_putsOn_37, e_Cell_putsOn_39, e_Cell_putsOn_41, e_Cell_putsOn_42, e_Cell_putsOn_46, e_Cell_putsOn_47, e_Cell_putsOn_50, e_Cell_putsOn_51, e_Cell_putsOn_52, e_Cell_putsOn_54, e_Cell_putsOn_57, e_Cell_putsOn_59, e_Cell_putsOn_61, e_Cell_putsOn_63, e_Cell_putsOn_66, e_Cell_putsOn_66b, e_Cell_putsOn_69, e_Cell_putsOn_71, e_Cell_putsOn_72, e_Cell_putsOn_74, e_Cell_putsOn_76, e_Cell_putsOn_79, e_Cell_putsOn_82, e_Cell_putsOn_83, e_Cell_putsOn_83b, e_Cell_putsOn_86, e_Cell_putsOn_87, e_Cell_putsOn_90, e_Cell_putsOn_92, alk_in, ask_in, blk_in, bsk_in, qlk_in, ack_in, rcv_in, rcA_in, bk_i, bk_l, bk_v, hS_same, hS_ne, hS_hS, hS_2, am_10, am_01, am_00, if_true, if_false, gf_5_0, pf_5_0, gf_5_1, pf_5_1, gf_5_2, pf_5_2, gf_5_3, pf_5_3, gf_5_4, pf_5_4, gf_5_5, pf_5_5, gf_5_6, pf_5_6, gf_5_7, pf_5_7, gf_11_0, pf_11_0, gf_11_1, pf_11_1, gf_11_2, pf_11_2, gf_11_3, pf_11_3, gf_11_4, pf_11_4, gf_11_5, pf_11_5, gf_11_6, pf_11_6, gf_11_7, pf_11_7, gf_11_8, pf_11_8, gf_11_9, pf_11_9, gf_11_10, pf_11_10, gf_11_11, pf_11_11, O, ob, c1, c2, c3]
    · rw [if_neg y] at c3 ⊢
      obtain ⟨h1, e1, Q1, f1⟩ := lk_putsOn q.2 hmn hw 5 0 h vU (by omega) O' S Q
      refine ⟨h1, ?_, Q1, f1⟩
      rw [ev_Cell_putsOn]
      simp (disch := omega) only [e_Cell_putsOn_0, e_Cell_putsOn_1, e_Cell_putsOn_4, e_Cell_putsOn_5, e_Cell_putsOn_8, e_Cell_putsOn_8b, e_Cell_putsOn_11, e_Cell_putsOn_12, e_Cell_putsOn_15, e_Cell_putsOn_15b, e_Cell_putsOn_18, e_Cell_putsOn_19, e_Cell_putsOn_20, e_Cell_putsOn_21, e_Cell_putsOn_24, e_Cell_putsOn_25, e_Cell_putsOn_28, e_Cell_putsOn_28b, e_Cell_putsOn_31, e_Cell_putsOn_33, e_Cell_putsOn_34, e_Cell_putsOn_36, e_Cell_putsOn_37, e_Cell_putsOn_39, e_Cell_putsOn_41, e_Cell_putsOn_42, e_Cell_putsOn_46, e_Cell_putsOn_47, e_Cell_putsOn_50, e_Cell_putsOn_51, e_Cell_putsOn_52, e_Cell_putsOn_54, e_Cell_putsOn_57, e_Cell_putsOn_59, e_Cell_putsOn_61, e_Cell_putsOn_63, e_Cell_putsOn_66, e_Cell_putsOn_66b, e_Cell_putsOn_69, e_Cell_putsOn_71, e_Cell_putsOn_72, e_Cell_putsOn_74, e_Cell_putsOn_76, e_Cell_putsOn_79, e_Cell_putsOn_82, e_Cell_putsOn_83, e_Cell_putsOn_83b, e_Cell_putsOn_86, e_Cell_putsOn_87, e_Cell_putsOn_90, e_Cell_putsOn_92, alk_in, ask_in, blk_in, bsk_in, qlk_in, ack_in, rcv_in, rcA_in, bk_i, bk_l, bk_v, hS_same, hS_ne, hS_hS, hS_2, am_10, am_01, am_00, if_true, if_false, gf_5_0, pf_5_0, gf_5_1, pf_5_1, gf_5_2, pf_5_2, gf_5_3, pf_5_3, gf_5_4, pf_5_4, gf_5_5, pf_5_5, gf_5_6, pf_5_6, gf_5_7, pf_5_7, gf_11_0, pf_11_0, gf_11_1, pf_11_1, gf_11_2, pf_11_2, gf_11_3, pf_11_3, gf_11_4, pf_11_4, gf_11_5, pf_11_5, gf_11_6, pf_11_6, gf_11_7, pf_11_7, gf_11_8, pf_11_8, gf_11_9, pf_11_9, gf_11_10, pf_11_10, gf_11_11, pf_11_11, O, ob, c1, c2, c3]
      exact e1
  · rw [if_neg q]
    refine ⟨h, ?_, Q, Fr.rf⟩
    rw [ev_Cell_putsOn]
    by_cases y : 0 ≤ m ∧ m < G.1
    · rw [if_pos y] at c1
      rw [if_neg (fun z => q ⟨y, z⟩)] at c2
      simp (disch := omega) only [e_Cell_putsOn_0, e_Cell_putsOn_1, e_Cell_putsOn_4, e_Cell_putsOn_5, e_Cell_putsOn_8, e_Cell_putsOn_8b, e_Cell_putsOn_11, e_Cell_putsOn_12, e_Cell_putsOn_15, e_Cell_putsOn_15b, e_Cell_putsOn_18, e_Cell_putsOn_19, e_Cell_putsOn_20, e_Cell_putsOn_21, e_Cell_putsOn_24, e_Cell_putsOn_25, e_Cell_putsOn_28, e_Cell_putsOn_28b, e_Cell_putsOn_31, e_Cell_putsOn_33, e_Cell_putsOn_34, e_Cell_putsOn_36, e_Cell_putsOn_37, e_Cell_putsOn_39, e_Cell_putsOn_41, e_Cell_putsOn_42, e_Cell_putsOn_46, e_Cell_putsOn_47, e_Cell_putsOn_50, e_Cell_putsOn_51, e_Cell_putsOn_52, e_Cell_putsOn_54, e_Cell_putsOn_57, e_Cell_putsOn_59, e_Cell_putsOn_61, e_Cell_putsOn_63, e_Cell_putsOn_66, e_Cell_putsOn_66b, e_Cell_putsOn_69, e_Cell_putsOn_71, e_Cell_putsOn_72, e_Cell_putsOn_74, e_Cell_putsOn_76, e_Cell_putsOn_79, e_Cell_putsOn_82, e_Cell_putsOn_83, e_Cell_putsOn_83b, e_Cell_putsOn_86, e_Cell_putsOn_87, e_Cell_putsOn_90, e_Cell_putsOn_92, alk_in, ask_in, blk_in, bsk_in, qlk_in, ack_in, rcv_in, rcA_in, bk_i, bk_l, bk_v, hS_same, hS_ne, hS_hS, hS_2, am_10, am_01, am_00, if_true, if_false, gf_5_0, pf_5_0, gf_5_1, pf_5_1, gf_5_2, pf_5_2, gf_5_3, pf_5_3, gf_5_4, pf_5_4, gf_5_5, pf_5_5, gf_5_6, pf_5_6, gf_5_7, pf_5_7, gf_11_0, pf_11_0, gf_11_1, pf_11_1, gf_11_2, pf_11_2, gf_11_3, pf_11_3, gf_11_4, pf_11_4, gf_11_5, pf_11_5, gf_11_6, pf_11_6, gf_11_7, pf_11_7, gf_11_8, pf_11_8, gf_11_9, pf_11_9, gf_11_10, pf_11_10, gf_11_11, pf_11_11, O, ob, c1, c2]
    · rw [if_neg y] at c1
      simp (disch := omega) only [e_Cell_putsOn_0, e_Cell_putsOn_1, e_Cell_putsOn_4, e_Cell_putsOn_5, e_Cell_putsOn_8, e_Cell_putsOn_8b, e_Cell_putsOn_11, e_Cell_putsOn_12, e_Cell_putsOn_15, e_Cell_putsOn_15b, e_Cell_putsOn_18, e_Cell_putsOn_19, e_Cell_putsOn_20, e_Cell_putsOn_21, e_Cell_putsOn_24, e_Cell_putsOn_25, e_Cell_putsOn_28, e_Cell_putsOn_28b, e_Cell_putsOn_31, e_Cell_putsOn_33, e_Cell_putsOn_34, e_Cell_putsOn_36, e_Cell_putsOn_37, e_Cell_putsOn_39, e_Cell_putsOn_41, e_Cell_putsOn_42, e_Cell_putsOn_46, e_Cell_putsOn_47, e_Cell_putsOn_50, e_Cell_putsOn_51, e_Cell_putsOn_52, e_Cell_putsOn_54, e_Cell_putsOn_57, e_Cell_putsOn_59, e_Cell_putsOn_61, e_Cell_putsOn_63, e_Cell_putsOn_66, e_Cell_putsOn_66b, e_Cell_putsOn_69, e_Cell_putsOn_71, e_Cell_putsOn_72, e_Cell_putsOn_74, e_Cell_putsOn_76, e_Cell_putsOn_79, e_Cell_putsOn_82, e_Cell_putsOn_83, e_Cell_putsOn_83b, e_Cell_putsOn_86, e_Cell_putsOn_87, e_Cell_putsOn_90, e_Cell_putsOn_92, alk_in, ask_in, blk_in, bsk_in, qlk_in, ack_in, rcv_in, rcA_in, bk_i, bk_l, bk_v, hS_same, hS_ne, hS_hS, hS_2, am_10, am_01, am_00, if_true, if_false, gf_5_0, pf_5_0, gf_5_1, pf_5_1, gf_5_2, pf_5_2, gf_5_3, pf_5_3, gf_5_4, pf_5_4, gf_5_5, pf_5_5, gf_5_6, pf_5_6, gf_5_7, pf_5_7, gf_11_0, pf_11_0, gf_11_1, pf_11_1, gf_11_2, pf_11_2, gf_11_3, pf_11_3, gf_11_4, pf_11_4, gf_11_5, pf_11_5, gf_11_6, pf_11_6, gf_11_7, pf_11_7, gf_11_8, pf_11_8, gf_11_9, pf_11_9, gf_11_10, pf_11_10, gf_11_11, pf_11_11, O, ob, c1]
theorem k_carry (O : CeO h lo pc) (S : RT h 10 G T) (hw : WT G T) (Q : ScSh h 16) {m w : Int} (hm : rg32 m) (hr : rg32 w) : ∃ h', ev mCell_carry [vR 1, vI m, vI w] h = some (some (vI (aCar G T m w)), h') ∧ ScSh h' 16 ∧ Fr 16 22 h h' := by
  have c2 := c_isWhich (h := h) hr
  unfold rg32 at hm
  have S' : RepS h 10 G.1 G.2.1 T.1 T.2.1 T.2.2.1 G.2.2.2 T.2.2.2 := S
  have c1 := d_hasMan S' hm hw.1
  have ob := S.ob
  have O' := O
  unfold CeO at O
  unfold aCar
  by_cases q : (0 ≤ m ∧ m < G.1) ∧ (w = 0 ∨ w = 1)
  · rw [if_pos q.1] at c1
    rw [if_pos q.2] at c2
    rw [if_pos q]
    obtain ⟨m, rfl⟩ : ∃ k : Nat, m = (k : Int) := ⟨m.toNat, by omega⟩
    have hmn : m < G.1 := by omega
    have c3 := d_isIn S' hw hmn
    rw [Int.toNat_natCast]
    by_cases y : T.2.1 m = -9
    · rw [if_pos y] at c3 ⊢
      refine ⟨h, ?_, Q, Fr.rf⟩
      rw [ev_Cell_carry]
      simp (disch := omega) only [e_Cell_carry_0, e_Cell_carry_1, e_Cell_carry_4, e_Cell_carry_5, e_Cell_carry_8, e_Cell_carry_8b, e_Cell_carry_11, e_Cell_carry_12, e_Cell_carry_15, e_Cell_carry_15b, e_Cell_carry_18, e_Cell_carry_19, e_Cell_carry_20, e_Cell_carry_21, e_Cell_carry_24, e_Cell_carry_25, e_Cell_carry_28, e_Cell_carry_28b, e_Cell_carry_31, e_Cell_carry_33, e_Cell_carry_34, e_Cell_carry_36, e_Cell_carry_37, e_Cell_carry_39, e_Cell_carry_41, e_Cell_carry_42, e_Cell_carry_46, e_Cell_carry_47, e_Cell_carry_50, e_Cell_carry_53, e_Cell_carry_56, e_Cell_carry_57, e_Cell_carry_58, e_Cell_carry_60, e_Cell_carry_63, e_Cell_carry_65, e_Cell_carry_67, e_Cell_carry_69, e_Cell_carry_72, e_Cell_carry_72b, e_Cell_carry_75, e_Cell_carry_77, e_Cell_carry_78, e_Cell_carry_80, e_Cell_carry_82, e_Cell_carry_85, e_Cell_carry_88, e_Cell_carry_89, e_Cell_carry_89b, e_Cell_carry_92, e_Cell_carry_93, e_Cell_carry_96, e_Cell_carry_98, alk_in, ask_in, blk_in, bsk_in, qlk_in, ack_in, rcv_in, rcA_in, bk_i, bk_l, bk_v, hS_same, hS_ne, hS_hS, hS_2, am_10, am_01, am_00, if_true, if_false, gf_5_0, pf_5_0, gf_5_1, pf_5_1, gf_5_2, pf_5_2, gf_5_3, pf_5_3, gf_5_4, pf_5_4, gf_5_5, pf_5_5, gf_5_6, pf_5_6, gf_5_7, pf_5_7, gf_11_0, pf_11_0, gf_11_1, pf_11_1, gf_11_2, pf_11_2, gf_11_3, pf_11_3, gf_11_4, pf_11_4, gf_11_5, pf_11_5, gf_11_6, pf_11_6, gf_11_7, pf_11_7, gf_11_8, pf_11_8, gf_11_9, pf_11_9, gf_11_10, pf_11_10, gf_11_11, pf_11_11, O, ob, c1, c2, c3]
    · rw [if_neg y] at c3 ⊢
      obtain ⟨h1, e1, Q1, f1⟩ := lk_carry q.2 hmn y hw G.2.1 0 h vU (by omega) O' S Q
      refine ⟨h1, ?_, Q1, f1⟩
      rw [ev_Cell_carry]
      simp (disch := omega) only [e_Cell_carry_0, e_Cell_carry_1, e_Cell_carry_4, e_Cell_carry_5, e_Cell_carry_8, e_Cell_carry_8b, e_Cell_carry_11, e_Cell_carry_12, e_Cell_carry_15, e_Cell_carry_15b, e_Cell_carry_18, e_Cell_carry_19, e_Cell_carry_20, e_Cell_carry_21, e_Cell_carry_24, e_Cell_carry_25, e_Cell_carry_28, e_Cell_carry_28b, e_Cell_carry_31, e_Cell_carry_33, e_Cell_carry_34, e_Cell_carry_36, e_Cell_carry_37, e_Cell_carry_39, e_Cell_carry_41, e_Cell_carry_42, e_Cell_carry_46, e_Cell_carry_47, e_Cell_carry_50, e_Cell_carry_53, e_Cell_carry_56, e_Cell_carry_57, e_Cell_carry_58, e_Cell_carry_60, e_Cell_carry_63, e_Cell_carry_65, e_Cell_carry_67, e_Cell_carry_69, e_Cell_carry_72, e_Cell_carry_72b, e_Cell_carry_75, e_Cell_carry_77, e_Cell_carry_78, e_Cell_carry_80, e_Cell_carry_82, e_Cell_carry_85, e_Cell_carry_88, e_Cell_carry_89, e_Cell_carry_89b, e_Cell_carry_92, e_Cell_carry_93, e_Cell_carry_96, e_Cell_carry_98, alk_in, ask_in, blk_in, bsk_in, qlk_in, ack_in, rcv_in, rcA_in, bk_i, bk_l, bk_v, hS_same, hS_ne, hS_hS, hS_2, am_10, am_01, am_00, if_true, if_false, gf_5_0, pf_5_0, gf_5_1, pf_5_1, gf_5_2, pf_5_2, gf_5_3, pf_5_3, gf_5_4, pf_5_4, gf_5_5, pf_5_5, gf_5_6, pf_5_6, gf_5_7, pf_5_7, gf_11_0, pf_11_0, gf_11_1, pf_11_1, gf_11_2, pf_11_2, gf_11_3, pf_11_3, gf_11_4, pf_11_4, gf_11_5, pf_11_5, gf_11_6, pf_11_6, gf_11_7, pf_11_7, gf_11_8, pf_11_8, gf_11_9, pf_11_9, gf_11_10, pf_11_10, gf_11_11, pf_11_11, O, ob, c1, c2, c3]
      exact e1
  · rw [if_neg q]
    refine ⟨h, ?_, Q, Fr.rf⟩
    rw [ev_Cell_carry]
    by_cases y : 0 ≤ m ∧ m < G.1
    · rw [if_pos y] at c1
      rw [if_neg (fun z => q ⟨y, z⟩)] at c2
      simp (disch := omega) only [e_Cell_carry_0, e_Cell_carry_1, e_Cell_carry_4, e_Cell_carry_5, e_Cell_carry_8, e_Cell_carry_8b, e_Cell_carry_11, e_Cell_carry_12, e_Cell_carry_15, e_Cell_carry_15b, e_Cell_carry_18, e_Cell_carry_19, e_Cell_carry_20, e_Cell_carry_21, e_Cell_carry_24, e_Cell_carry_25, e_Cell_carry_28, e_Cell_carry_28b, e_Cell_carry_31, e_Cell_carry_33, e_Cell_carry_34, e_Cell_carry_36, e_Cell_carry_37, e_Cell_carry_39, e_Cell_carry_41, e_Cell_carry_42, e_Cell_carry_46, e_Cell_carry_47, e_Cell_carry_50, e_Cell_carry_53, e_Cell_carry_56, e_Cell_carry_57, e_Cell_carry_58, e_Cell_carry_60, e_Cell_carry_63, e_Cell_carry_65, e_Cell_carry_67, e_Cell_carry_69, e_Cell_carry_72, e_Cell_carry_72b, e_Cell_carry_75, e_Cell_carry_77, e_Cell_carry_78, e_Cell_carry_80, e_Cell_carry_82, e_Cell_carry_85, e_Cell_carry_88, e_Cell_carry_89, e_Cell_carry_89b, e_Cell_carry_92, e_Cell_carry_93, e_Cell_carry_96, e_Cell_carry_98, alk_in, ask_in, blk_in, bsk_in, qlk_in, ack_in, rcv_in, rcA_in, bk_i, bk_l, bk_v, hS_same, hS_ne, hS_hS, hS_2, am_10, am_01, am_00, if_true, if_false, gf_5_0, pf_5_0, gf_5_1, pf_5_1, gf_5_2, pf_5_2, gf_5_3, pf_5_3, gf_5_4, pf_5_4, gf_5_5, pf_5_5, gf_5_6, pf_5_6, gf_5_7, pf_5_7, gf_11_0, pf_11_0, gf_11_1, pf_11_1, gf_11_2, pf_11_2, gf_11_3, pf_11_3, gf_11_4, pf_11_4, gf_11_5, pf_11_5, gf_11_6, pf_11_6, gf_11_7, pf_11_7, gf_11_8, pf_11_8, gf_11_9, pf_11_9, gf_11_10, pf_11_10, gf_11_11, pf_11_11, O, ob, c1, c2]
    · rw [if_neg y] at c1
      simp (disch := omega) only [e_Cell_carry_0, e_Cell_carry_1, e_Cell_carry_4, e_Cell_carry_5, e_Cell_carry_8, e_Cell_carry_8b, e_Cell_carry_11, e_Cell_carry_12, e_Cell_carry_15, e_Cell_carry_15b, e_Cell_carry_18, e_Cell_carry_19, e_Cell_carry_20, e_Cell_carry_21, e_Cell_carry_24, e_Cell_carry_25, e_Cell_carry_28, e_Cell_carry_28b, e_Cell_carry_31, e_Cell_carry_33, e_Cell_carry_34, e_Cell_carry_36, e_Cell_carry_37, e_Cell_carry_39, e_Cell_carry_41, e_Cell_carry_42, e_Cell_carry_46, e_Cell_carry_47, e_Cell_carry_50, e_Cell_carry_53, e_Cell_carry_56, e_Cell_carry_57, e_Cell_carry_58, e_Cell_carry_60, e_Cell_carry_63, e_Cell_carry_65, e_Cell_carry_67, e_Cell_carry_69, e_Cell_carry_72, e_Cell_carry_72b, e_Cell_carry_75, e_Cell_carry_77, e_Cell_carry_78, e_Cell_carry_80, e_Cell_carry_82, e_Cell_carry_85, e_Cell_carry_88, e_Cell_carry_89, e_Cell_carry_89b, e_Cell_carry_92, e_Cell_carry_93, e_Cell_carry_96, e_Cell_carry_98, alk_in, ask_in, blk_in, bsk_in, qlk_in, ack_in, rcv_in, rcA_in, bk_i, bk_l, bk_v, hS_same, hS_ne, hS_hS, hS_2, am_10, am_01, am_00, if_true, if_false, gf_5_0, pf_5_0, gf_5_1, pf_5_1, gf_5_2, pf_5_2, gf_5_3, pf_5_3, gf_5_4, pf_5_4, gf_5_5, pf_5_5, gf_5_6, pf_5_6, gf_5_7, pf_5_7, gf_11_0, pf_11_0, gf_11_1, pf_11_1, gf_11_2, pf_11_2, gf_11_3, pf_11_3, gf_11_4, pf_11_4, gf_11_5, pf_11_5, gf_11_6, pf_11_6, gf_11_7, pf_11_7, gf_11_8, pf_11_8, gf_11_9, pf_11_9, gf_11_10, pf_11_10, gf_11_11, pf_11_11, O, ob, c1]
/-- the model's scratch -/
def MSc (h : am_H) (G : Gl) (T : Tm) : Prop := RM h G T ∧ AsM h G.1 T.1 T.2.1 T.2.2.1 T.2.2.2 ∧ Sh h 129 6
theorem MSc.obj (S : MSc h G T) : ∃ x0 x2 x7 x11 x12 x13 x14 x15, MoA h x0 x2 x7 x11 x12 x13 x14 x15 := by
  obtain ⟨⟨y0, y2, y7, y11, y12, y13, y14, y15, T', F, o', -⟩, -⟩ := S
  exact ⟨_, _, _, _, _, _, _, _, o'⟩
theorem m_tryS (S : MSc h G T) (hw : WT G T) {m k : Nat} (hm : m < G.1) (hk : k ≤ 4) {F : Nat → Int} (hF : h.1 124 = cI 0 19 F) : ∃ h1 h2, ev mMod_outIn [vR 120, vI (m : Int)] (hS h 124 (cI 0 19 (fun j => if j = 7 + m then (k : Int) else F j))) = some (some (vI (candS G T m k)), h1) ∧ ev mMod_lets [vR 120] h1 = some (none, h2) ∧ MSc h2 G T ∧ FE [124, 129] h h1 ∧ FE [124, 129] h h2 := by
  obtain ⟨R, A, s⟩ := S
  have hn := hw.1
  have f0 : FE [124] h (hS h 124 (cI 0 19 (fun j => if j = 7 + m then (k : Int) else F j))) := FE.st (by decide)
  have R1 := RepM.setSo (show RepM h G.1 G.2.1 G.2.2.1 T.1 T.2.1 T.2.2.1 G.2.2.2 T.2.2.2 from R) hn (m := m) (by omega) (k : Int) hF
  obtain ⟨h1, e1, ⟨t1, ce1, ye1, R2⟩, s1, f1⟩ := m_out hm R1 (Wf.fei hw m (by omega)) (s.fe f0 (by decide))
  obtain ⟨h2, e2, R3, A3, f2⟩ := m_lets R2 hn ((A.fe f0 (by decide)).fe f1 (by decide))
  have g1 := (f0.wd (l' := [124, 129]) (by decide)).tr f1
  exact ⟨h1, h2, e1, e2, ⟨R3, A3, s1.fe f2 (by decide)⟩, g1, g1.tr (f2.wd (by decide))⟩
theorem m_tryC (S : MSc h G T) (hw : WT G T) {m k : Nat} (hm : m < G.1) (hk : k < G.2.1) (q : who G.1 T.2.1 (k : Int) = -9 ∨ who G.1 T.2.1 (k : Int) = (m : Int)) {F : Nat → Int} (hF : h.1 124 = cI 0 19 F) : ∃ h1 h2, ev mMod_outIn [vR 120, vI (m : Int)] (hS h 124 (cI 0 19 (fun j => if j = 1 + m then (k : Int) else F j))) = some (some (vI (candC G T m k)), h1) ∧ ev mMod_lets [vR 120] h1 = some (none, h2) ∧ MSc h2 G T ∧ FE [124, 129] h h1 ∧ FE [124, 129] h h2 := by
  obtain ⟨R, A, s⟩ := S
  have hn := hw.1
  have f0 : FE [124] h (hS h 124 (cI 0 19 (fun j => if j = 1 + m then (k : Int) else F j))) := FE.st (by decide)
  have R1 := RepM.setCe (show RepM h G.1 G.2.1 G.2.2.1 T.1 T.2.1 T.2.2.1 G.2.2.2 T.2.2.2 from R) hn (m := m) (by omega) (k : Int) hF
  obtain ⟨h1, e1, ⟨t1, ce1, ye1, R2⟩, s1, f1⟩ := m_out hm R1 (Wf.mov hw m (by omega) (who_free (by omega) hw.2.2.2.2 q)) (s.fe f0 (by decide))
  obtain ⟨h2, e2, R3, A3, f2⟩ := m_lets R2 hn ((A.fe f0 (by decide)).fe f1 (by decide))
  have g1 := (f0.wd (l' := [124, 129]) (by decide)).tr f1
  refine ⟨h1, h2, ?_, e2, ⟨R3, A3, s1.fe f2 (by decide)⟩, g1, g1.tr (f2.wd (by decide))⟩
  unfold candC
  rw [if_pos q]
  exact e1
theorem m_noC (S : MSc h G T) (hw : WT G T) {m k : Nat} (hm : m < G.1) {F : Nat → Int} (hF : h.1 124 = cI 0 19 F) : ∃ h2, ev mMod_lets [vR 120] (hS h 124 (cI 0 19 (fun j => if j = 1 + m then (k : Int) else F j))) = some (none, h2) ∧ MSc h2 G T ∧ FE [124, 129] h h2 := by
  obtain ⟨R, A, s⟩ := S
  have hn := hw.1
  have f0 : FE [124] h (hS h 124 (cI 0 19 (fun j => if j = 1 + m then (k : Int) else F j))) := FE.st (by decide)
  have R1 := RepM.setCe (show RepM h G.1 G.2.1 G.2.2.1 T.1 T.2.1 T.2.2.1 G.2.2.2 T.2.2.2 from R) hn (m := m) (by omega) (k : Int) hF
  obtain ⟨h2, e2, R3, A3, f2⟩ := m_lets R1 hn (A.fe f0 (by decide))
  exact ⟨h2, e2, ⟨R3, A3, (s.fe f0 (by decide)).fe f2 (by decide)⟩, (f0.wd (l' := [124, 129]) (by decide)).tr (f2.wd (by decide))⟩
theorem lm_soonS {m : Nat} {w : Int} (hr : w = 0 ∨ w = 1) (hm : m < G.1) (hw : WT G T) : ∀ (d k : Nat) (h : am_H) (x8 x9 : am_V), k + d = 5 → MSc h G T → ∃ h', gv mMod_soonest 31 [vR 120, vI (m : Int), vI 1, vI w, vI (sn (candS G T m) k).1, vI (sn (candS G T m) k).2, vI 5, vI (k : Int), x8, x9] [] h = some (some (vI (aSn w (candS G T m) 5)), h') ∧ MSc h' G T ∧ FE [124, 129] h h' := by
  intro d
  induction d with
  | zero =>
    intro k h x8 x9 hk S
    have : k = 5 := by omega
    subst this
    refine ⟨h, ?_, S, FE.rf⟩
    have b1 := sn_b (candS_r G T m) 5
    rw [e_Mod_soonest_31]
    unfold aSn sn2
    simp (disch := omega) only [e_Mod_soonest_0, e_Mod_soonest_1, e_Mod_soonest_4, e_Mod_soonest_6, e_Mod_soonest_8, e_Mod_soonest_10, e_Mod_soonest_12, e_Mod_soonest_13, e_Mod_soonest_13b, e_Mod_soonest_16, e_Mod_soonest_17, e_Mod_soonest_20, e_Mod_soonest_21, e_Mod_soonest_24, e_Mod_soonest_25, e_Mod_soonest_26, e_Mod_soonest_28, e_Mod_soonest_29, e_Mod_soonest_33, e_Mod_soonest_35, e_Mod_soonest_38, e_Mod_soonest_39, e_Mod_soonest_39b, e_Mod_soonest_42, e_Mod_soonest_43, e_Mod_soonest_45, e_Mod_soonest_48, e_Mod_soonest_50, e_Mod_soonest_53, e_Mod_soonest_54, e_Mod_soonest_56, e_Mod_soonest_59, e_Mod_soonest_60, e_Mod_soonest_63, e_Mod_soonest_64, e_Mod_soonest_67, e_Mod_soonest_68, e_Mod_soonest_70, e_Mod_soonest_71, e_Mod_soonest_74, e_Mod_soonest_75, e_Mod_soonest_75b, e_Mod_soonest_78, e_Mod_soonest_80, e_Mod_soonest_81, e_Mod_soonest_82, e_Mod_soonest_85, e_Mod_soonest_86, e_Mod_soonest_87, e_Mod_soonest_88, e_Mod_soonest_90, e_Mod_soonest_91, e_Mod_soonest_93, e_Mod_soonest_93b, e_Mod_soonest_96, e_Mod_soonest_97, e_Mod_soonest_98, e_Mod_soonest_101, e_Mod_soonest_104, e_Mod_soonest_106, e_Mod_soonest_108, e_Mod_soonest_109, e_Mod_soonest_112, e_Mod_soonest_114, e_Mod_soonest_116, e_Mod_soonest_119, e_Mod_soonest_121, e_Mod_soonest_123, e_Mod_soonest_126, e_Mod_soonest_128, e_Mod_soonest_131, e_Mod_soonest_133, e_Mod_soonest_135, e_Mod_soonest_137, e_Mod_soonest_139, e_Mod_soonest_142, e_Mod_soonest_144, e_Mod_soonest_146, e_Mod_soonest_149, e_Mod_soonest_151, e_Mod_soonest_154, e_Mod_soonest_156, e_Mod_soonest_158, e_Mod_soonest_161, e_Mod_soonest_164, e_Mod_soonest_166, e_Mod_soonest_168, e_Mod_soonest_171, e_Mod_soonest_172, e_Mod_soonest_172b, e_Mod_soonest_175, e_Mod_soonest_177, e_Mod_soonest_180, e_Mod_soonest_182, alk_in, ask_in, blk_in, bsk_in, qlk_in, ack_in, rcv_in, rcA_in, bk_i, bk_l, bk_v, hS_same, hS_ne, hS_hS, hS_2, am_10, am_01, am_00, if_true, if_false]
    rw [if_neg (by omega)]
    by_cases y : (sn (candS G T m) 5).1 = -9
    · rw [if_pos y, if_pos y]; rcases hr with z | z <;> subst z <;> simp [y]
    · rw [if_neg y, if_neg y]; rcases hr with z | z <;> subst z <;> simp
  | succ d ih =>
    intro k h x8 x9 hk S
    have F0 := S.1
    obtain ⟨y0, y2, y7, y11, y12, y13, y14, y15, T', F, o, ta, b, -⟩ := F0
    obtain ⟨h1, h2, e1, e2, S2, f1, f2⟩ := m_tryS S hw hm (k := k) (by omega) b
    have cr := candS_r G T m
    obtain ⟨h3, e3, S3, f3⟩ := ih (k + 1) h2 (vI 1) (vI (candS G T m k)) (by omega) S2
    refine ⟨h3, ?_, S3, f2.tr f3⟩
    have hn := hw.1
    have b1 := sn_b cr k
    have b3 := cr k
    have o1 := f1.at o (by decide)
    have o2 := f2.at o (by decide)
    unfold MoA at o o1 o2
    have t7 : (7 + (m : Int)).toNat = 7 + m := by omega
    have es : sn (candS G T m) (k + 1) = if ¬ candS G T m k = -9 ∧ candS G T m k < (sn (candS G T m) k).2 then ((k : Int), candS G T m k) else sn (candS G T m) k := rfl
    rw [e_Mod_soonest_31, ← e3, es]
    simp (disch := omega) only [e_Mod_soonest_0, e_Mod_soonest_1, e_Mod_soonest_4, e_Mod_soonest_6, e_Mod_soonest_8, e_Mod_soonest_10, e_Mod_soonest_12, e_Mod_soonest_13, e_Mod_soonest_13b, e_Mod_soonest_16, e_Mod_soonest_17, e_Mod_soonest_20, e_Mod_soonest_21, e_Mod_soonest_24, e_Mod_soonest_25, e_Mod_soonest_26, e_Mod_soonest_28, e_Mod_soonest_29, e_Mod_soonest_33, e_Mod_soonest_35, e_Mod_soonest_38, e_Mod_soonest_39, e_Mod_soonest_39b, e_Mod_soonest_42, e_Mod_soonest_43, e_Mod_soonest_45, e_Mod_soonest_48, e_Mod_soonest_50, e_Mod_soonest_53, e_Mod_soonest_54, e_Mod_soonest_56, e_Mod_soonest_59, e_Mod_soonest_60, e_Mod_soonest_63, e_Mod_soonest_64, e_Mod_soonest_67, e_Mod_soonest_68, e_Mod_soonest_70, e_Mod_soonest_71, e_Mod_soonest_74, e_Mod_soonest_75, e_Mod_soonest_75b, e_Mod_soonest_78, e_Mod_soonest_80, e_Mod_soonest_81, e_Mod_soonest_82, e_Mod_soonest_85, e_Mod_soonest_86, e_Mod_soonest_87, e_Mod_soonest_88, e_Mod_soonest_90, e_Mod_soonest_91, e_Mod_soonest_93, e_Mod_soonest_93b, e_Mod_soonest_96, e_Mod_soonest_97, e_Mod_soonest_98, e_Mod_soonest_101, e_Mod_soonest_104, e_Mod_soonest_106, e_Mod_soonest_108, e_Mod_soonest_109, e_Mod_soonest_112, e_Mod_soonest_114, e_Mod_soonest_116, e_Mod_soonest_119, e_Mod_soonest_121, e_Mod_soonest_123, e_Mod_soonest_126, e_Mod_soonest_128, e_Mod_soonest_131, e_Mod_soonest_133, e_Mod_soonest_135, e_Mod_soonest_137, e_Mod_soonest_139, e_Mod_soonest_142, e_Mod_soonest_144, e_Mod_soonest_146, e_Mod_soonest_149, e_Mod_soonest_151, e_Mod_soonest_154, e_Mod_soonest_156, e_Mod_soonest_158, e_Mod_soonest_161, e_Mod_soonest_164, e_Mod_soonest_166, e_Mod_soonest_168, e_Mod_soonest_171, e_Mod_soonest_172, e_Mod_soonest_172b, e_Mod_soonest_175, e_Mod_soonest_177, e_Mod_soonest_180, e_Mod_soonest_182, alk_in, ask_in, blk_in, bsk_in, qlk_in, ack_in, rcv_in, rcA_in, bk_i, bk_l, bk_v, hS_same, hS_ne, hS_hS, hS_2, am_10, am_01, am_00, if_true, if_false, gf_12_0, pf_12_0, gf_12_1, pf_12_1, gf_12_2, pf_12_2, gf_12_3, pf_12_3, gf_12_4, pf_12_4, gf_12_5, pf_12_5, gf_12_6, pf_12_6, gf_12_7, pf_12_7, gf_12_8, pf_12_8, gf_12_9, pf_12_9, gf_12_10, pf_12_10, gf_12_11, pf_12_11, gf_12_12, pf_12_12, gf_12_13, pf_12_13, gf_12_14, pf_12_14, gf_12_15, pf_12_15, gf_12_16, pf_12_16, gf_12_17, pf_12_17, gf_12_18, pf_12_18, gf_12_19, pf_12_19, gf_12_20, pf_12_20, o, b, t7, e1, o1, e2, o2]
    rw [if_pos (by omega)]
    by_cases y : candS G T m k = -9
    · have nq : ¬ (¬ candS G T m k = -9 ∧ candS G T m k < (sn (candS G T m) k).2) := fun z => z.1 y
      rw [if_neg nq, if_pos y, if_pos y]; rfl
    · by_cases u : candS G T m k < (sn (candS G T m) k).2
      · have nq : ¬ candS G T m k = -9 ∧ candS G T m k < (sn (candS G T m) k).2 := ⟨y, u⟩
        rw [if_pos nq, if_neg y, if_pos u, if_neg y, if_pos u]; rfl
      · have nq : ¬ (¬ candS G T m k = -9 ∧ candS G T m k < (sn (candS G T m) k).2) := fun z => u z.2
        rw [if_neg nq, if_neg y, if_neg u, if_neg y, if_neg u]; rfl
end Soon2
