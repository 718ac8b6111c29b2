/-! month, moves, feigns: the model -/
section MDo
variable {h : am_H} {G : Gl} {tr L kk : Int}
theorem MZ.now {h' : am_H} {T T' : Tm} {k : Nat} {p : Nat → Tm} {l : List Nat} (C : MZ h tr L kk G (T, k, p)) (S : RM h' G T') (s : Sh h' 129 6) (f : FE l h h') (q : 120 ∉ l ∧ 125 ∉ l) : MZ h' tr L kk G (T', k, p) := by
  obtain ⟨O, -, P, -⟩ := C
  exact ⟨O.fe f q.1, S, P.fe f q.2, s⟩
theorem q_month {Z : St} (C : MZ h tr L kk G Z) (hw : WT G Z.1) (ht : 0 ≤ Z.1.1 ∧ Z.1.1 ≤ 999) (hk : Z.2.1 ≤ 10) : ∃ h', ev mMod_month [vR 120] h = some (some (vI (aMon G Z.1)), h') ∧ MZ h' tr L kk G (nMon G Z) ∧ FE [120, 124, 125, 129] h h' := by
  unfold aMon nMon
  have C0 := C
  obtain ⟨⟨x12, x13, x14, x15, o⟩, S, P, s⟩ := C
  obtain ⟨y0, y2, y7, y11, y12, y13, y14, y15, T', F, o', ta, b, r0, r1, r2, r3, rr⟩ := S
  unfold MoA at o
  by_cases q : 999 ≤ Z.1.1
  · rw [if_pos q, if_pos q]
    refine ⟨h, ?_, C0, FE.rf⟩
    rw [ev_Mod_month]
    simp (disch := omega) only [e_Mod_month_0, e_Mod_month_1, e_Mod_month_4, e_Mod_month_5, e_Mod_month_6, e_Mod_month_9, e_Mod_month_12, e_Mod_month_14, e_Mod_month_15, e_Mod_month_16, e_Mod_month_19, e_Mod_month_20, e_Mod_month_23, alk_in, ask_in, blk_in, bsk_in, qlk_in, ack_in, rcv_in, rcA_in, bk_i, bk_l, bk_v, hS_same, hS_ne, hS_hS, hS_2, am_10, am_01, am_00, if_true, if_false, gf_12_0, pf_12_0, gf_12_1, pf_12_1, gf_12_2, pf_12_2, gf_12_3, pf_12_3, gf_12_4, pf_12_4, gf_12_5, pf_12_5, gf_12_6, pf_12_6, gf_12_7, pf_12_7, gf_12_8, pf_12_8, gf_12_9, pf_12_9, gf_12_10, pf_12_10, gf_12_11, pf_12_11, gf_12_12, pf_12_12, gf_12_13, pf_12_13, gf_12_14, pf_12_14, gf_12_15, pf_12_15, gf_12_16, pf_12_16, gf_12_17, pf_12_17, gf_12_18, pf_12_18, gf_12_19, pf_12_19, gf_12_20, pf_12_20, o, b, tl_0, r3]
    rw [if_pos (by omega)]
  · rw [if_neg q, if_neg q]
    obtain ⟨h1, e1, C1, f1⟩ := q_keeps C0 hw.1 hk
    obtain ⟨h2, e2, S2, s2, f2⟩ := m_passes (show RepM h1 G.1 G.2.1 G.2.2.1 Z.1.1 Z.1.2.1 Z.1.2.2.1 G.2.2.2 Z.1.2.2.2 from C1.2.1) hw C1.2.2.2
    have o1 := C1.1
    obtain ⟨z12, z13, z14, z15, o1⟩ := o1
    unfold MoA at o1
    refine ⟨h2, ?_, MZ.now C1 S2 s2 f2 (by decide), (f1.wd (by decide)).tr (f2.wd (by decide))⟩
    rw [ev_Mod_month]
    simp (disch := omega) only [e_Mod_month_0, e_Mod_month_1, e_Mod_month_4, e_Mod_month_5, e_Mod_month_6, e_Mod_month_9, e_Mod_month_12, e_Mod_month_14, e_Mod_month_15, e_Mod_month_16, e_Mod_month_19, e_Mod_month_20, e_Mod_month_23, alk_in, ask_in, blk_in, bsk_in, qlk_in, ack_in, rcv_in, rcA_in, bk_i, bk_l, bk_v, hS_same, hS_ne, hS_hS, hS_2, am_10, am_01, am_00, if_true, if_false, gf_12_0, pf_12_0, gf_12_1, pf_12_1, gf_12_2, pf_12_2, gf_12_3, pf_12_3, gf_12_4, pf_12_4, gf_12_5, pf_12_5, gf_12_6, pf_12_6, gf_12_7, pf_12_7, gf_12_8, pf_12_8, gf_12_9, pf_12_9, gf_12_10, pf_12_10, gf_12_11, pf_12_11, gf_12_12, pf_12_12, gf_12_13, pf_12_13, gf_12_14, pf_12_14, gf_12_15, pf_12_15, gf_12_16, pf_12_16, gf_12_17, pf_12_17, gf_12_18, pf_12_18, gf_12_19, pf_12_19, gf_12_20, pf_12_20, o, b, tl_0, r3, e1, o1, e2]
    rw [if_neg (by omega)]
theorem q_moves {Z : St} (C : MZ h tr L kk G Z) (hw : WT G Z.1) (hk : Z.2.1 ≤ 10) {m x : Int} (hm : rg32 m) (hx : rg32 x) : ∃ h', ev mMod_moves [vR 120, vI m, vI x] h = some (some (vI (aMov G Z.1 m x)), h') ∧ MZ h' tr L kk G (nMov G Z m x) ∧ FE [120, 124, 125] h h' := by
  unfold rg32 at hm hx
  have C0 := C
  obtain ⟨⟨x12, x13, x14, x15, o⟩, S, P, s⟩ := C
  unfold MoA at o
  have hn := hw.1
  have S' : RepM h G.1 G.2.1 G.2.2.1 Z.1.1 Z.1.2.1 Z.1.2.2.1 G.2.2.2 Z.1.2.2.2 := S
  have c1 := m_isMan S' hw.1 hm
  have c2 := m_isCell S' hw.2.2.1 hx
  by_cases q : (0 ≤ m ∧ m < G.1) ∧ 0 ≤ x ∧ x < G.2.1
  · rw [if_pos q.1] at c1
    rw [if_pos q.2] at c2
    obtain ⟨m, rfl⟩ : ∃ k : Nat, m = (k : Int) := ⟨m.toNat, by omega⟩
    have hmn : m < G.1 := by omega
    have c3 := m_isIn S' hw hmn
    have c4 := m_whoIn S' hw (x := x) hx
    have wb := who_b G.1 Z.1.2.1 x
    unfold aMov nMov
    rw [if_pos q]
    by_cases r : cMov G Z.1 m x
    · rw [if_pos r, if_pos r]
      obtain ⟨-, r1, r2⟩ := r
      rw [Int.toNat_natCast] at r1 ⊢
      rw [if_neg r1] at c3
      obtain ⟨h1, e1, C1, f1⟩ := q_keeps C0 hw.1 hk
      have o1 := C1.1
      obtain ⟨z12, z13, z14, z15, o1⟩ := o1
      unfold MoA at o1
      have S1 : RepM h1 G.1 G.2.1 G.2.2.1 Z.1.1 Z.1.2.1 Z.1.2.2.1 G.2.2.2 Z.1.2.2.2 := C1.2.1
      have S1' := S1
      obtain ⟨_, _, _, _, _, _, _, _, T1, F1, _, ta1, b1, _, _, _, r31, rr1⟩ := S1'
      have S2 := RepM.setCe S1 hw.1 (m := m) (by omega) x b1
      have f2 : FE [124] h1 (hS h1 124 (cI 0 19 (fun j => if j = 1 + m then x else F1 j))) := FE.st (by decide)
      refine ⟨_, ?_, MZ.now C1 S2 (C1.2.2.2.fe f2 (by decide)) f2 (by decide), (f1.wd (by decide)).tr (f2.wd (by decide))⟩
      have z := (rr1 m hmn).2.1
      rw [ev_Mod_moves]
      simp (disch := omega) only [e_Mod_moves_0, e_Mod_moves_1, e_Mod_moves_2, e_Mod_moves_5, e_Mod_moves_5b, e_Mod_moves_8, e_Mod_moves_9, e_Mod_moves_10, e_Mod_moves_13, e_Mod_moves_13b, e_Mod_moves_16, e_Mod_moves_17, e_Mod_moves_18, e_Mod_moves_19, e_Mod_moves_20, e_Mod_moves_23, e_Mod_moves_23b, e_Mod_moves_26, e_Mod_moves_27, e_Mod_moves_28, e_Mod_moves_31, e_Mod_moves_33, e_Mod_moves_36, e_Mod_moves_38, e_Mod_moves_39, e_Mod_moves_40, e_Mod_moves_43, e_Mod_moves_44, e_Mod_moves_47, e_Mod_moves_48, e_Mod_moves_49, e_Mod_moves_50, e_Mod_moves_51, e_Mod_moves_52, e_Mod_moves_53, e_Mod_moves_56, e_Mod_moves_57, e_Mod_moves_58, e_Mod_moves_59, e_Mod_moves_60, e_Mod_moves_61, e_Mod_moves_62, alk_in, ask_in, blk_in, bsk_in, qlk_in, ack_in, rcv_in, rcA_in, bk_i, bk_l, bk_v, hS_same, hS_ne, hS_hS, hS_2, am_10, am_01, am_00, if_true, if_false, gf_12_0, pf_12_0, gf_12_1, pf_12_1, gf_12_2, pf_12_2, gf_12_3, pf_12_3, gf_12_4, pf_12_4, gf_12_5, pf_12_5, gf_12_6, pf_12_6, gf_12_7, pf_12_7, gf_12_8, pf_12_8, gf_12_9, pf_12_9, gf_12_10, pf_12_10, gf_12_11, pf_12_11, gf_12_12, pf_12_12, gf_12_13, pf_12_13, gf_12_14, pf_12_14, gf_12_15, pf_12_15, gf_12_16, pf_12_16, gf_12_17, pf_12_17, gf_12_18, pf_12_18, gf_12_19, pf_12_19, gf_12_20, pf_12_20, o, c1, c2, c3, c4, e1, o1, b1, tn_1, z, r2]
    · rw [if_neg r, if_neg r]
      refine ⟨h, ?_, C0, FE.rf⟩
      rw [ev_Mod_moves]
      by_cases r1 : Z.1.2.1 m = -9
      · rw [if_pos r1] at c3
        simp (disch := omega) only [e_Mod_moves_0, e_Mod_moves_1, e_Mod_moves_2, e_Mod_moves_5, e_Mod_moves_5b, e_Mod_moves_8, e_Mod_moves_9, e_Mod_moves_10, e_Mod_moves_13, e_Mod_moves_13b, e_Mod_moves_16, e_Mod_moves_17, e_Mod_moves_18, e_Mod_moves_19, e_Mod_moves_20, e_Mod_moves_23, e_Mod_moves_23b, e_Mod_moves_26, e_Mod_moves_27, e_Mod_moves_28, e_Mod_moves_31, e_Mod_moves_33, e_Mod_moves_36, e_Mod_moves_38, e_Mod_moves_39, e_Mod_moves_40, e_Mod_moves_43, e_Mod_moves_44, e_Mod_moves_47, e_Mod_moves_48, e_Mod_moves_49, e_Mod_moves_50, e_Mod_moves_51, e_Mod_moves_52, e_Mod_moves_53, e_Mod_moves_56, e_Mod_moves_57, e_Mod_moves_58, e_Mod_moves_59, e_Mod_moves_60, e_Mod_moves_61, e_Mod_moves_62, alk_in, ask_in, blk_in, bsk_in, qlk_in, ack_in, rcv_in, rcA_in, bk_i, bk_l, bk_v, hS_same, hS_ne, hS_hS, hS_2, am_10, am_01, am_00, if_true, if_false, gf_12_0, pf_12_0, gf_12_1, pf_12_1, gf_12_2, pf_12_2, gf_12_3, pf_12_3, gf_12_4, pf_12_4, gf_12_5, pf_12_5, gf_12_6, pf_12_6, gf_12_7, pf_12_7, gf_12_8, pf_12_8, gf_12_9, pf_12_9, gf_12_10, pf_12_10, gf_12_11, pf_12_11, gf_12_12, pf_12_12, gf_12_13, pf_12_13, gf_12_14, pf_12_14, gf_12_15, pf_12_15, gf_12_16, pf_12_16, gf_12_17, pf_12_17, gf_12_18, pf_12_18, gf_12_19, pf_12_19, gf_12_20, pf_12_20, o, c1, c2, c3]
      · rw [if_neg r1] at c3
        have r2 : ¬ who G.1 Z.1.2.1 x = -9 := fun r2 => r ⟨q, by rw [Int.toNat_natCast]; exact r1, r2⟩
        simp (disch := omega) only [e_Mod_moves_0, e_Mod_moves_1, e_Mod_moves_2, e_Mod_moves_5, e_Mod_moves_5b, e_Mod_moves_8, e_Mod_moves_9, e_Mod_moves_10, e_Mod_moves_13, e_Mod_moves_13b, e_Mod_moves_16, e_Mod_moves_17, e_Mod_moves_18, e_Mod_moves_19, e_Mod_moves_20, e_Mod_moves_23, e_Mod_moves_23b, e_Mod_moves_26, e_Mod_moves_27, e_Mod_moves_28, e_Mod_moves_31, e_Mod_moves_33, e_Mod_moves_36, e_Mod_moves_38, e_Mod_moves_39, e_Mod_moves_40, e_Mod_moves_43, e_Mod_moves_44, e_Mod_moves_47, e_Mod_moves_48, e_Mod_moves_49, e_Mod_moves_50, e_Mod_moves_51, e_Mod_moves_52, e_Mod_moves_53, e_Mod_moves_56, e_Mod_moves_57, e_Mod_moves_58, e_Mod_moves_59, e_Mod_moves_60, e_Mod_moves_61, e_Mod_moves_62, alk_in, ask_in, blk_in, bsk_in, qlk_in, ack_in, rcv_in, rcA_in, bk_i, bk_l, bk_v, hS_same, hS_ne, hS_hS, hS_2, am_10, am_01, am_00, if_true, if_false, gf_12_0, pf_12_0, gf_12_1, pf_12_1, gf_12_2, pf_12_2, gf_12_3, pf_12_3, gf_12_4, pf_12_4, gf_12_5, pf_12_5, gf_12_6, pf_12_6, gf_12_7, pf_12_7, gf_12_8, pf_12_8, gf_12_9, pf_12_9, gf_12_10, pf_12_10, gf_12_11, pf_12_11, gf_12_12, pf_12_12, gf_12_13, pf_12_13, gf_12_14, pf_12_14, gf_12_15, pf_12_15, gf_12_16, pf_12_16, gf_12_17, pf_12_17, gf_12_18, pf_12_18, gf_12_19, pf_12_19, gf_12_20, pf_12_20, o, c1, c2, c3, c4]
        rw [if_neg r2]
  · unfold aMov nMov
    rw [if_neg q, if_neg (fun r => q r.1)]
    refine ⟨h, ?_, C0, FE.rf⟩
    rw [ev_Mod_moves]
    by_cases y : 0 ≤ m ∧ m < G.1
    · rw [if_pos y] at c1
      rw [if_neg (fun z => q ⟨y, z⟩)] at c2
      simp (disch := omega) only [e_Mod_moves_0, e_Mod_moves_1, e_Mod_moves_2, e_Mod_moves_5, e_Mod_moves_5b, e_Mod_moves_8, e_Mod_moves_9, e_Mod_moves_10, e_Mod_moves_13, e_Mod_moves_13b, e_Mod_moves_16, e_Mod_moves_17, e_Mod_moves_18, e_Mod_moves_19, e_Mod_moves_20, e_Mod_moves_23, e_Mod_moves_23b, e_Mod_moves_26, e_Mod_moves_27, e_Mod_moves_28, e_Mod_moves_31, e_Mod_moves_33, e_Mod_moves_36, e_Mod_moves_38, e_Mod_moves_39, e_Mod_moves_40, e_Mod_moves_43, e_Mod_moves_44, e_Mod_moves_47, e_Mod_moves_48, e_Mod_moves_49, e_Mod_moves_50, e_Mod_moves_51, e_Mod_moves_52, e_Mod_moves_53, e_Mod_moves_56, e_Mod_moves_57, e_Mod_moves_58, e_Mod_moves_59, e_Mod_moves_60, e_Mod_moves_61, e_Mod_moves_62, alk_in, ask_in, blk_in, bsk_in, qlk_in, ack_in, rcv_in, rcA_in, bk_i, bk_l, bk_v, hS_same, hS_ne, hS_hS, hS_2, am_10, am_01, am_00, if_true, if_false, gf_12_0, pf_12_0, gf_12_1, pf_12_1, gf_12_2, pf_12_2, gf_12_3, pf_12_3, gf_12_4, pf_12_4, gf_12_5, pf_12_5, gf_12_6, pf_12_6, gf_12_7, pf_12_7, gf_12_8, pf_12_8, gf_12_9, pf_12_9, gf_12_10, pf_12_10, gf_12_11, pf_12_11, gf_12_12, pf_12_12, gf_12_13, pf_12_13, gf_12_14, pf_12_14, gf_12_15, pf_12_15, gf_12_16, pf_12_16, gf_12_17, pf_12_17, gf_12_18, pf_12_18, gf_12_19, pf_12_19, gf_12_20, pf_12_20, o, c1, c2]
    · rw [if_neg y] at c1
      simp (disch := omega) only [e_Mod_moves_0, e_Mod_moves_1, e_Mod_moves_2, e_Mod_moves_5, e_Mod_moves_5b, e_Mod_moves_8, e_Mod_moves_9, e_Mod_moves_10, e_Mod_moves_13, e_Mod_moves_13b, e_Mod_moves_16, e_Mod_moves_17, e_Mod_moves_18, e_Mod_moves_19, e_Mod_moves_20, e_Mod_moves_23, e_Mod_moves_23b, e_Mod_moves_26, e_Mod_moves_27, e_Mod_moves_28, e_Mod_moves_31, e_Mod_moves_33, e_Mod_moves_36, e_Mod_moves_38, e_Mod_moves_39, e_Mod_moves_40, e_Mod_moves_43, e_Mod_moves_44, e_Mod_moves_47, e_Mod_moves_48, e_Mod_moves_49, e_Mod_moves_50, e_Mod_moves_51, e_Mod_moves_52, e_Mod_moves_53, e_Mod_moves_56, e_Mod_moves_57, e_Mod_moves_58, e_Mod_moves_59, e_Mod_moves_60, e_Mod_moves_61, e_Mod_moves_62, alk_in, ask_in, blk_in, bsk_in, qlk_in, ack_in, rcv_in, rcA_in, bk_i, bk_l, bk_v, hS_same, hS_ne, hS_hS, hS_2, am_10, am_01, am_00, if_true, if_false, gf_12_0, pf_12_0, gf_12_1, pf_12_1, gf_12_2, pf_12_2, gf_12_3, pf_12_3, gf_12_4, pf_12_4, gf_12_5, pf_12_5, gf_12_6, pf_12_6, gf_12_7, pf_12_7, gf_12_8, pf_12_8, gf_12_9, pf_12_9, gf_12_10, pf_12_10, gf_12_11, pf_12_11, gf_12_12, pf_12_12, gf_12_13, pf_12_13, gf_12_14, pf_12_14, gf_12_15, pf_12_15, gf_12_16, pf_12_16, gf_12_17, pf_12_17, gf_12_18, pf_12_18, gf_12_19, pf_12_19, gf_12_20, pf_12_20, o, c1]
theorem q_feigns {Z : St} (C : MZ h tr L kk G Z) (hw : WT G Z.1) (hk : Z.2.1 ≤ 10) {m x : Int} (hm : rg32 m) (hx : rg32 x) : ∃ h', ev mMod_feigns [vR 120, vI m, vI x] h = some (some (vI (aFei G Z.1 m x)), h') ∧ MZ h' tr L kk G (nFei G Z m x) ∧ FE [120, 124, 125] h h' := by
  unfold rg32 at hm hx
  have c2 := c_min (h := h) (v := x) (x := 0) (y := 4) hx (by omega) (by omega)
  have C0 := C
  obtain ⟨⟨x12, x13, x14, x15, o⟩, S, P, s⟩ := C
  unfold MoA at o
  have hn := hw.1
  have S' : RepM h G.1 G.2.1 G.2.2.1 Z.1.1 Z.1.2.1 Z.1.2.2.1 G.2.2.2 Z.1.2.2.2 := S
  have c1 := m_isMan S' hw.1 hm
  by_cases q : (0 ≤ m ∧ m < G.1) ∧ 0 ≤ x ∧ x ≤ 4
  · rw [if_pos q.1] at c1
    rw [if_pos q.2] at c2
    obtain ⟨m, rfl⟩ : ∃ k : Nat, m = (k : Int) := ⟨m.toNat, by omega⟩
    have hmn : m < G.1 := by omega
    have c3 := m_isIn S' hw hmn
    have hso := (hw.2.2.2.1 m hmn).2
    obtain ⟨_, _, _, _, _, _, _, _, T0, F0, _, ta0, b0, _, _, _, r30, rr0⟩ := S'
    have z0 := (rr0 m hmn).2.2.1
    unfold aFei nFei
    rw [if_pos q]
    by_cases r : cFei G Z.1 m x
    · rw [if_pos r, if_pos r]
      obtain ⟨-, r1, r2⟩ := r
      rw [Int.toNat_natCast] at r1 r2 ⊢
      rw [if_neg r1] at c3
      obtain ⟨h1, e1, C1, f1⟩ := q_keeps C0 hw.1 hk
      have o1 := C1.1
      obtain ⟨z12, z13, z14, z15, o1⟩ := o1
      unfold MoA at o1
      have S1 : RepM h1 G.1 G.2.1 G.2.2.1 Z.1.1 Z.1.2.1 Z.1.2.2.1 G.2.2.2 Z.1.2.2.2 := C1.2.1
      have S1' := S1
      obtain ⟨_, _, _, _, _, _, _, _, T1, F1, _, ta1, b1, _, _, _, r31, rr1⟩ := S1'
      have S2 := RepM.setSo S1 hw.1 (m := m) (by omega) x b1
      have f2 : FE [124] h1 (hS h1 124 (cI 0 19 (fun j => if j = 7 + m then x else F1 j))) := FE.st (by decide)
      refine ⟨_, ?_, MZ.now C1 S2 (C1.2.2.2.fe f2 (by decide)) f2 (by decide), (f1.wd (by decide)).tr (f2.wd (by decide))⟩
      have z := (rr1 m hmn).2.2.1
      rw [ev_Mod_feigns]
      simp (disch := omega) only [e_Mod_feigns_0, e_Mod_feigns_1, e_Mod_feigns_2, e_Mod_feigns_5, e_Mod_feigns_5b, e_Mod_feigns_8, e_Mod_feigns_9, e_Mod_feigns_10, e_Mod_feigns_11, e_Mod_feigns_14, e_Mod_feigns_14b, e_Mod_feigns_17, e_Mod_feigns_18, e_Mod_feigns_19, e_Mod_feigns_20, e_Mod_feigns_21, e_Mod_feigns_24, e_Mod_feigns_24b, e_Mod_feigns_27, e_Mod_feigns_28, e_Mod_feigns_31, e_Mod_feigns_33, e_Mod_feigns_34, e_Mod_feigns_35, e_Mod_feigns_36, e_Mod_feigns_37, e_Mod_feigns_40, e_Mod_feigns_42, e_Mod_feigns_43, e_Mod_feigns_44, e_Mod_feigns_47, e_Mod_feigns_48, e_Mod_feigns_51, e_Mod_feigns_53, e_Mod_feigns_54, e_Mod_feigns_55, e_Mod_feigns_56, e_Mod_feigns_57, e_Mod_feigns_58, e_Mod_feigns_61, e_Mod_feigns_63, e_Mod_feigns_64, e_Mod_feigns_65, e_Mod_feigns_66, e_Mod_feigns_67, e_Mod_feigns_68, alk_in, ask_in, blk_in, bsk_in, qlk_in, ack_in, rcv_in, rcA_in, bk_i, bk_l, bk_v, hS_same, hS_ne, hS_hS, hS_2, am_10, am_01, am_00, if_true, if_false, gf_12_0, pf_12_0, gf_12_1, pf_12_1, gf_12_2, pf_12_2, gf_12_3, pf_12_3, gf_12_4, pf_12_4, gf_12_5, pf_12_5, gf_12_6, pf_12_6, gf_12_7, pf_12_7, gf_12_8, pf_12_8, gf_12_9, pf_12_9, gf_12_10, pf_12_10, gf_12_11, pf_12_11, gf_12_12, pf_12_12, gf_12_13, pf_12_13, gf_12_14, pf_12_14, gf_12_15, pf_12_15, gf_12_16, pf_12_16, gf_12_17, pf_12_17, gf_12_18, pf_12_18, gf_12_19, pf_12_19, gf_12_20, pf_12_20, o, c1, c2, c3, e1, o1, b0, b1, tn_7, z0, z]
      rw [if_neg r2]
    · rw [if_neg r, if_neg r]
      refine ⟨h, ?_, C0, FE.rf⟩
      rw [ev_Mod_feigns]
      by_cases r1 : Z.1.2.1 m = -9
      · rw [if_pos r1] at c3
        simp (disch := omega) only [e_Mod_feigns_0, e_Mod_feigns_1, e_Mod_feigns_2, e_Mod_feigns_5, e_Mod_feigns_5b, e_Mod_feigns_8, e_Mod_feigns_9, e_Mod_feigns_10, e_Mod_feigns_11, e_Mod_feigns_14, e_Mod_feigns_14b, e_Mod_feigns_17, e_Mod_feigns_18, e_Mod_feigns_19, e_Mod_feigns_20, e_Mod_feigns_21, e_Mod_feigns_24, e_Mod_feigns_24b, e_Mod_feigns_27, e_Mod_feigns_28, e_Mod_feigns_31, e_Mod_feigns_33, e_Mod_feigns_34, e_Mod_feigns_35, e_Mod_feigns_36, e_Mod_feigns_37, e_Mod_feigns_40, e_Mod_feigns_42, e_Mod_feigns_43, e_Mod_feigns_44, e_Mod_feigns_47, e_Mod_feigns_48, e_Mod_feigns_51, e_Mod_feigns_53, e_Mod_feigns_54, e_Mod_feigns_55, e_Mod_feigns_56, e_Mod_feigns_57, e_Mod_feigns_58, e_Mod_feigns_61, e_Mod_feigns_63, e_Mod_feigns_64, e_Mod_feigns_65, e_Mod_feigns_66, e_Mod_feigns_67, e_Mod_feigns_68, alk_in, ask_in, blk_in, bsk_in, qlk_in, ack_in, rcv_in, rcA_in, bk_i, bk_l, bk_v, hS_same, hS_ne, hS_hS, hS_2, am_10, am_01, am_00, if_true, if_false, gf_12_0, pf_12_0, gf_12_1, pf_12_1, gf_12_2, pf_12_2, gf_12_3, pf_12_3, gf_12_4, pf_12_4, gf_12_5, pf_12_5, gf_12_6, pf_12_6, gf_12_7, pf_12_7, gf_12_8, pf_12_8, gf_12_9, pf_12_9, gf_12_10, pf_12_10, gf_12_11, pf_12_11, gf_12_12, pf_12_12, gf_12_13, pf_12_13, gf_12_14, pf_12_14, gf_12_15, pf_12_15, gf_12_16, pf_12_16, gf_12_17, pf_12_17, gf_12_18, pf_12_18, gf_12_19, pf_12_19, gf_12_20, pf_12_20, o, c1, c2, c3]
      · rw [if_neg r1] at c3
        have r2 : Z.1.2.2.1 m = x := by
          by_cases w : Z.1.2.2.1 m = x
          · exact w
          · exact absurd ⟨q, by rw [Int.toNat_natCast]; exact r1, by rw [Int.toNat_natCast]; exact w⟩ r
        simp (disch := omega) only [e_Mod_feigns_0, e_Mod_feigns_1, e_Mod_feigns_2, e_Mod_feigns_5, e_Mod_feigns_5b, e_Mod_feigns_8, e_Mod_feigns_9, e_Mod_feigns_10, e_Mod_feigns_11, e_Mod_feigns_14, e_Mod_feigns_14b, e_Mod_feigns_17, e_Mod_feigns_18, e_Mod_feigns_19, e_Mod_feigns_20, e_Mod_feigns_21, e_Mod_feigns_24, e_Mod_feigns_24b, e_Mod_feigns_27, e_Mod_feigns_28, e_Mod_feigns_31, e_Mod_feigns_33, e_Mod_feigns_34, e_Mod_feigns_35, e_Mod_feigns_36, e_Mod_feigns_37, e_Mod_feigns_40, e_Mod_feigns_42, e_Mod_feigns_43, e_Mod_feigns_44, e_Mod_feigns_47, e_Mod_feigns_48, e_Mod_feigns_51, e_Mod_feigns_53, e_Mod_feigns_54, e_Mod_feigns_55, e_Mod_feigns_56, e_Mod_feigns_57, e_Mod_feigns_58, e_Mod_feigns_61, e_Mod_feigns_63, e_Mod_feigns_64, e_Mod_feigns_65, e_Mod_feigns_66, e_Mod_feigns_67, e_Mod_feigns_68, alk_in, ask_in, blk_in, bsk_in, qlk_in, ack_in, rcv_in, rcA_in, bk_i, bk_l, bk_v, hS_same, hS_ne, hS_hS, hS_2, am_10, am_01, am_00, if_true, if_false, gf_12_0, pf_12_0, gf_12_1, pf_12_1, gf_12_2, pf_12_2, gf_12_3, pf_12_3, gf_12_4, pf_12_4, gf_12_5, pf_12_5, gf_12_6, pf_12_6, gf_12_7, pf_12_7, gf_12_8, pf_12_8, gf_12_9, pf_12_9, gf_12_10, pf_12_10, gf_12_11, pf_12_11, gf_12_12, pf_12_12, gf_12_13, pf_12_13, gf_12_14, pf_12_14, gf_12_15, pf_12_15, gf_12_16, pf_12_16, gf_12_17, pf_12_17, gf_12_18, pf_12_18, gf_12_19, pf_12_19, gf_12_20, pf_12_20, o, c1, c2, c3, b0, tn_7, z0]
        rw [if_pos r2]
  · unfold aFei nFei
    rw [if_neg q, if_neg (fun r => q r.1)]
    refine ⟨h, ?_, C0, FE.rf⟩
    rw [ev_Mod_feigns]
    by_cases y : 0 ≤ m ∧ m < G.1
    · rw [if_pos y] at c1
      rw [if_neg (fun z => q ⟨y, z⟩)] at c2
      simp (disch := omega) only [e_Mod_feigns_0, e_Mod_feigns_1, e_Mod_feigns_2, e_Mod_feigns_5, e_Mod_feigns_5b, e_Mod_feigns_8, e_Mod_feigns_9, e_Mod_feigns_10, e_Mod_feigns_11, e_Mod_feigns_14, e_Mod_feigns_14b, e_Mod_feigns_17, e_Mod_feigns_18, e_Mod_feigns_19, e_Mod_feigns_20, e_Mod_feigns_21, e_Mod_feigns_24, e_Mod_feigns_24b, e_Mod_feigns_27, e_Mod_feigns_28, e_Mod_feigns_31, e_Mod_feigns_33, e_Mod_feigns_34, e_Mod_feigns_35, e_Mod_feigns_36, e_Mod_feigns_37, e_Mod_feigns_40, e_Mod_feigns_42, e_Mod_feigns_43, e_Mod_feigns_44, e_Mod_feigns_47, e_Mod_feigns_48, e_Mod_feigns_51, e_Mod_feigns_53, e_Mod_feigns_54, e_Mod_feigns_55, e_Mod_feigns_56, e_Mod_feigns_57, e_Mod_feigns_58, e_Mod_feigns_61, e_Mod_feigns_63, e_Mod_feigns_64, e_Mod_feigns_65, e_Mod_feigns_66, e_Mod_feigns_67, e_Mod_feigns_68, alk_in, ask_in, blk_in, bsk_in, qlk_in, ack_in, rcv_in, rcA_in, bk_i, bk_l, bk_v, hS_same, hS_ne, hS_hS, hS_2, am_10, am_01, am_00, if_true, if_false, gf_12_0, pf_12_0, gf_12_1, pf_12_1, gf_12_2, pf_12_2, gf_12_3, pf_12_3, gf_12_4, pf_12_4, gf_12_5, pf_12_5, gf_12_6, pf_12_6, gf_12_7, pf_12_7, gf_12_8, pf_12_8, gf_12_9, pf_12_9, gf_12_10, pf_12_10, gf_12_11, pf_12_11, gf_12_12, pf_12_12, gf_12_13, pf_12_13, gf_12_14, pf_12_14, gf_12_15, pf_12_15, gf_12_16, pf_12_16, gf_12_17, pf_12_17, gf_12_18, pf_12_18, gf_12_19, pf_12_19, gf_12_20, pf_12_20, o, c1, c2]
    · rw [if_neg y] at c1
      simp (disch := omega) only [e_Mod_feigns_0, e_Mod_feigns_1, e_Mod_feigns_2, e_Mod_feigns_5, e_Mod_feigns_5b, e_Mod_feigns_8, e_Mod_feigns_9, e_Mod_feigns_10, e_Mod_feigns_11, e_Mod_feigns_14, e_Mod_feigns_14b, e_Mod_feigns_17, e_Mod_feigns_18, e_Mod_feigns_19, e_Mod_feigns_20, e_Mod_feigns_21, e_Mod_feigns_24, e_Mod_feigns_24b, e_Mod_feigns_27, e_Mod_feigns_28, e_Mod_feigns_31, e_Mod_feigns_33, e_Mod_feigns_34, e_Mod_feigns_35, e_Mod_feigns_36, e_Mod_feigns_37, e_Mod_feigns_40, e_Mod_feigns_42, e_Mod_feigns_43, e_Mod_feigns_44, e_Mod_feigns_47, e_Mod_feigns_48, e_Mod_feigns_51, e_Mod_feigns_53, e_Mod_feigns_54, e_Mod_feigns_55, e_Mod_feigns_56, e_Mod_feigns_57, e_Mod_feigns_58, e_Mod_feigns_61, e_Mod_feigns_63, e_Mod_feigns_64, e_Mod_feigns_65, e_Mod_feigns_66, e_Mod_feigns_67, e_Mod_feigns_68, alk_in, ask_in, blk_in, bsk_in, qlk_in, ack_in, rcv_in, rcA_in, bk_i, bk_l, bk_v, hS_same, hS_ne, hS_hS, hS_2, am_10, am_01, am_00, if_true, if_false, gf_12_0, pf_12_0, gf_12_1, pf_12_1, gf_12_2, pf_12_2, gf_12_3, pf_12_3, gf_12_4, pf_12_4, gf_12_5, pf_12_5, gf_12_6, pf_12_6, gf_12_7, pf_12_7, gf_12_8, pf_12_8, gf_12_9, pf_12_9, gf_12_10, pf_12_10, gf_12_11, pf_12_11, gf_12_12, pf_12_12, gf_12_13, pf_12_13, gf_12_14, pf_12_14, gf_12_15, pf_12_15, gf_12_16, pf_12_16, gf_12_17, pf_12_17, gf_12_18, pf_12_18, gf_12_19, pf_12_19, gf_12_20, pf_12_20, o, c1]
end MDo
