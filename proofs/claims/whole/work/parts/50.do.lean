/-! month, moves, feigns -/
section Do
variable {h : am_H} {G : Gl} {lo : Int}
theorem CZ.now {h' : am_H} {T T' : Tm} {k : Nat} {p : Nat → Tm} (C : CZ h lo G (T, k, p)) (hk : k ≤ 10) (S : RT h' 10 G T') (f : Fr 10 16 h h') : CZ h' lo G (T', k, p) := by
  obtain ⟨O, -, P⟩ := C
  exact ⟨(f.at (by omega)).trans O, S, P.on hk (fun x hx => f.at (by omega))⟩
theorem pushP_le {k : Nat} {p : Nat → Tm} {T : Tm} (hk : k ≤ 10) : (pushP k p T).1 ≤ 10 := by
  unfold pushP
  by_cases q : 10 ≤ k
  · rw [if_pos q]; exact Nat.le_refl 10
  · rw [if_neg q]; show k + 1 ≤ 10; omega
theorem k_month {Z : St} (C : CZ h lo G Z) (hw : WT G Z.1) (ht : 0 ≤ Z.1.1 ∧ Z.1.1 ≤ 999) (hk : Z.2.1 ≤ 10) : ∃ h', ev mCell_month [vR 1] h = some (some (vI (aMon G Z.1)), h') ∧ CZ h' lo G (nMon G Z) ∧ FP pZ h h' := by
  unfold aMon nMon
  have O := C.1
  have ob := C.2.1.ob
  unfold CeO at O
  by_cases q : 999 ≤ Z.1.1
  · rw [if_pos q, if_pos q]
    refine ⟨h, ?_, C, FP.rf⟩
    rw [ev_Cell_month]
    simp (disch := omega) only [e_Cell_month_0, e_Cell_month_1, e_Cell_month_4, e_Cell_month_7, e_Cell_month_10, e_Cell_month_13, e_Cell_month_15, e_Cell_month_16, e_Cell_month_17, e_Cell_month_20, e_Cell_month_21, e_Cell_month_24, e_Cell_month_27, alk_in, ask_in, blk_in, bsk_in, qlk_in, ack_in, rcv_in, rcA_in, bk_i, bk_l, bk_v, hS_same, hS_ne, hS_hS, hS_2, am_10, am_01, am_00, if_true, if_false, gf_5_0, pf_5_0, gf_5_1, pf_5_1, gf_5_2, pf_5_2, gf_5_3, pf_5_3, gf_5_4, pf_5_4, gf_5_5, pf_5_5, gf_5_6, pf_5_6, gf_5_7, pf_5_7, gf_11_0, pf_11_0, gf_11_1, pf_11_1, gf_11_2, pf_11_2, gf_11_3, pf_11_3, gf_11_4, pf_11_4, gf_11_5, pf_11_5, gf_11_6, pf_11_6, gf_11_7, pf_11_7, gf_11_8, pf_11_8, gf_11_9, pf_11_9, gf_11_10, pf_11_10, gf_11_11, pf_11_11, O, ob]
    rw [if_neg (by omega)]
  · rw [if_neg q, if_neg q]
    obtain ⟨h1, e1, C1, f1⟩ := k_remember C hw hk
    have S1 : RT h1 10 G Z.1 := C1.2.1
    obtain ⟨h2, e2, S2, f2⟩ := d_passMonth (show RepS h1 10 G.1 G.2.1 Z.1.1 Z.1.2.1 Z.1.2.2.1 G.2.2.2 Z.1.2.2.2 from S1) hw
    have O1 := C1.1
    unfold CeO at O1
    have ob1 := S1.ob
    refine ⟨h2, ?_, CZ.now C1 (pushP_le hk) S2 f2, f1.tr (f2.fp (fun x hx => by unfold pZ; omega))⟩
    rw [ev_Cell_month]
    simp (disch := omega) only [e_Cell_month_0, e_Cell_month_1, e_Cell_month_4, e_Cell_month_7, e_Cell_month_10, e_Cell_month_13, e_Cell_month_15, e_Cell_month_16, e_Cell_month_17, e_Cell_month_20, e_Cell_month_21, e_Cell_month_24, e_Cell_month_27, alk_in, ask_in, blk_in, bsk_in, qlk_in, ack_in, rcv_in, rcA_in, bk_i, bk_l, bk_v, hS_same, hS_ne, hS_hS, hS_2, am_10, am_01, am_00, if_true, if_false, gf_5_0, pf_5_0, gf_5_1, pf_5_1, gf_5_2, pf_5_2, gf_5_3, pf_5_3, gf_5_4, pf_5_4, gf_5_5, pf_5_5, gf_5_6, pf_5_6, gf_5_7, pf_5_7, gf_11_0, pf_11_0, gf_11_1, pf_11_1, gf_11_2, pf_11_2, gf_11_3, pf_11_3, gf_11_4, pf_11_4, gf_11_5, pf_11_5, gf_11_6, pf_11_6, gf_11_7, pf_11_7, gf_11_8, pf_11_8, gf_11_9, pf_11_9, gf_11_10, pf_11_10, gf_11_11, pf_11_11, O, ob, e1, O1, ob1, e2]
    rw [if_pos (by omega)]
theorem k_moves {Z : St} (C : CZ h lo G Z) (hw : WT G Z.1) (hk : Z.2.1 ≤ 10) {m x : Int} (hm : rg32 m) (hx : rg32 x) : ∃ h', ev mCell_moves [vR 1, vI m, vI x] h = some (some (vI (aMov G Z.1 m x)), h') ∧ CZ h' lo G (nMov G Z m x) ∧ FP pZ h h' := by
  unfold rg32 at hm hx
  have O := C.1
  have S := C.2.1
  have ob := S.ob
  unfold CeO at O
  have hn := hw.1
  have c1 := d_hasMan (show RepS h 10 G.1 G.2.1 Z.1.1 Z.1.2.1 Z.1.2.2.1 G.2.2.2 Z.1.2.2.2 from S) hm hw.1
  have c2 := d_hasCell (show RepS h 10 G.1 G.2.1 Z.1.1 Z.1.2.1 Z.1.2.2.1 G.2.2.2 Z.1.2.2.2 from S) hx hw.2.2.1
  by_cases q : (0 ≤ m ∧ m < G.1) ∧ 0 ≤ x ∧ x < G.2.1
  · rw [if_pos q.1] at c1
    rw [if_pos q.2] at c2
    obtain ⟨m, rfl⟩ : ∃ k : Nat, m = (k : Int) := ⟨m.toNat, by omega⟩
    obtain ⟨x, rfl⟩ : ∃ k : Nat, x = (k : Int) := ⟨x.toNat, by omega⟩
    have hmn : m < G.1 := by omega
    have c3 := d_isIn (show RepS h 10 G.1 G.2.1 Z.1.1 Z.1.2.1 Z.1.2.2.1 G.2.2.2 Z.1.2.2.2 from S) hw hmn
    have c4 := d_whoIn (show RepS h 10 G.1 G.2.1 Z.1.1 Z.1.2.1 Z.1.2.2.1 G.2.2.2 Z.1.2.2.2 from S) hw (x := (x : Int)) hx (by omega)
    have wb := who_b G.1 Z.1.2.1 (x : Int)
    unfold aMov nMov
    rw [if_pos q]
    by_cases r : cMov G Z.1 m x
    · rw [if_pos r, if_pos r]
      obtain ⟨-, r1, r2⟩ := r
      rw [Int.toNat_natCast] at r1 ⊢
      rw [if_neg r1] at c3
      obtain ⟨h1, e1, C1, f1⟩ := k_remember C hw hk
      have S1 : RT h1 10 G Z.1 := C1.2.1
      have hno : ∀ j, j < G.1 → Z.1.2.1 j = (x : Int) → j = m := by
        have wr := who_range G.1 Z.1.2.1 (x : Int)
        intro j hj e
        rcases wr with ⟨-, w⟩ | ⟨i, hi, w, -⟩
        · exact absurd e (w j hj)
        · rw [r2] at w
          omega
      obtain ⟨h2, e2, S2, f2⟩ := d_moveTo (show RepS h1 10 G.1 G.2.1 Z.1.1 Z.1.2.1 Z.1.2.2.1 G.2.2.2 Z.1.2.2.2 from S1) hw hmn r1 (x0 := x) (by omega) hno
      have O1 := C1.1
      unfold CeO at O1
      have ob1 := S1.ob
      refine ⟨h2, ?_, CZ.now C1 (pushP_le hk) S2 f2, f1.tr (f2.fp (fun x hx => by unfold pZ; omega))⟩
      obtain ⟨ce', so', ha', ye', ic, ⟨s0, s1, s2, s3, s4, s5⟩, rr, -⟩ := S
      have z := (rr m hmn).1
      rw [ev_Cell_moves]
      simp (disch := omega) only [e_Cell_moves_0, e_Cell_moves_1, e_Cell_moves_4, e_Cell_moves_5, e_Cell_moves_8, e_Cell_moves_8b, e_Cell_moves_11, e_Cell_moves_12, e_Cell_moves_15, e_Cell_moves_16, e_Cell_moves_19, e_Cell_moves_19b, e_Cell_moves_22, e_Cell_moves_23, e_Cell_moves_24, e_Cell_moves_25, e_Cell_moves_28, e_Cell_moves_29, e_Cell_moves_32, e_Cell_moves_32b, e_Cell_moves_35, e_Cell_moves_36, e_Cell_moves_39, e_Cell_moves_40, e_Cell_moves_43, e_Cell_moves_45, e_Cell_moves_48, e_Cell_moves_50, e_Cell_moves_51, e_Cell_moves_52, e_Cell_moves_55, e_Cell_moves_58, e_Cell_moves_59, e_Cell_moves_60, e_Cell_moves_61, e_Cell_moves_62, e_Cell_moves_65, e_Cell_moves_66, e_Cell_moves_69, e_Cell_moves_70, e_Cell_moves_71, e_Cell_moves_74, e_Cell_moves_75, alk_in, ask_in, blk_in, bsk_in, qlk_in, ack_in, rcv_in, rcA_in, bk_i, bk_l, bk_v, hS_same, hS_ne, hS_hS, hS_2, am_10, am_01, am_00, if_true, if_false, gf_5_0, pf_5_0, gf_5_1, pf_5_1, gf_5_2, pf_5_2, gf_5_3, pf_5_3, gf_5_4, pf_5_4, gf_5_5, pf_5_5, gf_5_6, pf_5_6, gf_5_7, pf_5_7, gf_11_0, pf_11_0, gf_11_1, pf_11_1, gf_11_2, pf_11_2, gf_11_3, pf_11_3, gf_11_4, pf_11_4, gf_11_5, pf_11_5, gf_11_6, pf_11_6, gf_11_7, pf_11_7, gf_11_8, pf_11_8, gf_11_9, pf_11_9, gf_11_10, pf_11_10, gf_11_11, pf_11_11, O, ob, c1, c2, c3, c4, e1, O1, ob1, e2, s1, z, Int.toNat_natCast, r2]
    · rw [if_neg r, if_neg r]
      refine ⟨h, ?_, C, FP.rf⟩
      rw [ev_Cell_moves]
      by_cases r1 : Z.1.2.1 m = -9
      · rw [if_pos r1] at c3
        simp (disch := omega) only [e_Cell_moves_0, e_Cell_moves_1, e_Cell_moves_4, e_Cell_moves_5, e_Cell_moves_8, e_Cell_moves_8b, e_Cell_moves_11, e_Cell_moves_12, e_Cell_moves_15, e_Cell_moves_16, e_Cell_moves_19, e_Cell_moves_19b, e_Cell_moves_22, e_Cell_moves_23, e_Cell_moves_24, e_Cell_moves_25, e_Cell_moves_28, e_Cell_moves_29, e_Cell_moves_32, e_Cell_moves_32b, e_Cell_moves_35, e_Cell_moves_36, e_Cell_moves_39, e_Cell_moves_40, e_Cell_moves_43, e_Cell_moves_45, e_Cell_moves_48, e_Cell_moves_50, e_Cell_moves_51, e_Cell_moves_52, e_Cell_moves_55, e_Cell_moves_58, e_Cell_moves_59, e_Cell_moves_60, e_Cell_moves_61, e_Cell_moves_62, e_Cell_moves_65, e_Cell_moves_66, e_Cell_moves_69, e_Cell_moves_70, e_Cell_moves_71, e_Cell_moves_74, e_Cell_moves_75, alk_in, ask_in, blk_in, bsk_in, qlk_in, ack_in, rcv_in, rcA_in, bk_i, bk_l, bk_v, hS_same, hS_ne, hS_hS, hS_2, am_10, am_01, am_00, if_true, if_false, gf_5_0, pf_5_0, gf_5_1, pf_5_1, gf_5_2, pf_5_2, gf_5_3, pf_5_3, gf_5_4, pf_5_4, gf_5_5, pf_5_5, gf_5_6, pf_5_6, gf_5_7, pf_5_7, gf_11_0, pf_11_0, gf_11_1, pf_11_1, gf_11_2, pf_11_2, gf_11_3, pf_11_3, gf_11_4, pf_11_4, gf_11_5, pf_11_5, gf_11_6, pf_11_6, gf_11_7, pf_11_7, gf_11_8, pf_11_8, gf_11_9, pf_11_9, gf_11_10, pf_11_10, gf_11_11, pf_11_11, O, ob, c1, c2, c3]
      · rw [if_neg r1] at c3
        have r2 : ¬ who G.1 Z.1.2.1 (x : Int) = -9 := fun r2 => r ⟨q, by rw [Int.toNat_natCast]; exact r1, r2⟩
        simp (disch := omega) only [e_Cell_moves_0, e_Cell_moves_1, e_Cell_moves_4, e_Cell_moves_5, e_Cell_moves_8, e_Cell_moves_8b, e_Cell_moves_11, e_Cell_moves_12, e_Cell_moves_15, e_Cell_moves_16, e_Cell_moves_19, e_Cell_moves_19b, e_Cell_moves_22, e_Cell_moves_23, e_Cell_moves_24, e_Cell_moves_25, e_Cell_moves_28, e_Cell_moves_29, e_Cell_moves_32, e_Cell_moves_32b, e_Cell_moves_35, e_Cell_moves_36, e_Cell_moves_39, e_Cell_moves_40, e_Cell_moves_43, e_Cell_moves_45, e_Cell_moves_48, e_Cell_moves_50, e_Cell_moves_51, e_Cell_moves_52, e_Cell_moves_55, e_Cell_moves_58, e_Cell_moves_59, e_Cell_moves_60, e_Cell_moves_61, e_Cell_moves_62, e_Cell_moves_65, e_Cell_moves_66, e_Cell_moves_69, e_Cell_moves_70, e_Cell_moves_71, e_Cell_moves_74, e_Cell_moves_75, alk_in, ask_in, blk_in, bsk_in, qlk_in, ack_in, rcv_in, rcA_in, bk_i, bk_l, bk_v, hS_same, hS_ne, hS_hS, hS_2, am_10, am_01, am_00, if_true, if_false, gf_5_0, pf_5_0, gf_5_1, pf_5_1, gf_5_2, pf_5_2, gf_5_3, pf_5_3, gf_5_4, pf_5_4, gf_5_5, pf_5_5, gf_5_6, pf_5_6, gf_5_7, pf_5_7, gf_11_0, pf_11_0, gf_11_1, pf_11_1, gf_11_2, pf_11_2, gf_11_3, pf_11_3, gf_11_4, pf_11_4, gf_11_5, pf_11_5, gf_11_6, pf_11_6, gf_11_7, pf_11_7, gf_11_8, pf_11_8, gf_11_9, pf_11_9, gf_11_10, pf_11_10, gf_11_11, pf_11_11, O, ob, c1, c2, c3, c4]
        rw [if_neg r2]
  · unfold aMov nMov
    rw [if_neg q, if_neg (fun r => q r.1)]
    refine ⟨h, ?_, C, FP.rf⟩
    rw [ev_Cell_moves]
    by_cases y : 0 ≤ m ∧ m < G.1
    · rw [if_pos y] at c1
      rw [if_neg (fun z => q ⟨y, z⟩)] at c2
      simp (disch := omega) only [e_Cell_moves_0, e_Cell_moves_1, e_Cell_moves_4, e_Cell_moves_5, e_Cell_moves_8, e_Cell_moves_8b, e_Cell_moves_11, e_Cell_moves_12, e_Cell_moves_15, e_Cell_moves_16, e_Cell_moves_19, e_Cell_moves_19b, e_Cell_moves_22, e_Cell_moves_23, e_Cell_moves_24, e_Cell_moves_25, e_Cell_moves_28, e_Cell_moves_29, e_Cell_moves_32, e_Cell_moves_32b, e_Cell_moves_35, e_Cell_moves_36, e_Cell_moves_39, e_Cell_moves_40, e_Cell_moves_43, e_Cell_moves_45, e_Cell_moves_48, e_Cell_moves_50, e_Cell_moves_51, e_Cell_moves_52, e_Cell_moves_55, e_Cell_moves_58, e_Cell_moves_59, e_Cell_moves_60, e_Cell_moves_61, e_Cell_moves_62, e_Cell_moves_65, e_Cell_moves_66, e_Cell_moves_69, e_Cell_moves_70, e_Cell_moves_71, e_Cell_moves_74, e_Cell_moves_75, alk_in, ask_in, blk_in, bsk_in, qlk_in, ack_in, rcv_in, rcA_in, bk_i, bk_l, bk_v, hS_same, hS_ne, hS_hS, hS_2, am_10, am_01, am_00, if_true, if_false, gf_5_0, pf_5_0, gf_5_1, pf_5_1, gf_5_2, pf_5_2, gf_5_3, pf_5_3, gf_5_4, pf_5_4, gf_5_5, pf_5_5, gf_5_6, pf_5_6, gf_5_7, pf_5_7, gf_11_0, pf_11_0, gf_11_1, pf_11_1, gf_11_2, pf_11_2, gf_11_3, pf_11_3, gf_11_4, pf_11_4, gf_11_5, pf_11_5, gf_11_6, pf_11_6, gf_11_7, pf_11_7, gf_11_8, pf_11_8, gf_11_9, pf_11_9, gf_11_10, pf_11_10, gf_11_11, pf_11_11, O, ob, c1, c2]
    · rw [if_neg y] at c1
      simp (disch := omega) only [e_Cell_moves_0, e_Cell_moves_1, e_Cell_moves_4, e_Cell_moves_5, e_Cell_moves_8, e_Cell_moves_8b, e_Cell_moves_11, e_Cell_moves_12, e_Cell_moves_15, e_Cell_moves_16, e_Cell_moves_19, e_Cell_moves_19b, e_Cell_moves_22, e_Cell_moves_23, e_Cell_moves_24, e_Cell_moves_25, e_Cell_moves_28, e_Cell_moves_29, e_Cell_moves_32, e_Cell_moves_32b, e_Cell_moves_35, e_Cell_moves_36, e_Cell_moves_39, e_Cell_moves_40, e_Cell_moves_43, e_Cell_moves_45, e_Cell_moves_48, e_Cell_moves_50, e_Cell_moves_51, e_Cell_moves_52, e_Cell_moves_55, e_Cell_moves_58, e_Cell_moves_59, e_Cell_moves_60, e_Cell_moves_61, e_Cell_moves_62, e_Cell_moves_65, e_Cell_moves_66, e_Cell_moves_69, e_Cell_moves_70, e_Cell_moves_71, e_Cell_moves_74, e_Cell_moves_75, alk_in, ask_in, blk_in, bsk_in, qlk_in, ack_in, rcv_in, rcA_in, bk_i, bk_l, bk_v, hS_same, hS_ne, hS_hS, hS_2, am_10, am_01, am_00, if_true, if_false, gf_5_0, pf_5_0, gf_5_1, pf_5_1, gf_5_2, pf_5_2, gf_5_3, pf_5_3, gf_5_4, pf_5_4, gf_5_5, pf_5_5, gf_5_6, pf_5_6, gf_5_7, pf_5_7, gf_11_0, pf_11_0, gf_11_1, pf_11_1, gf_11_2, pf_11_2, gf_11_3, pf_11_3, gf_11_4, pf_11_4, gf_11_5, pf_11_5, gf_11_6, pf_11_6, gf_11_7, pf_11_7, gf_11_8, pf_11_8, gf_11_9, pf_11_9, gf_11_10, pf_11_10, gf_11_11, pf_11_11, O, ob, c1]
theorem k_feigns {Z : St} (C : CZ h lo G Z) (hw : WT G Z.1) (hk : Z.2.1 ≤ 10) {m x : Int} (hm : rg32 m) (hx : rg32 x) : ∃ h', ev mCell_feigns [vR 1, vI m, vI x] h = some (some (vI (aFei G Z.1 m x)), h') ∧ CZ h' lo G (nFei G Z m x) ∧ FP pZ h h' := by
  have c2 := k_isSound (h := h) hx
  unfold rg32 at hm hx
  have O := C.1
  have S := C.2.1
  have ob := S.ob
  unfold CeO at O
  have hn := hw.1
  have c1 := d_hasMan (show RepS h 10 G.1 G.2.1 Z.1.1 Z.1.2.1 Z.1.2.2.1 G.2.2.2 Z.1.2.2.2 from S) hm hw.1
  by_cases q : (0 ≤ m ∧ m < G.1) ∧ 0 ≤ x ∧ x ≤ 4
  · rw [if_pos q.1] at c1
    rw [if_pos q.2] at c2
    obtain ⟨m, rfl⟩ : ∃ k : Nat, m = (k : Int) := ⟨m.toNat, by omega⟩
    have hmn : m < G.1 := by omega
    have c3 := d_isIn (show RepS h 10 G.1 G.2.1 Z.1.1 Z.1.2.1 Z.1.2.2.1 G.2.2.2 Z.1.2.2.2 from S) hw hmn
    have hso := (hw.2.2.2.1 m hmn).2
    unfold aFei nFei
    rw [if_pos q]
    have S0 := S
    obtain ⟨ce', so', ha', ye', ic, ⟨s0, s1, s2, s3, s4, s5⟩, rr, -⟩ := S
    have z := (rr m hmn).2.1
    by_cases r : cFei G Z.1 m x
    · rw [if_pos r, if_pos r]
      obtain ⟨-, r1, r2⟩ := r
      rw [Int.toNat_natCast] at r1 r2 ⊢
      rw [if_neg r1] at c3
      obtain ⟨h1, e1, C1, f1⟩ := k_remember C hw hk
      have S1 : RT h1 10 G Z.1 := C1.2.1
      have O1 := C1.1
      unfold CeO at O1
      have ob1 := S1.ob
      have S1' := S1
      obtain ⟨ce1, so1, ha1, ye1, ic1, ⟨-, -, u2, -⟩, -⟩ := S1'
      have S2 := RepS.setSo (show RepS h1 10 G.1 G.2.1 Z.1.1 Z.1.2.1 Z.1.2.2.1 G.2.2.2 Z.1.2.2.2 from S1) (m := m) x u2
      have f2 : Fr 10 16 h1 (hS h1 (10 + 2) (cI 0 6 (fun j => if j = m then x else so1 j))) := Fr.st (by omega)
      refine ⟨_, ?_, CZ.now C1 (pushP_le hk) S2 f2, f1.tr (f2.fp (fun x hx => by unfold pZ; omega))⟩
      rw [ev_Cell_feigns]
      simp (disch := omega) only [e_Cell_feigns_0, e_Cell_feigns_1, e_Cell_feigns_4, e_Cell_feigns_5, e_Cell_feigns_8, e_Cell_feigns_8b, e_Cell_feigns_11, e_Cell_feigns_12, e_Cell_feigns_15, e_Cell_feigns_15b, e_Cell_feigns_18, e_Cell_feigns_19, e_Cell_feigns_20, e_Cell_feigns_21, e_Cell_feigns_24, e_Cell_feigns_25, e_Cell_feigns_28, e_Cell_feigns_28b, e_Cell_feigns_31, e_Cell_feigns_32, e_Cell_feigns_35, e_Cell_feigns_38, e_Cell_feigns_39, e_Cell_feigns_40, e_Cell_feigns_41, e_Cell_feigns_44, e_Cell_feigns_46, e_Cell_feigns_47, e_Cell_feigns_48, e_Cell_feigns_51, e_Cell_feigns_54, e_Cell_feigns_55, e_Cell_feigns_56, e_Cell_feigns_57, e_Cell_feigns_58, e_Cell_feigns_61, e_Cell_feigns_62, e_Cell_feigns_65, e_Cell_feigns_68, e_Cell_feigns_69, e_Cell_feigns_70, e_Cell_feigns_71, e_Cell_feigns_72, alk_in, ask_in, blk_in, bsk_in, qlk_in, ack_in, rcv_in, rcA_in, bk_i, bk_l, bk_v, hS_same, hS_ne, hS_hS, hS_2, am_10, am_01, am_00, if_true, if_false, gf_5_0, pf_5_0, gf_5_1, pf_5_1, gf_5_2, pf_5_2, gf_5_3, pf_5_3, gf_5_4, pf_5_4, gf_5_5, pf_5_5, gf_5_6, pf_5_6, gf_5_7, pf_5_7, gf_11_0, pf_11_0, gf_11_1, pf_11_1, gf_11_2, pf_11_2, gf_11_3, pf_11_3, gf_11_4, pf_11_4, gf_11_5, pf_11_5, gf_11_6, pf_11_6, gf_11_7, pf_11_7, gf_11_8, pf_11_8, gf_11_9, pf_11_9, gf_11_10, pf_11_10, gf_11_11, pf_11_11, O, ob, c1, c2, c3, e1, O1, ob1, s2, u2, z, Int.toNat_natCast]
      rw [if_neg r2]
    · rw [if_neg r, if_neg r]
      refine ⟨h, ?_, C, FP.rf⟩
      rw [ev_Cell_feigns]
      by_cases r1 : Z.1.2.1 m = -9
      · rw [if_pos r1] at c3
        simp (disch := omega) only [e_Cell_feigns_0, e_Cell_feigns_1, e_Cell_feigns_4, e_Cell_feigns_5, e_Cell_feigns_8, e_Cell_feigns_8b, e_Cell_feigns_11, e_Cell_feigns_12, e_Cell_feigns_15, e_Cell_feigns_15b, e_Cell_feigns_18, e_Cell_feigns_19, e_Cell_feigns_20, e_Cell_feigns_21, e_Cell_feigns_24, e_Cell_feigns_25, e_Cell_feigns_28, e_Cell_feigns_28b, e_Cell_feigns_31, e_Cell_feigns_32, e_Cell_feigns_35, e_Cell_feigns_38, e_Cell_feigns_39, e_Cell_feigns_40, e_Cell_feigns_41, e_Cell_feigns_44, e_Cell_feigns_46, e_Cell_feigns_47, e_Cell_feigns_48, e_Cell_feigns_51, e_Cell_feigns_54, e_Cell_feigns_55, e_Cell_feigns_56, e_Cell_feigns_57, e_Cell_feigns_58, e_Cell_feigns_61, e_Cell_feigns_62, e_Cell_feigns_65, e_Cell_feigns_68, e_Cell_feigns_69, e_Cell_feigns_70, e_Cell_feigns_71, e_Cell_feigns_72, alk_in, ask_in, blk_in, bsk_in, qlk_in, ack_in, rcv_in, rcA_in, bk_i, bk_l, bk_v, hS_same, hS_ne, hS_hS, hS_2, am_10, am_01, am_00, if_true, if_false, gf_5_0, pf_5_0, gf_5_1, pf_5_1, gf_5_2, pf_5_2, gf_5_3, pf_5_3, gf_5_4, pf_5_4, gf_5_5, pf_5_5, gf_5_6, pf_5_6, gf_5_7, pf_5_7, gf_11_0, pf_11_0, gf_11_1, pf_11_1, gf_11_2, pf_11_2, gf_11_3, pf_11_3, gf_11_4, pf_11_4, gf_11_5, pf_11_5, gf_11_6, pf_11_6, gf_11_7, pf_11_7, gf_11_8, pf_11_8, gf_11_9, pf_11_9, gf_11_10, pf_11_10, gf_11_11, pf_11_11, O, ob, c1, c2, c3]
      · rw [if_neg r1] at c3
        have r2 : Z.1.2.2.1 m = x := by
          by_cases w : Z.1.2.2.1 m = x
          · exact w
          · exact absurd ⟨q, by rw [Int.toNat_natCast]; exact r1, by rw [Int.toNat_natCast]; exact w⟩ r
        simp (disch := omega) only [e_Cell_feigns_0, e_Cell_feigns_1, e_Cell_feigns_4, e_Cell_feigns_5, e_Cell_feigns_8, e_Cell_feigns_8b, e_Cell_feigns_11, e_Cell_feigns_12, e_Cell_feigns_15, e_Cell_feigns_15b, e_Cell_feigns_18, e_Cell_feigns_19, e_Cell_feigns_20, e_Cell_feigns_21, e_Cell_feigns_24, e_Cell_feigns_25, e_Cell_feigns_28, e_Cell_feigns_28b, e_Cell_feigns_31, e_Cell_feigns_32, e_Cell_feigns_35, e_Cell_feigns_38, e_Cell_feigns_39, e_Cell_feigns_40, e_Cell_feigns_41, e_Cell_feigns_44, e_Cell_feigns_46, e_Cell_feigns_47, e_Cell_feigns_48, e_Cell_feigns_51, e_Cell_feigns_54, e_Cell_feigns_55, e_Cell_feigns_56, e_Cell_feigns_57, e_Cell_feigns_58, e_Cell_feigns_61, e_Cell_feigns_62, e_Cell_feigns_65, e_Cell_feigns_68, e_Cell_feigns_69, e_Cell_feigns_70, e_Cell_feigns_71, e_Cell_feigns_72, alk_in, ask_in, blk_in, bsk_in, qlk_in, ack_in, rcv_in, rcA_in, bk_i, bk_l, bk_v, hS_same, hS_ne, hS_hS, hS_2, am_10, am_01, am_00, if_true, if_false, gf_5_0, pf_5_0, gf_5_1, pf_5_1, gf_5_2, pf_5_2, gf_5_3, pf_5_3, gf_5_4, pf_5_4, gf_5_5, pf_5_5, gf_5_6, pf_5_6, gf_5_7, pf_5_7, gf_11_0, pf_11_0, gf_11_1, pf_11_1, gf_11_2, pf_11_2, gf_11_3, pf_11_3, gf_11_4, pf_11_4, gf_11_5, pf_11_5, gf_11_6, pf_11_6, gf_11_7, pf_11_7, gf_11_8, pf_11_8, gf_11_9, pf_11_9, gf_11_10, pf_11_10, gf_11_11, pf_11_11, O, ob, c1, c2, c3, s2, z, Int.toNat_natCast]
        rw [if_pos r2]
  · unfold aFei nFei
    rw [if_neg q, if_neg (fun r => q r.1)]
    refine ⟨h, ?_, C, FP.rf⟩
    rw [ev_Cell_feigns]
    by_cases y : 0 ≤ m ∧ m < G.1
    · rw [if_pos y] at c1
      rw [if_neg (fun z => q ⟨y, z⟩)] at c2
      simp (disch := omega) only [e_Cell_feigns_0, e_Cell_feigns_1, e_Cell_feigns_4, e_Cell_feigns_5, e_Cell_feigns_8, e_Cell_feigns_8b, e_Cell_feigns_11, e_Cell_feigns_12, e_Cell_feigns_15, e_Cell_feigns_15b, e_Cell_feigns_18, e_Cell_feigns_19, e_Cell_feigns_20, e_Cell_feigns_21, e_Cell_feigns_24, e_Cell_feigns_25, e_Cell_feigns_28, e_Cell_feigns_28b, e_Cell_feigns_31, e_Cell_feigns_32, e_Cell_feigns_35, e_Cell_feigns_38, e_Cell_feigns_39, e_Cell_feigns_40, e_Cell_feigns_41, e_Cell_feigns_44, e_Cell_feigns_46, e_Cell_feigns_47, e_Cell_feigns_48, e_Cell_feigns_51, e_Cell_feigns_54, e_Cell_feigns_55, e_Cell_feigns_56, e_Cell_feigns_57, e_Cell_feigns_58, e_Cell_feigns_61, e_Cell_feigns_62, e_Cell_feigns_65, e_Cell_feigns_68, e_Cell_feigns_69, e_Cell_feigns_70, e_Cell_feigns_71, e_Cell_feigns_72, alk_in, ask_in, blk_in, bsk_in, qlk_in, ack_in, rcv_in, rcA_in, bk_i, bk_l, bk_v, hS_same, hS_ne, hS_hS, hS_2, am_10, am_01, am_00, if_true, if_false, gf_5_0, pf_5_0, gf_5_1, pf_5_1, gf_5_2, pf_5_2, gf_5_3, pf_5_3, gf_5_4, pf_5_4, gf_5_5, pf_5_5, gf_5_6, pf_5_6, gf_5_7, pf_5_7, gf_11_0, pf_11_0, gf_11_1, pf_11_1, gf_11_2, pf_11_2, gf_11_3, pf_11_3, gf_11_4, pf_11_4, gf_11_5, pf_11_5, gf_11_6, pf_11_6, gf_11_7, pf_11_7, gf_11_8, pf_11_8, gf_11_9, pf_11_9, gf_11_10, pf_11_10, gf_11_11, pf_11_11, O, ob, c1, c2]
    · rw [if_neg y] at c1
      simp (disch := omega) only [e_Cell_feigns_0, e_Cell_feigns_1, e_Cell_feigns_4, e_Cell_feigns_5, e_Cell_feigns_8, e_Cell_feigns_8b, e_Cell_feigns_11, e_Cell_feigns_12, e_Cell_feigns_15, e_Cell_feigns_15b, e_Cell_feigns_18, e_Cell_feigns_19, e_Cell_feigns_20, e_Cell_feigns_21, e_Cell_feigns_24, e_Cell_feigns_25, e_Cell_feigns_28, e_Cell_feigns_28b, e_Cell_feigns_31, e_Cell_feigns_32, e_Cell_feigns_35, e_Cell_feigns_38, e_Cell_feigns_39, e_Cell_feigns_40, e_Cell_feigns_41, e_Cell_feigns_44, e_Cell_feigns_46, e_Cell_feigns_47, e_Cell_feigns_48, e_Cell_feigns_51, e_Cell_feigns_54, e_Cell_feigns_55, e_Cell_feigns_56, e_Cell_feigns_57, e_Cell_feigns_58, e_Cell_feigns_61, e_Cell_feigns_62, e_Cell_feigns_65, e_Cell_feigns_68, e_Cell_feigns_69, e_Cell_feigns_70, e_Cell_feigns_71, e_Cell_feigns_72, alk_in, ask_in, blk_in, bsk_in, qlk_in, ack_in, rcv_in, rcA_in, bk_i, bk_l, bk_v, hS_same, hS_ne, hS_hS, hS_2, am_10, am_01, am_00, if_true, if_false, gf_5_0, pf_5_0, gf_5_1, pf_5_1, gf_5_2, pf_5_2, gf_5_3, pf_5_3, gf_5_4, pf_5_4, gf_5_5, pf_5_5, gf_5_6, pf_5_6, gf_5_7, pf_5_7, gf_11_0, pf_11_0, gf_11_1, pf_11_1, gf_11_2, pf_11_2, gf_11_3, pf_11_3, gf_11_4, pf_11_4, gf_11_5, pf_11_5, gf_11_6, pf_11_6, gf_11_7, pf_11_7, gf_11_8, pf_11_8, gf_11_9, pf_11_9, gf_11_10, pf_11_10, gf_11_11, pf_11_11, O, ob, c1]
end Do
