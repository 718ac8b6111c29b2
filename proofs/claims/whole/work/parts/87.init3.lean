/-! the two objects of the law -/
theorem k_init {h : am_H} (O : h.1 1 = cO 11 [vN, vI 0, vN, vN, vN, vI 0, vN, vN, vN, vN, vN, vN]) (hn : h.2.1 = 2) : ∃ h' f s v p, ev mCell_init [vR 1] h = some (none, h') ∧ CeO h' 1 0 ∧ CTx h' 0 f ∧ RT h' 10 D0.1 D0.2.1 ∧ ScSh h' 16 ∧ CPa h' D0.1 0 p ∧ CIm h' D0.1 (fun _ => none) ∧ CSe h' 0 s v ∧ CLi h' ∧ CKi h' ∧ CTa h' 0 ∧ h'.2.1 = 120 ∧ h'.2.2 ≤ h.2.2 + 2000 ∧ h'.1 0 = h.1 0 := by
  -- the text
  obtain ⟨t1, f, et, Xt, a1, a2, a3⟩ := d_tinit (h := hA h (cO 8 [vI 0, vN, vN, vI 0, vI 0, vI 0, vI 0, vI 0, vI 0, vI 0, vI 0]) 11) (hA_at hn.symm) (by rw [hA_21, hn])
  have z1 : (hA h (cO 8 [vI 0, vN, vN, vI 0, vI 0, vI 0, vI 0, vI 0, vI 0, vI 0, vI 0]) 11).1 2 = cO 8 [vI 0, vN, vN, vI 0, vI 0, vI 0, vI 0, vI 0, vI 0, vI 0, vI 0] := hA_at hn.symm
  have t11 : t1.1 1 = cO 11 [vN, vI 0, vN, vN, vN, vI 0, vN, vN, vN, vN, vN, vN] := by rw [a3 1 (by omega) (by omega), hA_ne (by omega)]; exact O
  obtain ⟨h1, e1, O1, X1, n1, r1, w1⟩ : ∃ h1, gv mCell_init 0 [vR 1, vU] [] h = gv mCell_init 15 [vR 1, vU] [] h1 ∧ h1.1 1 = cO 11 [vR 2, vI 0, vN, vN, vN, vI 0, vN, vN, vN, vN, vN, vN] ∧ CTx h1 0 f ∧ h1.2.1 = 10 ∧ h1.2.2 = h.2.2 + 172 ∧ h1.1 0 = h.1 0 := by
    refine ⟨hS t1 1 (cO 11 [vR 2, vI 0, vN, vN, vN, vI 0, vN, vN, vN, vN, vN, vN]), ?_, hS_same, Xt.on (fun x hx => hS_ne (by omega)), a1, ?_, ?_⟩
    · simp (disch := omega) only [e_Cell_init_0, e_Cell_init_1, e_Cell_init_4, e_Cell_init_5, e_Cell_init_8, e_Cell_init_9, e_Cell_init_12, alk_in, ask_in, blk_in, bsk_in, qlk_in, ack_in, rcv_in, rcA_in, bk_i, bk_l, bk_v, hS_same, hS_ne, hS_hS, hS_2, am_10, am_01, am_00, if_true, if_false, gf_11_0, pf_11_0, gf_11_1, pf_11_1, gf_11_2, pf_11_2, gf_11_3, pf_11_3, gf_11_4, pf_11_4, gf_11_5, pf_11_5, gf_11_6, pf_11_6, gf_11_7, pf_11_7, gf_11_8, pf_11_8, gf_11_9, pf_11_9, gf_11_10, pf_11_10, gf_11_11, pf_11_11, hn, z1, et, t11]
    · rw [hS_22, a2, hA_22]
    · rw [hS_ne (by omega), a3 0 (by omega) (by omega), hA_ne (by omega)]
  -- the scene
  obtain ⟨t2, ce2, so2, ha2, ye2, I2, et2, S2, J2, a4, a5, a6⟩ := d_sinit (h := hA h1 (cO 5 [vI 0, vI 0, vI 0, vN, vN, vN, vN, vN]) 8) (b := 10) (hA_at n1.symm) (by rw [hA_21, n1])
  have z2 : (hA h1 (cO 5 [vI 0, vI 0, vI 0, vN, vN, vN, vN, vN]) 8).1 10 = cO 5 [vI 0, vI 0, vI 0, vN, vN, vN, vN, vN] := hA_at n1.symm
  have g2 : ∀ x, x < 10 → t2.1 x = h1.1 x := fun x hx => by rw [a6 x (by omega) (by omega), hA_ne (by omega)]
  have t21 := (g2 1 (by omega)).trans O1
  obtain ⟨h2, e2, O2, X2, R2, n2, r2, w2⟩ : ∃ h2, gv mCell_init 15 [vR 1, vU] [] h1 = gv mCell_init 26 [vR 1, vU] [] h2 ∧ h2.1 1 = cO 11 [vR 2, vI 0, vR 10, vN, vN, vI 0, vN, vN, vN, vN, vN, vN] ∧ CTx h2 0 f ∧ RT h2 10 D0.1 D0.2.1 ∧ h2.2.1 = 16 ∧ h2.2.2 = h.2.2 + 213 ∧ h2.1 0 = h.1 0 := by
    refine ⟨hS t2 1 (cO 11 [vR 2, vI 0, vR 10, vN, vN, vI 0, vN, vN, vN, vN, vN, vN]), ?_, hS_same, X1.on (fun x hx => by rw [hS_ne (by omega)]; exact g2 x (by omega)), ?_, a4, ?_, ?_⟩
    · simp (disch := omega) only [e_Cell_init_15, e_Cell_init_16, e_Cell_init_19, e_Cell_init_20, e_Cell_init_23, alk_in, ask_in, blk_in, bsk_in, qlk_in, ack_in, rcv_in, rcA_in, bk_i, bk_l, bk_v, hS_same, hS_ne, hS_hS, hS_2, am_10, am_01, am_00, if_true, if_false, gf_11_0, pf_11_0, gf_11_1, pf_11_1, gf_11_2, pf_11_2, gf_11_3, pf_11_3, gf_11_4, pf_11_4, gf_11_5, pf_11_5, gf_11_6, pf_11_6, gf_11_7, pf_11_7, gf_11_8, pf_11_8, gf_11_9, pf_11_9, gf_11_10, pf_11_10, gf_11_11, pf_11_11, n1, z2, et2, t21]
    · refine RT.on (h := t2) ⟨ce2, so2, ha2, ye2, I2, S2, fun j hj => absurd hj (Nat.not_lt_zero _), fun x hx => ?_⟩ (fun x hx => hS_ne (by omega))
      rw [J2 x (by simp only [D0] at hx; omega)]; rfl
    · rw [hS_22, a5, hA_22, r1]
    · rw [hS_ne (by omega), g2 0 (by omega)]; exact w1
  -- the trial
  obtain ⟨t3, ce3, so3, ha3, ye3, I3, et3, S3, J3, a7, a8, a9⟩ := d_sinit (h := hA h2 (cO 5 [vI 0, vI 0, vI 0, vN, vN, vN, vN, vN]) 8) (b := 16) (hA_at n2.symm) (by rw [hA_21, n2])
  have z3 : (hA h2 (cO 5 [vI 0, vI 0, vI 0, vN, vN, vN, vN, vN]) 8).1 16 = cO 5 [vI 0, vI 0, vI 0, vN, vN, vN, vN, vN] := hA_at n2.symm
  have g3 : ∀ x, x < 16 → t3.1 x = h2.1 x := fun x hx => by rw [a9 x (by omega) (by omega), hA_ne (by omega)]
  have t31 := (g3 1 (by omega)).trans O2
  obtain ⟨h3, e3, O3, X3, R3, Q3, n3, r3, w3⟩ : ∃ h3, gv mCell_init 26 [vR 1, vU] [] h2 = gv mCell_init 37 [vR 1, vU] [] h3 ∧ h3.1 1 = cO 11 [vR 2, vI 0, vR 10, vR 16, vN, vI 0, vN, vN, vN, vN, vN, vN] ∧ CTx h3 0 f ∧ RT h3 10 D0.1 D0.2.1 ∧ ScSh h3 16 ∧ h3.2.1 = 22 ∧ h3.2.2 = h.2.2 + 254 ∧ h3.1 0 = h.1 0 := by
    refine ⟨hS t3 1 (cO 11 [vR 2, vI 0, vR 10, vR 16, vN, vI 0, vN, vN, vN, vN, vN, vN]), ?_, hS_same, X2.on (fun x hx => by rw [hS_ne (by omega)]; exact g3 x (by omega)), R2.on (fun x hx => by rw [hS_ne (by omega)]; exact g3 x (by omega)), ScSh.on (h := t3) ⟨_, _, _, _, _, _, _, _, S3⟩ (fun x hx => hS_ne (by omega)), a7, ?_, ?_⟩
    · simp (disch := omega) only [e_Cell_init_26, e_Cell_init_27, e_Cell_init_30, e_Cell_init_31, e_Cell_init_34, alk_in, ask_in, blk_in, bsk_in, qlk_in, ack_in, rcv_in, rcA_in, bk_i, bk_l, bk_v, hS_same, hS_ne, hS_hS, hS_2, am_10, am_01, am_00, if_true, if_false, gf_11_0, pf_11_0, gf_11_1, pf_11_1, gf_11_2, pf_11_2, gf_11_3, pf_11_3, gf_11_4, pf_11_4, gf_11_5, pf_11_5, gf_11_6, pf_11_6, gf_11_7, pf_11_7, gf_11_8, pf_11_8, gf_11_9, pf_11_9, gf_11_10, pf_11_10, gf_11_11, pf_11_11, n2, z3, et3, t31]
    · rw [hS_22, a8, hA_22, r2]
    · rw [hS_ne (by omega), g3 0 (by omega)]; exact w2
  -- three rows
  obtain ⟨h4, e4, O4, A4, B4, C4, n4, r4, g4⟩ : ∃ h4, gv mCell_init 37 [vR 1, vU] [] h3 = gv mCell_init 61 [vR 1, vU] [] h4 ∧ h4.1 1 = cO 11 [vR 2, vI 0, vR 10, vR 16, vR 22, vI 0, vR 23, vR 24, vN, vN, vN, vN] ∧ h4.1 22 = cQ 2 10 (fun _ => none) ∧ h4.1 23 = cQ 2 2 (fun _ => none) ∧ h4.1 24 = cI 1 2 (fun _ => 0) ∧ h4.2.1 = 25 ∧ h4.2.2 = h3.2.2 + 14 ∧ ∀ x, x < 22 → ¬ x = 1 → h4.1 x = h3.1 x := by
    refine ⟨_, by
      simp (disch := (first | omega | (simp only [hS_21, hA_21, n3]; done) | (simp only [hS_21, hA_21, n3]; omega))) only [e_Cell_init_37, e_Cell_init_38, e_Cell_init_40, e_Cell_init_43, e_Cell_init_46, e_Cell_init_47, e_Cell_init_48, e_Cell_init_51, e_Cell_init_54, e_Cell_init_55, e_Cell_init_56, e_Cell_init_58, alk_in, ask_in, blk_in, bsk_in, qlk_in, ack_in, rcv_in, rcA_in, bk_i, bk_l, bk_v, hS_same, hS_ne, hS_hS, hS_2, am_10, am_01, am_00, if_true, if_false, gf_11_0, pf_11_0, gf_11_1, pf_11_1, gf_11_2, pf_11_2, gf_11_3, pf_11_3, gf_11_4, pf_11_4, gf_11_5, pf_11_5, gf_11_6, pf_11_6, gf_11_7, pf_11_7, gf_11_8, pf_11_8, gf_11_9, pf_11_9, gf_11_10, pf_11_10, gf_11_11, pf_11_11, O3, hA_at, hA_ne, hS_21, hA_21, n3, Nat.reduceAdd]
      rfl, ?_, ?_, ?_, ?_, ?_, ?_, fun x hx hb => ?_⟩
    · simp (disch := (first | omega | (simp only [hS_21, hA_21, n3]; done) | (simp only [hS_21, hA_21, n3]; omega))) only [hS_same, hS_ne, hA_at, hA_ne]
    · simp (disch := (first | omega | (simp only [hS_21, hA_21, n3]; done) | (simp only [hS_21, hA_21, n3]; omega))) only [hS_same, hS_ne, hA_at, hA_ne]; rfl
    · simp (disch := (first | omega | (simp only [hS_21, hA_21, n3]; done) | (simp only [hS_21, hA_21, n3]; omega))) only [hS_same, hS_ne, hA_at, hA_ne]; rfl
    · simp (disch := (first | omega | (simp only [hS_21, hA_21, n3]; done) | (simp only [hS_21, hA_21, n3]; omega))) only [hS_same, hS_ne, hA_at, hA_ne]; rfl
    · simp only [hS_21, hA_21, n3]
    · simp only [hS_22, hA_22, Nat.add_assoc]; rfl
    · simp (disch := (first | omega | (simp only [hS_21, hA_21, n3]; done) | (simp only [hS_21, hA_21, n3]; omega))) only [hS_same, hS_ne, hA_at, hA_ne]
  -- what was seen
  obtain ⟨t5, s, v, et5, E5, b1, b2, b3⟩ := d_einit (h := hA h4 (cO 6 [vI 0, vN, vN]) 3) (hA_at n4.symm) (by rw [hA_21, n4])
  have z5 : (hA h4 (cO 6 [vI 0, vN, vN]) 3).1 25 = cO 6 [vI 0, vN, vN] := hA_at n4.symm
  have g5 : ∀ x, x < 25 → t5.1 x = h4.1 x := fun x hx => by rw [b3 x (by omega) (by omega), hA_ne (by omega)]
  have t51 := (g5 1 (by omega)).trans O4
  obtain ⟨h5, e5, O5, E5', n5, r5, g5'⟩ : ∃ h5, gv mCell_init 61 [vR 1, vU] [] h4 = gv mCell_init 72 [vR 1, vU] [] h5 ∧ h5.1 1 = cO 11 [vR 2, vI 0, vR 10, vR 16, vR 22, vI 0, vR 23, vR 24, vR 25, vN, vN, vN] ∧ CSe h5 0 s v ∧ h5.2.1 = 28 ∧ h5.2.2 = h4.2.2 + 15 ∧ ∀ x, x < 25 → ¬ x = 1 → h5.1 x = h4.1 x := by
    refine ⟨hS t5 1 (cO 11 [vR 2, vI 0, vR 10, vR 16, vR 22, vI 0, vR 23, vR 24, vR 25, vN, vN, vN]), ?_, hS_same, E5.on (fun x hx => hS_ne (by omega)), b1, ?_, fun x hx hb => ?_⟩
    · simp (disch := omega) only [e_Cell_init_61, e_Cell_init_62, e_Cell_init_65, e_Cell_init_66, e_Cell_init_69, alk_in, ask_in, blk_in, bsk_in, qlk_in, ack_in, rcv_in, rcA_in, bk_i, bk_l, bk_v, hS_same, hS_ne, hS_hS, hS_2, am_10, am_01, am_00, if_true, if_false, gf_11_0, pf_11_0, gf_11_1, pf_11_1, gf_11_2, pf_11_2, gf_11_3, pf_11_3, gf_11_4, pf_11_4, gf_11_5, pf_11_5, gf_11_6, pf_11_6, gf_11_7, pf_11_7, gf_11_8, pf_11_8, gf_11_9, pf_11_9, gf_11_10, pf_11_10, gf_11_11, pf_11_11, n4, z5, et5, t51]
    · rw [hS_22, b2, hA_22]
    · rw [hS_ne hb]; exact g5 x hx
  -- the lie
  obtain ⟨t6, et6, L6, b4, b5, b6⟩ := d_linit (h := hA h5 (cO 2 [vI 0, vN, vI 0, vI 0, vN, vN, vN, vN, vN]) 9) (hA_at n5.symm) (by rw [hA_21, n5])
  have z6 : (hA h5 (cO 2 [vI 0, vN, vI 0, vI 0, vN, vN, vN, vN, vN]) 9).1 28 = cO 2 [vI 0, vN, vI 0, vI 0, vN, vN, vN, vN, vN] := hA_at n5.symm
  have g6 : ∀ x, x < 28 → t6.1 x = h5.1 x := fun x hx => by rw [b6 x (by omega) (by omega), hA_ne (by omega)]
  have t61 := (g6 1 (by omega)).trans O5
  obtain ⟨h6, e6, O6, L6', n6, r6, g6'⟩ : ∃ h6, gv mCell_init 72 [vR 1, vU] [] h5 = gv mCell_init 83 [vR 1, vU] [] h6 ∧ h6.1 1 = cO 11 [vR 2, vI 0, vR 10, vR 16, vR 22, vI 0, vR 23, vR 24, vR 25, vR 28, vN, vN] ∧ CLi h6 ∧ h6.2.1 = 40 ∧ h6.2.2 = h5.2.2 + 113 ∧ ∀ x, x < 28 → ¬ x = 1 → h6.1 x = h5.1 x := by
    refine ⟨hS t6 1 (cO 11 [vR 2, vI 0, vR 10, vR 16, vR 22, vI 0, vR 23, vR 24, vR 25, vR 28, vN, vN]), ?_, hS_same, L6.on (fun x hx => hS_ne (by omega)), b4, ?_, fun x hx hb => ?_⟩
    · simp (disch := omega) only [e_Cell_init_72, e_Cell_init_73, e_Cell_init_76, e_Cell_init_77, e_Cell_init_80, alk_in, ask_in, blk_in, bsk_in, qlk_in, ack_in, rcv_in, rcA_in, bk_i, bk_l, bk_v, hS_same, hS_ne, hS_hS, hS_2, am_10, am_01, am_00, if_true, if_false, gf_11_0, pf_11_0, gf_11_1, pf_11_1, gf_11_2, pf_11_2, gf_11_3, pf_11_3, gf_11_4, pf_11_4, gf_11_5, pf_11_5, gf_11_6, pf_11_6, gf_11_7, pf_11_7, gf_11_8, pf_11_8, gf_11_9, pf_11_9, gf_11_10, pf_11_10, gf_11_11, pf_11_11, n5, z6, et6, t61]
    · rw [hS_22, b5, hA_22]
    · rw [hS_ne hb]; exact g6 x hx
  -- kinds, the tally
  obtain ⟨h7, e7, O7, A7, B7, n7, r7, g7⟩ : ∃ h7, gv mCell_init 83 [vR 1, vU] [] h6 = gv mCell_init 110 [vR 1, vI ((0 : Nat) : Int)] [] h7 ∧ h7.1 1 = cO 11 [vR 2, vI 1, vR 10, vR 16, vR 22, vI 0, vR 23, vR 24, vR 25, vR 28, vR 40, vR 41] ∧ h7.1 40 = cQ 3 6 (fun _ => none) ∧ h7.1 41 = cO 7 [vL 0] ∧ h7.2.1 = 42 ∧ h7.2.2 = h6.2.2 + 7 ∧ ∀ x, x < 40 → ¬ x = 1 → h7.1 x = h6.1 x := by
    refine ⟨_, by
      simp (disch := (first | omega | (simp only [hS_21, hA_21, n6]; done) | (simp only [hS_21, hA_21, n6]; omega))) only [e_Cell_init_83, e_Cell_init_84, e_Cell_init_86, e_Cell_init_89, e_Cell_init_92, e_Cell_init_93, e_Cell_init_96, e_Cell_init_97, e_Cell_init_100, e_Cell_init_103, e_Cell_init_104, e_Cell_init_105, e_Cell_init_108, e_Cell_init_109, alk_in, ask_in, blk_in, bsk_in, qlk_in, ack_in, rcv_in, rcA_in, bk_i, bk_l, bk_v, hS_same, hS_ne, hS_hS, hS_2, am_10, am_01, am_00, if_true, if_false, gf_11_0, pf_11_0, gf_11_1, pf_11_1, gf_11_2, pf_11_2, gf_11_3, pf_11_3, gf_11_4, pf_11_4, gf_11_5, pf_11_5, gf_11_6, pf_11_6, gf_11_7, pf_11_7, gf_11_8, pf_11_8, gf_11_9, pf_11_9, gf_11_10, pf_11_10, gf_11_11, pf_11_11, O6, hA_at, hA_ne, hS_21, hA_21, n6, Nat.reduceAdd, c_iTally]
      rfl, ?_, ?_, ?_, ?_, ?_, fun x hx hb => ?_⟩
    · simp (disch := (first | omega | (simp only [hS_21, hA_21, n6]; done) | (simp only [hS_21, hA_21, n6]; omega))) only [hS_same, hS_ne, hA_at, hA_ne]
    · simp (disch := (first | omega | (simp only [hS_21, hA_21, n6]; done) | (simp only [hS_21, hA_21, n6]; omega))) only [hS_same, hS_ne, hA_at, hA_ne]; rfl
    · simp (disch := (first | omega | (simp only [hS_21, hA_21, n6]; done) | (simp only [hS_21, hA_21, n6]; omega))) only [hS_same, hS_ne, hA_at, hA_ne]
    · simp only [hS_21, hA_21, n6]
    · simp only [hS_22, hA_22, Nat.add_assoc]; rfl
    · simp (disch := (first | omega | (simp only [hS_21, hA_21, n6]; done) | (simp only [hS_21, hA_21, n6]; omega))) only [hS_same, hS_ne, hA_at, hA_ne]
  -- past, images, kinds
  have g47 : ∀ x, x < 25 → ¬ x = 1 → h7.1 x = h4.1 x := fun x hx hb => by rw [g7 x (by omega) hb, g6' x (by omega) hb, g5' x hx hb]
  obtain ⟨h8, P, e8, P8, H8, n8, r8, g8⟩ := li_past 10 0 h7 _ (by omega) O7 n7 ((g47 22 (by omega) (by omega)).trans A4) (fun j hj => by omega)
  have O8 := (g8 1 (by omega) (by omega)).trans O7
  obtain ⟨h9, Q, e9, P9, H9, n9, r9, g9⟩ := li_im 2 0 h8 _ (by omega) O8 n8 ((g8 23 (by omega) (by omega)).trans ((g47 23 (by omega) (by omega)).trans B4)) (fun j hj => by omega)
  have O9 := (g9 1 (by omega) (by omega)).trans O8
  obtain ⟨h10, e10, K10, n10, r10, g10⟩ := li_kinds (l1 := vI 2) O9 n9 ((g9 40 (by omega) (by omega)).trans ((g8 40 (by omega) (by omega)).trans A7))
  have G79 : ∀ x, x < 42 → ¬ x = 22 → ¬ x = 23 → ¬ x = 40 → h10.1 x = h7.1 x := fun x hx p1 p2 p3 => by rw [g10 x (by omega) p3, g9 x (by omega) p2, g8 x hx p1]
  have G3 : ∀ x, x < 22 → ¬ x = 1 → h10.1 x = h3.1 x := fun x hx hb => by rw [G79 x (by omega) (by omega) (by omega) (by omega), g47 x (by omega) hb, g4 x hx hb]
  refine ⟨h10, f, s, v, fun _ => D0.2.1, ?_, (G79 1 (by omega) (by omega) (by omega) (by omega)).trans O7, X3.on (fun x hx => G3 x (by omega) (by omega)), R3.on (fun x hx => G3 x (by omega) (by omega)), Q3.on (fun x hx => G3 x (by omega) (by omega)), ⟨P, fun i => i, ?_, fun i hi => ⟨(H8 i hi).1, hi, (H8 i hi).2.on (fun x hx => ?_)⟩, fun i j _ _ e => e, fun i hi => by omega⟩, ⟨Q, fun _ => 0, ?_, ?_, fun i hi => ⟨(H9 i hi).1, (H9 i hi).2.on (fun x hx => g10 x (by omega) (by omega)), rfl⟩⟩, E5'.on (fun x hx => ?_), L6'.on (fun x hx => ?_), K10, (G79 41 (by omega) (by omega) (by omega) (by omega)).trans B7, n10, ?_, ?_⟩
  · rw [ev_Cell_init, e1, e2, e3, e4, e5, e6, e7, e8]
    simp (disch := omega) only [e_Cell_init_135, e_Cell_init_136]
    refine Eq.trans e9 ?_
    exact e10
  · exact (g10 22 (by omega) (by omega)).trans ((g9 22 (by omega) (by omega)).trans P8)
  · simp only at hx
    rw [g10 x (by omega) (by omega), g9 x (by omega) (by omega)]
  · exact (g10 23 (by omega) (by omega)).trans P9
  · exact (G79 24 (by omega) (by omega) (by omega) (by omega)).trans ((g47 24 (by omega) (by omega)).trans C4)
  · rw [G79 x (by omega) (by omega) (by omega) (by omega), g7 x (by omega) (by omega), g6' x (by omega) (by omega)]
  · rw [G79 x (by omega) (by omega) (by omega) (by omega), g7 x (by omega) (by omega)]
  · omega
  · rw [G3 0 (by omega) (by omega)]; exact w3
