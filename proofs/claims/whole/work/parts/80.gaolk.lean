/-! the class: gaol, the call -/
def D0 : Dr := ((0, 6, 1, fun _ => 0), (0, fun _ => 0, fun _ => 0, fun _ => 0), 0, 0)
def rdT (L : Nat) (f : Nat → Int) : Nat ⊕ Dr := rdA (tkE L f) (tkS L f) (tkC L f) (tkN L f) (L + 1) D0 0
theorem D0_ok : DrO D0 := ⟨⟨by decide, by decide, by decide, fun j hj => absurd hj (Nat.not_lt_zero _), fun i j hi => absurd hi (Nat.not_lt_zero _)⟩, rfl, Or.inl rfl, by decide, fun _ => rfl⟩
section GaolK
variable {h : am_H} {L : Nat} {f : Nat → Int}
theorem k_isRead {tE tS : Nat → Nat} {tC tN : Nat → Int} {g : Nat → Int} {x3 x4 x5 x6 x7 x8 x9 x10 : am_V} (X : TxG L g tE tS tC tN) (O : h.1 2 = cO 8 [vI (L : Int), vR 3, vR 4, x3, x4, x5, x6, x7, x8, x9, x10]) (Gg : h.1 3 = cI 0 120 g) (S : ScSh h 4) : ∃ h', h'.1 3 = cI 0 120 g ∧ Fr 2 10 h h' ∧ match rdA tE tS tC tN (L + 1) D0 0 with
    | .inl q => ev mText_isRead [vR 2] h = some (some (vI 0), h') ∧ q ≤ L ∧ (∃ p' x3 x4 x7, p' ≤ L ∧ TxO h' L tE tS tC tN p' x3 x4 (vI (q : Int)) x7) ∧ ScSh h' 4
    | .inr D' => ev mText_isRead [vR 2] h = some (some (vI 1), h') ∧ DrO D' ∧ (∃ p', TxD h' L tE tS tC tN D' p') ∧ RT h' 4 D'.1 D'.2.1 := by
  obtain ⟨n, c, t, ce, so, ha, ye, ic, s0, s1, s2, s3, s4, s5⟩ := S
  have f1 : Fr 2 3 h (hS h 2 (cO 8 [vI (L : Int), vR 3, vR 4, x3, x4, x5, vI 0, x7, x8, x9, x10])) := Fr.st (by omega)
  obtain ⟨h2, I, e2, S2, I2, f2⟩ := d_makeEmpty (b := 4) ((f1.at (by omega)).trans s0) ((f1.at (by omega)).trans s1) ((f1.at (by omega)).trans s2) ((f1.at (by omega)).trans s3) ((f1.at (by omega)).trans s4) ((f1.at (by omega)).trans s5)
  have O2 : h2.1 2 = cO 8 [vI (L : Int), vR 3, vR 4, x3, x4, x5, vI 0, x7, x8, x9, x10] := (f2.at (by omega)).trans hS_same
  have f3 : Fr 2 3 h2 (hS h2 2 (cO 8 [vI (L : Int), vR 3, vR 4, vI 1, vI 0, vI (-1), vI 0, vI 0, x8, x9, x10])) := Fr.st (by omega)
  obtain ⟨h4, e4, O4, f4⟩ := X.2.2 (hS h2 2 (cO 8 [vI (L : Int), vR 3, vR 4, vI 1, vI 0, vI (-1), vI 0, vI 0, x8, x9, x10])) 0 _ _ _ _ _ _ _ (by omega) hS_same ((f3.at (by omega)).trans ((f2.at (by omega)).trans ((f1.at (by omega)).trans Gg)))
  have fz : Fr 2 3 h2 h4 := f3.tr f4
  have fa : Fr 2 10 h h4 := ((f1.wd (by omega)).tr (f2.wd (by omega))).tr (fz.wd (by omega))
  have S4 : DrS h4 D0 := by
    refine ⟨⟨ce, so, ha, ye, I, S2.fr fz (by omega), fun j hj => absurd hj (Nat.not_lt_zero _), fun x hx => ?_⟩, fun _ => ⟨I, (fz.at (by omega)).trans S2.2.2.2.2.2, I2⟩⟩
    rw [I2 x (by simp only [D0] at hx; omega)]
    rfl
  obtain ⟨h5, g5, f5, Q⟩ := lk_read X (L + 1) 0 0 h4 D0 (by omega) (by omega) (by omega) (by decide) D0_ok O4 ((fz.at (by omega)).trans ((f2.at (by omega)).trans ((f1.at (by omega)).trans Gg))) S4
  have st : ev mText_isRead [vR 2] h = gv mText_isRead 38 [vR 2, vI ((0 : Nat) : Int)] [] h4 := by
    rw [ev_Text_isRead]
    simp (disch := omega) only [e_Text_isRead_0, e_Text_isRead_1, e_Text_isRead_2, e_Text_isRead_5, e_Text_isRead_6, e_Text_isRead_9, e_Text_isRead_12, e_Text_isRead_13, e_Text_isRead_14, e_Text_isRead_17, e_Text_isRead_18, e_Text_isRead_19, e_Text_isRead_22, e_Text_isRead_23, e_Text_isRead_24, e_Text_isRead_27, e_Text_isRead_28, e_Text_isRead_29, e_Text_isRead_32, e_Text_isRead_33, e_Text_isRead_36, e_Text_isRead_37, alk_in, ask_in, blk_in, bsk_in, qlk_in, ack_in, rcv_in, rcA_in, bk_i, bk_l, bk_v, hS_same, hS_ne, hS_hS, hS_2, am_10, am_01, am_00, if_true, if_false, gf_8_0, pf_8_0, gf_8_1, pf_8_1, gf_8_2, pf_8_2, gf_8_3, pf_8_3, gf_8_4, pf_8_4, gf_8_5, pf_8_5, gf_8_6, pf_8_6, gf_8_7, pf_8_7, gf_8_8, pf_8_8, gf_8_9, pf_8_9, gf_8_10, pf_8_10, O, s0, e2, O2, e4]
    rfl
  refine ⟨h5, g5, fa.tr f5, ?_⟩
  rw [st]
  exact Q
theorem lk_kept {lo pc : Int} : ∀ (d k : Nat) (h : am_H) (K : Nat → Int), k + d = 2 → CeO h lo pc → h.1 24 = cI 1 2 K → (∀ j, j < k → K j = 0) → ∃ h' K', gv mCell_gaol 69 [vR 1, vI (k : Int)] [] h = gv mCell_gaol 87 [vR 1, vI 2] [] h' ∧ h'.1 24 = cI 1 2 K' ∧ (∀ j, j < 2 → K' j = 0) ∧ Fr 24 25 h h' := by
  intro d
  induction d with
  | zero =>
    intro k h K hk O K1 K2
    have : k = 2 := by omega
    subst this
    refine ⟨h, K, ?_, K1, K2, Fr.rf⟩
    rw [e_Cell_gaol_69]
    simp (disch := omega) only [e_Cell_gaol_0, e_Cell_gaol_1, e_Cell_gaol_4, e_Cell_gaol_7, e_Cell_gaol_7b, e_Cell_gaol_10, e_Cell_gaol_12, e_Cell_gaol_13, e_Cell_gaol_16, e_Cell_gaol_19, e_Cell_gaol_20, e_Cell_gaol_21, e_Cell_gaol_22, e_Cell_gaol_25, e_Cell_gaol_26, e_Cell_gaol_29, e_Cell_gaol_32, e_Cell_gaol_35, e_Cell_gaol_36, e_Cell_gaol_37, e_Cell_gaol_40, e_Cell_gaol_43, e_Cell_gaol_46, e_Cell_gaol_47, e_Cell_gaol_50, e_Cell_gaol_51, e_Cell_gaol_54, e_Cell_gaol_55, e_Cell_gaol_58, e_Cell_gaol_59, e_Cell_gaol_62, e_Cell_gaol_63, e_Cell_gaol_64, e_Cell_gaol_67, e_Cell_gaol_68, e_Cell_gaol_70, e_Cell_gaol_71, e_Cell_gaol_74, e_Cell_gaol_75, e_Cell_gaol_78, e_Cell_gaol_79, e_Cell_gaol_80, e_Cell_gaol_81, e_Cell_gaol_84, e_Cell_gaol_88, e_Cell_gaol_91, e_Cell_gaol_94, alk_in, ask_in, blk_in, bsk_in, qlk_in, ack_in, rcv_in, rcA_in, bk_i, bk_l, bk_v, hS_same, hS_ne, hS_hS, hS_2, am_10, am_01, am_00, if_true, if_false]
    rw [if_neg (by omega)]; rfl
  | succ d ih =>
    intro k h K hk O K1 K2
    have f1 : Fr 24 25 h (hS h 24 (cI 1 2 (fun j => if j = k then 0 else K j))) := Fr.st (by omega)
    obtain ⟨h2, K', e2, K3, K4, f2⟩ := ih (k + 1) (hS h 24 (cI 1 2 (fun j => if j = k then 0 else K j))) _ (by omega) ((f1.at (by omega)).trans O) hS_same (fun j hj => by
      by_cases q : j = k
      · exact if_pos q
      · exact (if_neg q).trans (K2 j (by omega)))
    refine ⟨h2, K', ?_, K3, K4, f1.tr f2⟩
    unfold CeO at O
    rw [e_Cell_gaol_69, ← e2]
    simp (disch := omega) only [e_Cell_gaol_0, e_Cell_gaol_1, e_Cell_gaol_4, e_Cell_gaol_7, e_Cell_gaol_7b, e_Cell_gaol_10, e_Cell_gaol_12, e_Cell_gaol_13, e_Cell_gaol_16, e_Cell_gaol_19, e_Cell_gaol_20, e_Cell_gaol_21, e_Cell_gaol_22, e_Cell_gaol_25, e_Cell_gaol_26, e_Cell_gaol_29, e_Cell_gaol_32, e_Cell_gaol_35, e_Cell_gaol_36, e_Cell_gaol_37, e_Cell_gaol_40, e_Cell_gaol_43, e_Cell_gaol_46, e_Cell_gaol_47, e_Cell_gaol_50, e_Cell_gaol_51, e_Cell_gaol_54, e_Cell_gaol_55, e_Cell_gaol_58, e_Cell_gaol_59, e_Cell_gaol_62, e_Cell_gaol_63, e_Cell_gaol_64, e_Cell_gaol_67, e_Cell_gaol_68, e_Cell_gaol_70, e_Cell_gaol_71, e_Cell_gaol_74, e_Cell_gaol_75, e_Cell_gaol_78, e_Cell_gaol_79, e_Cell_gaol_80, e_Cell_gaol_81, e_Cell_gaol_84, e_Cell_gaol_88, e_Cell_gaol_91, e_Cell_gaol_94, alk_in, ask_in, blk_in, bsk_in, qlk_in, ack_in, rcv_in, rcA_in, bk_i, bk_l, bk_v, hS_same, hS_ne, hS_hS, hS_2, am_10, am_01, am_00, if_true, if_false, gf_11_0, pf_11_0, gf_11_1, pf_11_1, gf_11_2, pf_11_2, gf_11_3, pf_11_3, gf_11_4, pf_11_4, gf_11_5, pf_11_5, gf_11_6, pf_11_6, gf_11_7, pf_11_7, gf_11_8, pf_11_8, gf_11_9, pf_11_9, gf_11_10, pf_11_10, gf_11_11, pf_11_11, O, K1, Int.toNat_natCast]
    rw [if_pos (by omega)]; rfl
theorem k_gaol {lo pc : Int} {G : Gl} {k : Nat} {s v : Nat → Int} {im : Nat → Option Tm} (O : CeO h lo pc) (hL : L ≤ 120) (hf : ∀ j, j < L → 0 ≤ f j ∧ f j ≤ 255) (X : CTx h L f) (S : ScSh h 10) (E : CSe h k s v) (I : CIm h G im) : match rdT L f with
    | .inl q => ∃ h', ev mCell_gaol [vR 1] h = some (some (vI (-10 - (q : Int))), h') ∧ CTx h' L f ∧ Fr 2 10 h h'
    | .inr D => DrO D ∧ ∃ h', ev mCell_gaol [vR 1] h = some (some (vI (D.2.2.2 : Int)), h') ∧ CeO h' D.1.2.2.1 0 ∧ RT h' 10 D.1 D.2.1 ∧ CTx h' 0 f ∧ CSe h' 0 s v ∧ CIm h' D.1 (fun _ => none) ∧ FP (fun x => (1 ≤ x ∧ x < 16) ∨ x = 24 ∨ x = 25) h h' := by
  obtain ⟨x3, x4, x5, x6, x7, x8, x9, x10, g, X0, X1, X2, X3⟩ := X
  have XG : TxG L g (tkE L f) (tkS L f) (tkC L f) (tkN L f) := ⟨hL, tk_ok hf, tk_adv hL X2 hf⟩
  unfold rdT
  generalize tkE L f = tE at *
  generalize tkS L f = tS at *
  generalize tkC L f = tC at *
  generalize tkN L f = tN at *
  obtain ⟨h1, g1, f1, Q⟩ := k_isRead XG X0 X1 X3
  have O1 : CeO h1 lo pc := (f1.at (by omega)).trans O
  have O0 := O
  unfold CeO at O0
  have O1' := O1
  unfold CeO at O1'
  cases e : rdA tE tS tC tN (L + 1) D0 0 with
  | inl q =>
    rw [e] at Q
    simp only at Q ⊢
    obtain ⟨e1, hq, ⟨p', y3, y4, y7, hp', T1⟩, S1⟩ := Q
    refine ⟨h1, ?_, ⟨y3, y4, _, _, y7, _, _, _, g, T1, g1, X2, S1⟩, f1⟩
    unfold TxO at T1
    rw [ev_Cell_gaol]
    simp (disch := omega) only [e_Cell_gaol_0, e_Cell_gaol_1, e_Cell_gaol_4, e_Cell_gaol_7, e_Cell_gaol_7b, e_Cell_gaol_10, e_Cell_gaol_12, e_Cell_gaol_13, e_Cell_gaol_16, e_Cell_gaol_19, e_Cell_gaol_20, e_Cell_gaol_21, e_Cell_gaol_22, e_Cell_gaol_25, e_Cell_gaol_26, e_Cell_gaol_29, e_Cell_gaol_32, e_Cell_gaol_35, e_Cell_gaol_36, e_Cell_gaol_37, e_Cell_gaol_40, e_Cell_gaol_43, e_Cell_gaol_46, e_Cell_gaol_47, e_Cell_gaol_50, e_Cell_gaol_51, e_Cell_gaol_54, e_Cell_gaol_55, e_Cell_gaol_58, e_Cell_gaol_59, e_Cell_gaol_62, e_Cell_gaol_63, e_Cell_gaol_64, e_Cell_gaol_67, e_Cell_gaol_68, e_Cell_gaol_70, e_Cell_gaol_71, e_Cell_gaol_74, e_Cell_gaol_75, e_Cell_gaol_78, e_Cell_gaol_79, e_Cell_gaol_80, e_Cell_gaol_81, e_Cell_gaol_84, e_Cell_gaol_87, e_Cell_gaol_88, e_Cell_gaol_91, e_Cell_gaol_94, alk_in, ask_in, blk_in, bsk_in, qlk_in, ack_in, rcv_in, rcA_in, bk_i, bk_l, bk_v, hS_same, hS_ne, hS_hS, hS_2, am_10, am_01, am_00, if_true, if_false, gf_8_0, pf_8_0, gf_8_1, pf_8_1, gf_8_2, pf_8_2, gf_8_3, pf_8_3, gf_8_4, pf_8_4, gf_8_5, pf_8_5, gf_8_6, pf_8_6, gf_8_7, pf_8_7, gf_8_8, pf_8_8, gf_8_9, pf_8_9, gf_8_10, pf_8_10, gf_11_0, pf_11_0, gf_11_1, pf_11_1, gf_11_2, pf_11_2, gf_11_3, pf_11_3, gf_11_4, pf_11_4, gf_11_5, pf_11_5, gf_11_6, pf_11_6, gf_11_7, pf_11_7, gf_11_8, pf_11_8, gf_11_9, pf_11_9, gf_11_10, pf_11_10, gf_11_11, pf_11_11, O0, X0, e1, O1', T1]
  | inr D =>
    rw [e] at Q
    simp only at Q ⊢
    obtain ⟨e1, hD, ⟨p', T1⟩, R1⟩ := Q
    refine ⟨hD, ?_⟩
    have hn : D.1.1 ≤ 6 := hD.1.1
    have hc : D.1.2.1 ≤ 9 := hD.1.2.2.1
    have S1 : ScSh h1 10 := S.fr f1 (by omega)
    obtain ⟨fs1, sb1⟩ := S1.ob
    obtain ⟨h2, e2, R2, f2⟩ := d_copyFrom R1 hn hc S1 (by omega)
    unfold TxD TxO at T1
    have T2 := (f2.at (a := 2) (by omega)).trans T1
    have O2 := (f2.at (a := 1) (by omega)).trans O1'
    obtain ⟨s', v', E0, E1, E2, E3⟩ := E
    have E02 := (f2.at (a := 25) (by omega)).trans ((f1.at (by omega)).trans E0)
    have f3 : FP (fun x => (1 ≤ x ∧ x < 16) ∨ x = 24 ∨ x = 25) h2 (hS (hS (hS (hS h2 1 (cO 11 [vR 2, vI D.1.2.2.1, vR 10, vR 16, vR 22, vI pc, vR 23, vR 24, vR 25, vR 28, vR 40, vR 41])) 2 (cO 8 [vI 0, vR 3, vR 4, vI D.1.2.2.1, vI (D.2.2.2 : Int), vI (-1), vI (tE p' : Int), vI (D.2.2.1 : Int), vI (tC p'), vI (tS p' : Int), vI (tN p')])) 25 (cO 6 [vI 0, vR 26, vR 27])) 1 (cO 11 [vR 2, vI D.1.2.2.1, vR 10, vR 16, vR 22, vI 0, vR 23, vR 24, vR 25, vR 28, vR 40, vR 41])) := (((FP.st (by omega)).tr (FP.st (by omega))).tr (FP.st (by omega))).tr (FP.st (by omega))
    obtain ⟨Q, K, I0, I1, I2⟩ := I
    obtain ⟨h4, K', e4, K1, K2, f4⟩ := lk_kept 2 0 (hS (hS (hS (hS h2 1 (cO 11 [vR 2, vI D.1.2.2.1, vR 10, vR 16, vR 22, vI pc, vR 23, vR 24, vR 25, vR 28, vR 40, vR 41])) 2 (cO 8 [vI 0, vR 3, vR 4, vI D.1.2.2.1, vI (D.2.2.2 : Int), vI (-1), vI (tE p' : Int), vI (D.2.2.1 : Int), vI (tC p'), vI (tS p' : Int), vI (tN p')])) 25 (cO 6 [vI 0, vR 26, vR 27])) 1 (cO 11 [vR 2, vI D.1.2.2.1, vR 10, vR 16, vR 22, vI 0, vR 23, vR 24, vR 25, vR 28, vR 40, vR 41])) K (by omega) hS_same (by rw [hS_ne (by omega), hS_ne (by omega), hS_ne (by omega), hS_ne (by omega)]; exact (f2.at (by omega)).trans ((f1.at (by omega)).trans I1)) (fun j hj => by omega)
    have fl : FP (fun x => (1 ≤ x ∧ x < 16) ∨ x = 24 ∨ x = 25) h h4 := (((f1.fp (fun x hx => by omega)).tr (f2.fp (fun x hx => by omega))).tr f3).tr (f4.fp (fun x hx => by omega))
    have O4 : h4.1 1 = cO 11 [vR 2, vI D.1.2.2.1, vR 10, vR 16, vR 22, vI 0, vR 23, vR 24, vR 25, vR 28, vR 40, vR 41] := (f4.at (by omega)).trans hS_same
    have T4 : h4.1 2 = cO 8 [vI 0, vR 3, vR 4, vI D.1.2.2.1, vI (D.2.2.2 : Int), vI (-1), vI (tE p' : Int), vI (D.2.2.1 : Int), vI (tC p'), vI (tS p' : Int), vI (tN p')] := by
      rw [f4.at (by omega), hS_ne (by omega), hS_ne (by omega)]; exact hS_same
    refine ⟨h4, ?_, O4, ?_, ⟨_, _, _, _, _, _, _, _, g, T4, ?_, fun j hj => by omega, ?_⟩, ⟨s', v', ?_, fl.at E1 (by omega), fl.at E2 (by omega), fun j hj => by omega⟩, ⟨Q, K', fl.at I0 (by omega), K1, fun i hi => ⟨(I2 i hi).1, (I2 i hi).2.1.on (fun x hx => fl.2 x (by omega)), K2 i hi⟩⟩, fl⟩
    · rw [ev_Cell_gaol]
      simp (disch := omega) only [e_Cell_gaol_0, e_Cell_gaol_1, e_Cell_gaol_4, e_Cell_gaol_7, e_Cell_gaol_7b, e_Cell_gaol_10, e_Cell_gaol_12, e_Cell_gaol_13, e_Cell_gaol_16, e_Cell_gaol_19, e_Cell_gaol_20, e_Cell_gaol_21, e_Cell_gaol_22, e_Cell_gaol_25, e_Cell_gaol_26, e_Cell_gaol_29, e_Cell_gaol_32, e_Cell_gaol_35, e_Cell_gaol_36, e_Cell_gaol_37, e_Cell_gaol_40, e_Cell_gaol_43, e_Cell_gaol_46, e_Cell_gaol_47, e_Cell_gaol_50, e_Cell_gaol_51, e_Cell_gaol_54, e_Cell_gaol_55, e_Cell_gaol_58, e_Cell_gaol_59, e_Cell_gaol_62, e_Cell_gaol_63, e_Cell_gaol_64, e_Cell_gaol_67, e_Cell_gaol_68, e_Cell_gaol_70, e_Cell_gaol_71, e_Cell_gaol_74, e_Cell_gaol_75, e_Cell_gaol_78, e_Cell_gaol_79, e_Cell_gaol_80, e_Cell_gaol_81, e_Cell_gaol_84, e_Cell_gaol_88, e_Cell_gaol_91, e_Cell_gaol_94, alk_in, ask_in, blk_in, bsk_in, qlk_in, ack_in, rcv_in, rcA_in, bk_i, bk_l, bk_v, hS_same, hS_ne, hS_hS, hS_2, am_10, am_01, am_00, if_true, if_false, gf_6_0, pf_6_0, gf_6_1, pf_6_1, gf_6_2, pf_6_2, gf_8_0, pf_8_0, gf_8_1, pf_8_1, gf_8_2, pf_8_2, gf_8_3, pf_8_3, gf_8_4, pf_8_4, gf_8_5, pf_8_5, gf_8_6, pf_8_6, gf_8_7, pf_8_7, gf_8_8, pf_8_8, gf_8_9, pf_8_9, gf_8_10, pf_8_10, gf_11_0, pf_11_0, gf_11_1, pf_11_1, gf_11_2, pf_11_2, gf_11_3, pf_11_3, gf_11_4, pf_11_4, gf_11_5, pf_11_5, gf_11_6, pf_11_6, gf_11_7, pf_11_7, gf_11_8, pf_11_8, gf_11_9, pf_11_9, gf_11_10, pf_11_10, gf_11_11, pf_11_11, O0, X0, e1, O1', T1, sb1, e2, O2, T2, E02]
      refine Eq.trans e4 ?_
      simp (disch := omega) only [e_Cell_gaol_87, e_Cell_gaol_88, e_Cell_gaol_91, e_Cell_gaol_94, alk_in, ask_in, blk_in, bsk_in, qlk_in, ack_in, rcv_in, rcA_in, bk_i, bk_l, bk_v, hS_same, hS_ne, hS_hS, hS_2, am_10, am_01, am_00, if_true, if_false, gf_8_0, pf_8_0, gf_8_1, pf_8_1, gf_8_2, pf_8_2, gf_8_3, pf_8_3, gf_8_4, pf_8_4, gf_8_5, pf_8_5, gf_8_6, pf_8_6, gf_8_7, pf_8_7, gf_8_8, pf_8_8, gf_8_9, pf_8_9, gf_8_10, pf_8_10, gf_11_0, pf_11_0, gf_11_1, pf_11_1, gf_11_2, pf_11_2, gf_11_3, pf_11_3, gf_11_4, pf_11_4, gf_11_5, pf_11_5, gf_11_6, pf_11_6, gf_11_7, pf_11_7, gf_11_8, pf_11_8, gf_11_9, pf_11_9, gf_11_10, pf_11_10, gf_11_11, pf_11_11, O4, T4]
    · exact RT.on R2 (fun x hx => by rw [f4.at (by omega), hS_ne (by omega), hS_ne (by omega), hS_ne (by omega), hS_ne (by omega)])
    · rw [f4.at (by omega), hS_ne (by omega), hS_ne (by omega), hS_ne (by omega), hS_ne (by omega), f2.at (by omega)]; exact g1
    · exact (R1.sh).on (fun x hx => by rw [f4.at (by omega), hS_ne (by omega), hS_ne (by omega), hS_ne (by omega), hS_ne (by omega), f2.at (by omega)])
    · rw [f4.at (by omega), hS_ne (by omega)]; exact hS_same
end GaolK
