/-! the text: the class reads an item -/
section RdC
variable {h : am_H} {L p : Nat} {g : Nat → Int} {tE tS : Nat → Nat} {tC tN : Nat → Int} {x3 x4 x7 : am_V} {G : Gl} {T : Tm}
/-- the text's object after a fault -/
def TxF (h : am_H) (L : Nat) (tE tS : Nat → Nat) (tC tN : Nat → Int) (q : Nat) : Prop := ∃ p x3 x4 x7, p ≤ L ∧ TxO h L tE tS tC tN p x3 x4 (vI (q : Int)) x7
theorem k_readMan (X : TxG L g tE tS tC tN) (hp : p ≤ L) (O : TxO h L tE tS tC tN p x3 x4 (vI (-1)) x7) (Gg : h.1 3 = cI 0 120 g) (S : RT h 4 G T) (hw : WT G T) (hn : G.1 < 6) : match rdN tE tS tC tN G T p with
    | .inl q => ∃ h' p', ev mText_readMan [vR 2] h = some (none, h') ∧ p' ≤ L ∧ TxO h' L tE tS tC tN p' x3 x4 (vI (q : Int)) x7 ∧ Fr 2 3 h h'
    | .inr r => ∃ h', ev mText_readMan [vR 2] h = some (none, h') ∧ TxO h' L tE tS tC tN r.2 x3 x4 (vI (-1)) x7 ∧ RT h' 4 r.1.1 r.1.2 ∧ h'.1 3 = h.1 3 ∧ Fr 2 10 h h' := by
  obtain ⟨n, c, lq, ha⟩ := G
  obtain ⟨t, ce, so, ye⟩ := T
  unfold RT at S
  unfold WT at hw
  simp only at S hw hn
  have hc2 := hw.2.1
  have hc9 := hw.2.2.1
  have hL := X.1
  have p1 := (X.2.1 p hp).2.1
  have p2 := (X.2.1 _ p1.2).2.1
  have p3 := (X.2.1 _ p2.2).2.1
  have s0b := (X.2.1 p hp).1
  have s1b := (X.2.1 _ p1.2).1
  have s2b := (X.2.1 _ p2.2).1
  have s3b := (X.2.1 _ p3.2).1
  have cr := (X.2.1 p hp).2.2.2.1
  have sob := RT.ob (G := (n, c, lq, ha)) (T := (t, ce, so, ye)) S
  simp only at sob
  unfold rdN
  simp only
  by_cases q0 : fit tC tN p 0 ((c : Int) - 1) ∧ who n ce (tN p) = -9
  · rw [if_pos q0]
    have c0 := d_whoIn S hw (x := tN p) (by omega) (by omega)
    rw [q0.2] at c0
    have t0 := q0.1.1
    obtain ⟨h1, e1, O1, f1⟩ := k_take1 X hp O Gg (a := 0) (b := (c : Int) - 1) (by omega) q0.1
    have O0 := O
    unfold TxO at O0
    have O1' := O1
    unfold TxO at O1'
    by_cases q1 : fit tC tN (tE p) 0 4
    · rw [if_pos q1]
      obtain ⟨h2, e2, O2, f2⟩ := k_take1 X p1.2 O1 ((f1.at (by omega)).trans Gg) (a := 0) (b := 4) (by omega) q1
      have O2' := O2
      unfold TxO at O2'
      by_cases q2 : fit tC tN (tE (tE p)) 0 3
      · rw [if_pos q2]
        obtain ⟨h3, e3, O3, f3⟩ := k_take1 X p2.2 O2 ((f2.at (by omega)).trans ((f1.at (by omega)).trans Gg)) (a := 0) (b := 3) (by omega) q2
        have O3' := O3
        unfold TxO at O3'
        by_cases q3 : fit tC tN (tE (tE (tE p))) 1 60
        · rw [if_pos q3]
          obtain ⟨h4, e4, O4, f4⟩ := k_take1 X p3.2 O3 ((f3.at (by omega)).trans ((f2.at (by omega)).trans ((f1.at (by omega)).trans Gg))) (a := 1) (b := 60) (by omega) q3
          have O4' := O4
          unfold TxO at O4'
          have ff := ((f1.tr f2).tr f3).tr f4
          obtain ⟨x, hx⟩ : ∃ x : Nat, tN p = (x : Int) := ⟨(tN p).toNat, by omega⟩
          obtain ⟨h5, e5, S5, f5⟩ := d_addMan (S.fr ff (by omega)) hc9 hn (x := x) (s := tN (tE p)) (a := tN (tE (tE p))) (y := tN (tE (tE (tE p)))) (by omega)
          refine ⟨h5, ?_, (f5.at (by omega)).trans O4, ?_, (f5.at (by omega)).trans (ff.at (by omega)), (ff.wd (by omega)).tr (f5.wd (by omega))⟩
          · have sob4 := (ff.at (a := 4) (by omega)).trans sob
            rw [hx] at e1 c0 O0
            rw [t0] at O0
            rw [ev_Text_readMan]
            simp (disch := omega) only [e_Text_readMan_0, e_Text_readMan_1, e_Text_readMan_4, e_Text_readMan_5, e_Text_readMan_8, e_Text_readMan_9, e_Text_readMan_12, e_Text_readMan_13, e_Text_readMan_16, e_Text_readMan_19, e_Text_readMan_21, e_Text_readMan_24, e_Text_readMan_25, e_Text_readMan_28, e_Text_readMan_29, e_Text_readMan_30, e_Text_readMan_31, e_Text_readMan_31b, e_Text_readMan_34, e_Text_readMan_35, e_Text_readMan_38, e_Text_readMan_39, e_Text_readMan_40, e_Text_readMan_41, e_Text_readMan_44, e_Text_readMan_47, e_Text_readMan_48, e_Text_readMan_49, e_Text_readMan_52, e_Text_readMan_53, e_Text_readMan_54, e_Text_readMan_55, e_Text_readMan_56, e_Text_readMan_59, e_Text_readMan_60, e_Text_readMan_61, e_Text_readMan_62, e_Text_readMan_63, e_Text_readMan_66, e_Text_readMan_68, e_Text_readMan_69, e_Text_readMan_70, e_Text_readMan_72, e_Text_readMan_75, e_Text_readMan_77, e_Text_readMan_78, e_Text_readMan_81, e_Text_readMan_82, e_Text_readMan_85, e_Text_readMan_86, e_Text_readMan_89, e_Text_readMan_90, e_Text_readMan_91, e_Text_readMan_93, e_Text_readMan_95, e_Text_readMan_98, alk_in, ask_in, blk_in, bsk_in, qlk_in, ack_in, rcv_in, rcA_in, bk_i, bk_l, bk_v, hS_same, hS_ne, hS_hS, hS_2, am_10, am_01, am_00, if_true, if_false, gf_5_0, pf_5_0, gf_5_1, pf_5_1, gf_5_2, pf_5_2, gf_5_3, pf_5_3, gf_5_4, pf_5_4, gf_5_5, pf_5_5, gf_5_6, pf_5_6, gf_5_7, pf_5_7, gf_8_0, pf_8_0, gf_8_1, pf_8_1, gf_8_2, pf_8_2, gf_8_3, pf_8_3, gf_8_4, pf_8_4, gf_8_5, pf_8_5, gf_8_6, pf_8_6, gf_8_7, pf_8_7, gf_8_8, pf_8_8, gf_8_9, pf_8_9, gf_8_10, pf_8_10, O0, sob, c0, e1, O1', e2, O2', e3, O3', e4, O4', sob4, e5]
          · show RepS h5 4 (n + 1) c t _ _ _ _
            rw [hx]
            exact S5
        · rw [if_neg q3]
          obtain ⟨h4, e4, O4, f4⟩ := k_take0 X p3.2 O3 (a := 1) (b := 60) (by omega) q3
          have O4' := O4
          unfold TxO at O4'
          refine ⟨h4, _, ?_, p3.2, O4, ((f1.tr f2).tr f3).tr f4⟩
          rw [t0] at O0
          rw [ev_Text_readMan]
          simp (disch := omega) only [e_Text_readMan_0, e_Text_readMan_1, e_Text_readMan_4, e_Text_readMan_5, e_Text_readMan_8, e_Text_readMan_9, e_Text_readMan_12, e_Text_readMan_13, e_Text_readMan_16, e_Text_readMan_19, e_Text_readMan_21, e_Text_readMan_24, e_Text_readMan_25, e_Text_readMan_28, e_Text_readMan_29, e_Text_readMan_30, e_Text_readMan_31, e_Text_readMan_31b, e_Text_readMan_34, e_Text_readMan_35, e_Text_readMan_38, e_Text_readMan_39, e_Text_readMan_40, e_Text_readMan_41, e_Text_readMan_44, e_Text_readMan_47, e_Text_readMan_48, e_Text_readMan_49, e_Text_readMan_52, e_Text_readMan_53, e_Text_readMan_54, e_Text_readMan_55, e_Text_readMan_56, e_Text_readMan_59, e_Text_readMan_60, e_Text_readMan_61, e_Text_readMan_62, e_Text_readMan_63, e_Text_readMan_66, e_Text_readMan_68, e_Text_readMan_69, e_Text_readMan_70, e_Text_readMan_72, e_Text_readMan_75, e_Text_readMan_77, e_Text_readMan_78, e_Text_readMan_81, e_Text_readMan_82, e_Text_readMan_85, e_Text_readMan_86, e_Text_readMan_89, e_Text_readMan_90, e_Text_readMan_91, e_Text_readMan_93, e_Text_readMan_95, e_Text_readMan_98, alk_in, ask_in, blk_in, bsk_in, qlk_in, ack_in, rcv_in, rcA_in, bk_i, bk_l, bk_v, hS_same, hS_ne, hS_hS, hS_2, am_10, am_01, am_00, if_true, if_false, gf_5_0, pf_5_0, gf_5_1, pf_5_1, gf_5_2, pf_5_2, gf_5_3, pf_5_3, gf_5_4, pf_5_4, gf_5_5, pf_5_5, gf_5_6, pf_5_6, gf_5_7, pf_5_7, gf_8_0, pf_8_0, gf_8_1, pf_8_1, gf_8_2, pf_8_2, gf_8_3, pf_8_3, gf_8_4, pf_8_4, gf_8_5, pf_8_5, gf_8_6, pf_8_6, gf_8_7, pf_8_7, gf_8_8, pf_8_8, gf_8_9, pf_8_9, gf_8_10, pf_8_10, O0, sob, c0, e1, O1', e2, O2', e3, O3', e4, O4']
          rw [if_neg (by omega)]
      · rw [if_neg q2]
        obtain ⟨h3, e3, O3, f3⟩ := k_take0 X p2.2 O2 (a := 0) (b := 3) (by omega) q2
        have O3' := O3
        unfold TxO at O3'
        have e4 := k_takef (a := 1) (b := 60) (show tS (tE (tE p)) ≤ 120 by omega) X p2.2 O3 (by omega)
        refine ⟨h3, _, ?_, p2.2, O3, (f1.tr f2).tr f3⟩
        rw [t0] at O0
        rw [ev_Text_readMan]
        simp (disch := omega) only [e_Text_readMan_0, e_Text_readMan_1, e_Text_readMan_4, e_Text_readMan_5, e_Text_readMan_8, e_Text_readMan_9, e_Text_readMan_12, e_Text_readMan_13, e_Text_readMan_16, e_Text_readMan_19, e_Text_readMan_21, e_Text_readMan_24, e_Text_readMan_25, e_Text_readMan_28, e_Text_readMan_29, e_Text_readMan_30, e_Text_readMan_31, e_Text_readMan_31b, e_Text_readMan_34, e_Text_readMan_35, e_Text_readMan_38, e_Text_readMan_39, e_Text_readMan_40, e_Text_readMan_41, e_Text_readMan_44, e_Text_readMan_47, e_Text_readMan_48, e_Text_readMan_49, e_Text_readMan_52, e_Text_readMan_53, e_Text_readMan_54, e_Text_readMan_55, e_Text_readMan_56, e_Text_readMan_59, e_Text_readMan_60, e_Text_readMan_61, e_Text_readMan_62, e_Text_readMan_63, e_Text_readMan_66, e_Text_readMan_68, e_Text_readMan_69, e_Text_readMan_70, e_Text_readMan_72, e_Text_readMan_75, e_Text_readMan_77, e_Text_readMan_78, e_Text_readMan_81, e_Text_readMan_82, e_Text_readMan_85, e_Text_readMan_86, e_Text_readMan_89, e_Text_readMan_90, e_Text_readMan_91, e_Text_readMan_93, e_Text_readMan_95, e_Text_readMan_98, alk_in, ask_in, blk_in, bsk_in, qlk_in, ack_in, rcv_in, rcA_in, bk_i, bk_l, bk_v, hS_same, hS_ne, hS_hS, hS_2, am_10, am_01, am_00, if_true, if_false, gf_5_0, pf_5_0, gf_5_1, pf_5_1, gf_5_2, pf_5_2, gf_5_3, pf_5_3, gf_5_4, pf_5_4, gf_5_5, pf_5_5, gf_5_6, pf_5_6, gf_5_7, pf_5_7, gf_8_0, pf_8_0, gf_8_1, pf_8_1, gf_8_2, pf_8_2, gf_8_3, pf_8_3, gf_8_4, pf_8_4, gf_8_5, pf_8_5, gf_8_6, pf_8_6, gf_8_7, pf_8_7, gf_8_8, pf_8_8, gf_8_9, pf_8_9, gf_8_10, pf_8_10, O0, sob, c0, e1, O1', e2, O2', e3, O3', e4]
        rw [if_neg (by omega)]
    · rw [if_neg q1]
      obtain ⟨h2, e2, O2, f2⟩ := k_take0 X p1.2 O1 (a := 0) (b := 4) (by omega) q1
      have O2' := O2
      unfold TxO at O2'
      have e3 := k_takef (a := 0) (b := 3) (show tS (tE p) ≤ 120 by omega) X p1.2 O2 (by omega)
      have e4 := k_takef (a := 1) (b := 60) (show tS (tE p) ≤ 120 by omega) X p1.2 O2 (by omega)
      refine ⟨h2, _, ?_, p1.2, O2, f1.tr f2⟩
      rw [t0] at O0
      rw [ev_Text_readMan]
      simp (disch := omega) only [e_Text_readMan_0, e_Text_readMan_1, e_Text_readMan_4, e_Text_readMan_5, e_Text_readMan_8, e_Text_readMan_9, e_Text_readMan_12, e_Text_readMan_13, e_Text_readMan_16, e_Text_readMan_19, e_Text_readMan_21, e_Text_readMan_24, e_Text_readMan_25, e_Text_readMan_28, e_Text_readMan_29, e_Text_readMan_30, e_Text_readMan_31, e_Text_readMan_31b, e_Text_readMan_34, e_Text_readMan_35, e_Text_readMan_38, e_Text_readMan_39, e_Text_readMan_40, e_Text_readMan_41, e_Text_readMan_44, e_Text_readMan_47, e_Text_readMan_48, e_Text_readMan_49, e_Text_readMan_52, e_Text_readMan_53, e_Text_readMan_54, e_Text_readMan_55, e_Text_readMan_56, e_Text_readMan_59, e_Text_readMan_60, e_Text_readMan_61, e_Text_readMan_62, e_Text_readMan_63, e_Text_readMan_66, e_Text_readMan_68, e_Text_readMan_69, e_Text_readMan_70, e_Text_readMan_72, e_Text_readMan_75, e_Text_readMan_77, e_Text_readMan_78, e_Text_readMan_81, e_Text_readMan_82, e_Text_readMan_85, e_Text_readMan_86, e_Text_readMan_89, e_Text_readMan_90, e_Text_readMan_91, e_Text_readMan_93, e_Text_readMan_95, e_Text_readMan_98, alk_in, ask_in, blk_in, bsk_in, qlk_in, ack_in, rcv_in, rcA_in, bk_i, bk_l, bk_v, hS_same, hS_ne, hS_hS, hS_2, am_10, am_01, am_00, if_true, if_false, gf_5_0, pf_5_0, gf_5_1, pf_5_1, gf_5_2, pf_5_2, gf_5_3, pf_5_3, gf_5_4, pf_5_4, gf_5_5, pf_5_5, gf_5_6, pf_5_6, gf_5_7, pf_5_7, gf_8_0, pf_8_0, gf_8_1, pf_8_1, gf_8_2, pf_8_2, gf_8_3, pf_8_3, gf_8_4, pf_8_4, gf_8_5, pf_8_5, gf_8_6, pf_8_6, gf_8_7, pf_8_7, gf_8_8, pf_8_8, gf_8_9, pf_8_9, gf_8_10, pf_8_10, O0, sob, c0, e1, O1', e2, O2', e3, e4]
      rw [if_neg (by omega)]
  · rw [if_neg q0]
    have O0 := O
    unfold TxO at O0
    by_cases t0 : tC p = 1
    · have nb := (X.2.1 p hp).2.2.2.2 t0
      have c0 := d_whoIn S hw (x := tN p) (by omega) (by omega)
      have wb := who_b n ce (tN p)
      by_cases w0 : who n ce (tN p) = -9
      · rw [w0] at c0
        obtain ⟨h1, e1, O1, f1⟩ := k_take0 X hp O (a := 0) (b := (c : Int) - 1) (by omega) (fun z => q0 ⟨z, w0⟩)
        have O1' := O1
        unfold TxO at O1'
        have e2 := k_takef (a := 0) (b := 4) (show tS p ≤ 120 by omega) X hp O1 (by omega)
        have e3 := k_takef (a := 0) (b := 3) (show tS p ≤ 120 by omega) X hp O1 (by omega)
        have e4 := k_takef (a := 1) (b := 60) (show tS p ≤ 120 by omega) X hp O1 (by omega)
        refine ⟨h1, _, ?_, hp, O1, f1⟩
        rw [t0] at O0
        rw [ev_Text_readMan]
        simp (disch := omega) only [e_Text_readMan_0, e_Text_readMan_1, e_Text_readMan_4, e_Text_readMan_5, e_Text_readMan_8, e_Text_readMan_9, e_Text_readMan_12, e_Text_readMan_13, e_Text_readMan_16, e_Text_readMan_19, e_Text_readMan_21, e_Text_readMan_24, e_Text_readMan_25, e_Text_readMan_28, e_Text_readMan_29, e_Text_readMan_30, e_Text_readMan_31, e_Text_readMan_31b, e_Text_readMan_34, e_Text_readMan_35, e_Text_readMan_38, e_Text_readMan_39, e_Text_readMan_40, e_Text_readMan_41, e_Text_readMan_44, e_Text_readMan_47, e_Text_readMan_48, e_Text_readMan_49, e_Text_readMan_52, e_Text_readMan_53, e_Text_readMan_54, e_Text_readMan_55, e_Text_readMan_56, e_Text_readMan_59, e_Text_readMan_60, e_Text_readMan_61, e_Text_readMan_62, e_Text_readMan_63, e_Text_readMan_66, e_Text_readMan_68, e_Text_readMan_69, e_Text_readMan_70, e_Text_readMan_72, e_Text_readMan_75, e_Text_readMan_77, e_Text_readMan_78, e_Text_readMan_81, e_Text_readMan_82, e_Text_readMan_85, e_Text_readMan_86, e_Text_readMan_89, e_Text_readMan_90, e_Text_readMan_91, e_Text_readMan_93, e_Text_readMan_95, e_Text_readMan_98, alk_in, ask_in, blk_in, bsk_in, qlk_in, ack_in, rcv_in, rcA_in, bk_i, bk_l, bk_v, hS_same, hS_ne, hS_hS, hS_2, am_10, am_01, am_00, if_true, if_false, gf_5_0, pf_5_0, gf_5_1, pf_5_1, gf_5_2, pf_5_2, gf_5_3, pf_5_3, gf_5_4, pf_5_4, gf_5_5, pf_5_5, gf_5_6, pf_5_6, gf_5_7, pf_5_7, gf_8_0, pf_8_0, gf_8_1, pf_8_1, gf_8_2, pf_8_2, gf_8_3, pf_8_3, gf_8_4, pf_8_4, gf_8_5, pf_8_5, gf_8_6, pf_8_6, gf_8_7, pf_8_7, gf_8_8, pf_8_8, gf_8_9, pf_8_9, gf_8_10, pf_8_10, O0, sob, c0, e1, O1', e2, e3, e4]
        rw [if_neg (by omega)]
      · obtain ⟨h1, e1, O1, f1⟩ := k_refuse0 O
        have O1' := O1
        unfold TxO at O1'
        have sob1 := (f1.at (a := 4) (by omega)).trans sob
        have e1' := k_takef (a := 0) (b := (c : Int) - 1) (show tS p ≤ 120 by omega) X hp O1 (by omega)
        have e2 := k_takef (a := 0) (b := 4) (show tS p ≤ 120 by omega) X hp O1 (by omega)
        have e3 := k_takef (a := 0) (b := 3) (show tS p ≤ 120 by omega) X hp O1 (by omega)
        have e4 := k_takef (a := 1) (b := 60) (show tS p ≤ 120 by omega) X hp O1 (by omega)
        refine ⟨h1, _, ?_, hp, O1, f1⟩
        rw [t0] at O0
        rw [ev_Text_readMan]
        simp (disch := omega) only [e_Text_readMan_0, e_Text_readMan_1, e_Text_readMan_4, e_Text_readMan_5, e_Text_readMan_8, e_Text_readMan_9, e_Text_readMan_12, e_Text_readMan_13, e_Text_readMan_16, e_Text_readMan_19, e_Text_readMan_21, e_Text_readMan_24, e_Text_readMan_25, e_Text_readMan_28, e_Text_readMan_29, e_Text_readMan_30, e_Text_readMan_31, e_Text_readMan_31b, e_Text_readMan_34, e_Text_readMan_35, e_Text_readMan_38, e_Text_readMan_39, e_Text_readMan_40, e_Text_readMan_41, e_Text_readMan_44, e_Text_readMan_47, e_Text_readMan_48, e_Text_readMan_49, e_Text_readMan_52, e_Text_readMan_53, e_Text_readMan_54, e_Text_readMan_55, e_Text_readMan_56, e_Text_readMan_59, e_Text_readMan_60, e_Text_readMan_61, e_Text_readMan_62, e_Text_readMan_63, e_Text_readMan_66, e_Text_readMan_68, e_Text_readMan_69, e_Text_readMan_70, e_Text_readMan_72, e_Text_readMan_75, e_Text_readMan_77, e_Text_readMan_78, e_Text_readMan_81, e_Text_readMan_82, e_Text_readMan_85, e_Text_readMan_86, e_Text_readMan_89, e_Text_readMan_90, e_Text_readMan_91, e_Text_readMan_93, e_Text_readMan_95, e_Text_readMan_98, alk_in, ask_in, blk_in, bsk_in, qlk_in, ack_in, rcv_in, rcA_in, bk_i, bk_l, bk_v, hS_same, hS_ne, hS_hS, hS_2, am_10, am_01, am_00, if_true, if_false, gf_5_0, pf_5_0, gf_5_1, pf_5_1, gf_5_2, pf_5_2, gf_5_3, pf_5_3, gf_5_4, pf_5_4, gf_5_5, pf_5_5, gf_5_6, pf_5_6, gf_5_7, pf_5_7, gf_8_0, pf_8_0, gf_8_1, pf_8_1, gf_8_2, pf_8_2, gf_8_3, pf_8_3, gf_8_4, pf_8_4, gf_8_5, pf_8_5, gf_8_6, pf_8_6, gf_8_7, pf_8_7, gf_8_8, pf_8_8, gf_8_9, pf_8_9, gf_8_10, pf_8_10, O0, sob, c0, e1, O1', sob1, w0, e1', e2, e3, e4]
        rw [if_neg (by omega)]
    · obtain ⟨h1, e1, O1, f1⟩ := k_take0 X hp O (a := 0) (b := (c : Int) - 1) (by omega) (fun z => t0 z.1)
      have O1' := O1
      unfold TxO at O1'
      have e2 := k_takef (a := 0) (b := 4) (show tS p ≤ 120 by omega) X hp O1 (by omega)
      have e3 := k_takef (a := 0) (b := 3) (show tS p ≤ 120 by omega) X hp O1 (by omega)
      have e4 := k_takef (a := 1) (b := 60) (show tS p ≤ 120 by omega) X hp O1 (by omega)
      refine ⟨h1, _, ?_, hp, O1, f1⟩
      rw [ev_Text_readMan]
      simp (disch := omega) only [e_Text_readMan_0, e_Text_readMan_1, e_Text_readMan_4, e_Text_readMan_5, e_Text_readMan_8, e_Text_readMan_9, e_Text_readMan_12, e_Text_readMan_13, e_Text_readMan_16, e_Text_readMan_19, e_Text_readMan_21, e_Text_readMan_24, e_Text_readMan_25, e_Text_readMan_28, e_Text_readMan_29, e_Text_readMan_30, e_Text_readMan_31, e_Text_readMan_31b, e_Text_readMan_34, e_Text_readMan_35, e_Text_readMan_38, e_Text_readMan_39, e_Text_readMan_40, e_Text_readMan_41, e_Text_readMan_44, e_Text_readMan_47, e_Text_readMan_48, e_Text_readMan_49, e_Text_readMan_52, e_Text_readMan_53, e_Text_readMan_54, e_Text_readMan_55, e_Text_readMan_56, e_Text_readMan_59, e_Text_readMan_60, e_Text_readMan_61, e_Text_readMan_62, e_Text_readMan_63, e_Text_readMan_66, e_Text_readMan_68, e_Text_readMan_69, e_Text_readMan_70, e_Text_readMan_72, e_Text_readMan_75, e_Text_readMan_77, e_Text_readMan_78, e_Text_readMan_81, e_Text_readMan_82, e_Text_readMan_85, e_Text_readMan_86, e_Text_readMan_89, e_Text_readMan_90, e_Text_readMan_91, e_Text_readMan_93, e_Text_readMan_95, e_Text_readMan_98, alk_in, ask_in, blk_in, bsk_in, qlk_in, ack_in, rcv_in, rcA_in, bk_i, bk_l, bk_v, hS_same, hS_ne, hS_hS, hS_2, am_10, am_01, am_00, if_true, if_false, gf_5_0, pf_5_0, gf_5_1, pf_5_1, gf_5_2, pf_5_2, gf_5_3, pf_5_3, gf_5_4, pf_5_4, gf_5_5, pf_5_5, gf_5_6, pf_5_6, gf_5_7, pf_5_7, gf_8_0, pf_8_0, gf_8_1, pf_8_1, gf_8_2, pf_8_2, gf_8_3, pf_8_3, gf_8_4, pf_8_4, gf_8_5, pf_8_5, gf_8_6, pf_8_6, gf_8_7, pf_8_7, gf_8_8, pf_8_8, gf_8_9, pf_8_9, gf_8_10, pf_8_10, O0, sob, e1, O1', e2, e3, e4, t0]
      rw [if_neg (by omega)]
end RdC
