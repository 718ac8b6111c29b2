/-! odds: the class -/
section OddsC
variable {h : am_H} {G : Gl} {T : Tm} {lo pc : Int}
def TrS (h : am_H) (G : Gl) (T : Tm) (m s k : Nat) : Prop := ∃ t so', RepS h 16 G.1 G.2.1 t (fbt G T m s k).1 so' G.2.2.2 (fbt G T m s k).2 ∧ Wf G.1 G.2.1 (fbt G T m s k).1 so' G.2.2.2 (fbt G T m s k).2 ∧ ∀ j, j < G.1 → ¬ j = m → so' j = T.2.2.1 j
theorem lk_free {m s N : Nat} (hw : WT G T) (hm : m < G.1) (hN : N ≤ 6) (hs : s < 64) : ∀ (d k : Nat) (h : am_H) (x5 : am_V), k + d = N → CeO h lo pc → RT h 10 G T → TrS h G T m s k → ∃ h', gv mCell_isFreeBehind 14 [vR 1, vI (m : Int), vI (s : Int), vI (N : Int), vI (k : Int), x5] [] h = some (some (vI (if (fbt G T m s N).1 m = -9 then 1 else 0)), h') ∧ ScSh h' 16 ∧ Fr 16 22 h h' := by
  have hn := hw.1
  intro d
  induction d with
  | zero =>
    intro k h x5 hk O S Q
    have : k = N := by omega
    subst this
    obtain ⟨t, so', Q1, Q2, Q3⟩ := Q
    have c1 := d_isIn Q1 Q2 hm
    have qo := RepS.sh Q1
    obtain ⟨fs, qob⟩ := qo.ob
    refine ⟨h, ?_, qo, Fr.rf⟩
    unfold CeO at O
    rw [e_Cell_isFreeBehind_14]
    by_cases y : (fbt G T m s k).1 m = -9
    · rw [if_pos y] at c1 ⊢
      simp (disch := omega) only [e_Cell_isFreeBehind_0, e_Cell_isFreeBehind_1, e_Cell_isFreeBehind_4, e_Cell_isFreeBehind_5, e_Cell_isFreeBehind_8, e_Cell_isFreeBehind_11, e_Cell_isFreeBehind_12, e_Cell_isFreeBehind_16, e_Cell_isFreeBehind_17, e_Cell_isFreeBehind_20, e_Cell_isFreeBehind_21, e_Cell_isFreeBehind_24, e_Cell_isFreeBehind_25, e_Cell_isFreeBehind_28, e_Cell_isFreeBehind_28b, e_Cell_isFreeBehind_31, e_Cell_isFreeBehind_32, e_Cell_isFreeBehind_34, e_Cell_isFreeBehind_35, e_Cell_isFreeBehind_36, e_Cell_isFreeBehind_37, e_Cell_isFreeBehind_38, e_Cell_isFreeBehind_41, e_Cell_isFreeBehind_42, e_Cell_isFreeBehind_45, e_Cell_isFreeBehind_46, e_Cell_isFreeBehind_48, e_Cell_isFreeBehind_49, e_Cell_isFreeBehind_52, e_Cell_isFreeBehind_55, e_Cell_isFreeBehind_56, e_Cell_isFreeBehind_58, e_Cell_isFreeBehind_58b, e_Cell_isFreeBehind_61, e_Cell_isFreeBehind_62, e_Cell_isFreeBehind_65, e_Cell_isFreeBehind_66, e_Cell_isFreeBehind_69, e_Cell_isFreeBehind_72, e_Cell_isFreeBehind_73, e_Cell_isFreeBehind_74, e_Cell_isFreeBehind_75, e_Cell_isFreeBehind_76, e_Cell_isFreeBehind_79, e_Cell_isFreeBehind_82, e_Cell_isFreeBehind_83, e_Cell_isFreeBehind_86, e_Cell_isFreeBehind_89, e_Cell_isFreeBehind_90, e_Cell_isFreeBehind_93, e_Cell_isFreeBehind_94, e_Cell_isFreeBehind_97, e_Cell_isFreeBehind_97b, e_Cell_isFreeBehind_100, e_Cell_isFreeBehind_101, e_Cell_isFreeBehind_104, e_Cell_isFreeBehind_105, alk_in, ask_in, blk_in, bsk_in, qlk_in, ack_in, rcv_in, rcA_in, bk_i, bk_l, bk_v, hS_same, hS_ne, hS_hS, hS_2, am_10, am_01, am_00, if_true, if_false, gf_5_0, pf_5_0, gf_5_1, pf_5_1, gf_5_2, pf_5_2, gf_5_3, pf_5_3, gf_5_4, pf_5_4, gf_5_5, pf_5_5, gf_5_6, pf_5_6, gf_5_7, pf_5_7, gf_11_0, pf_11_0, gf_11_1, pf_11_1, gf_11_2, pf_11_2, gf_11_3, pf_11_3, gf_11_4, pf_11_4, gf_11_5, pf_11_5, gf_11_6, pf_11_6, gf_11_7, pf_11_7, gf_11_8, pf_11_8, gf_11_9, pf_11_9, gf_11_10, pf_11_10, gf_11_11, pf_11_11, O, qob, c1]
      rw [if_neg (by omega)]
    · rw [if_neg y] at c1 ⊢
      simp (disch := omega) only [e_Cell_isFreeBehind_0, e_Cell_isFreeBehind_1, e_Cell_isFreeBehind_4, e_Cell_isFreeBehind_5, e_Cell_isFreeBehind_8, e_Cell_isFreeBehind_11, e_Cell_isFreeBehind_12, e_Cell_isFreeBehind_16, e_Cell_isFreeBehind_17, e_Cell_isFreeBehind_20, e_Cell_isFreeBehind_21, e_Cell_isFreeBehind_24, e_Cell_isFreeBehind_25, e_Cell_isFreeBehind_28, e_Cell_isFreeBehind_28b, e_Cell_isFreeBehind_31, e_Cell_isFreeBehind_32, e_Cell_isFreeBehind_34, e_Cell_isFreeBehind_35, e_Cell_isFreeBehind_36, e_Cell_isFreeBehind_37, e_Cell_isFreeBehind_38, e_Cell_isFreeBehind_41, e_Cell_isFreeBehind_42, e_Cell_isFreeBehind_45, e_Cell_isFreeBehind_46, e_Cell_isFreeBehind_49, e_Cell_isFreeBehind_52, e_Cell_isFreeBehind_55, e_Cell_isFreeBehind_56, e_Cell_isFreeBehind_58, e_Cell_isFreeBehind_58b, e_Cell_isFreeBehind_61, e_Cell_isFreeBehind_62, e_Cell_isFreeBehind_65, e_Cell_isFreeBehind_66, e_Cell_isFreeBehind_69, e_Cell_isFreeBehind_72, e_Cell_isFreeBehind_73, e_Cell_isFreeBehind_74, e_Cell_isFreeBehind_75, e_Cell_isFreeBehind_76, e_Cell_isFreeBehind_79, e_Cell_isFreeBehind_82, e_Cell_isFreeBehind_83, e_Cell_isFreeBehind_86, e_Cell_isFreeBehind_89, e_Cell_isFreeBehind_90, e_Cell_isFreeBehind_93, e_Cell_isFreeBehind_94, e_Cell_isFreeBehind_97, e_Cell_isFreeBehind_97b, e_Cell_isFreeBehind_100, e_Cell_isFreeBehind_101, e_Cell_isFreeBehind_104, e_Cell_isFreeBehind_105, alk_in, ask_in, blk_in, bsk_in, qlk_in, ack_in, rcv_in, rcA_in, bk_i, bk_l, bk_v, hS_same, hS_ne, hS_hS, hS_2, am_10, am_01, am_00, if_true, if_false, gf_5_0, pf_5_0, gf_5_1, pf_5_1, gf_5_2, pf_5_2, gf_5_3, pf_5_3, gf_5_4, pf_5_4, gf_5_5, pf_5_5, gf_5_6, pf_5_6, gf_5_7, pf_5_7, gf_11_0, pf_11_0, gf_11_1, pf_11_1, gf_11_2, pf_11_2, gf_11_3, pf_11_3, gf_11_4, pf_11_4, gf_11_5, pf_11_5, gf_11_6, pf_11_6, gf_11_7, pf_11_7, gf_11_8, pf_11_8, gf_11_9, pf_11_9, gf_11_10, pf_11_10, gf_11_11, pf_11_11, O, qob, c1]
      rw [if_neg (by omega)]
  | succ d ih =>
    intro k h x5 hk O S Q
    obtain ⟨t, so', Q1, Q2, Q3⟩ := Q
    have c1 := d_isIn Q1 Q2 hm
    have qo := RepS.sh Q1
    have S' := S
    obtain ⟨ce2, so2, ha2, ye2, ic2, ⟨v0, v1, v2, v3, v4, v5⟩, rr, -⟩ := S'
    have Q1' := Q1
    obtain ⟨ce1, so1, ha1, ye1, ic1, ⟨u0, u1, u2, u3, u4, u5⟩, -⟩ := Q1'
    have O' := O
    unfold CeO at O
    rw [e_Cell_isFreeBehind_14]
    by_cases y : (fbt G T m s k).1 m = -9
    · rw [if_pos y] at c1
      have fin := fbt_out hw hm s k y (d + 1)
      rw [hk] at fin
      rw [if_pos fin]
      refine ⟨h, ?_, qo, Fr.rf⟩
      simp (disch := omega) only [e_Cell_isFreeBehind_0, e_Cell_isFreeBehind_1, e_Cell_isFreeBehind_4, e_Cell_isFreeBehind_5, e_Cell_isFreeBehind_8, e_Cell_isFreeBehind_11, e_Cell_isFreeBehind_12, e_Cell_isFreeBehind_16, e_Cell_isFreeBehind_17, e_Cell_isFreeBehind_20, e_Cell_isFreeBehind_21, e_Cell_isFreeBehind_24, e_Cell_isFreeBehind_25, e_Cell_isFreeBehind_28, e_Cell_isFreeBehind_28b, e_Cell_isFreeBehind_31, e_Cell_isFreeBehind_32, e_Cell_isFreeBehind_34, e_Cell_isFreeBehind_35, e_Cell_isFreeBehind_36, e_Cell_isFreeBehind_37, e_Cell_isFreeBehind_38, e_Cell_isFreeBehind_41, e_Cell_isFreeBehind_42, e_Cell_isFreeBehind_45, e_Cell_isFreeBehind_46, e_Cell_isFreeBehind_48, e_Cell_isFreeBehind_49, e_Cell_isFreeBehind_52, e_Cell_isFreeBehind_55, e_Cell_isFreeBehind_56, e_Cell_isFreeBehind_58, e_Cell_isFreeBehind_58b, e_Cell_isFreeBehind_61, e_Cell_isFreeBehind_62, e_Cell_isFreeBehind_65, e_Cell_isFreeBehind_66, e_Cell_isFreeBehind_69, e_Cell_isFreeBehind_72, e_Cell_isFreeBehind_73, e_Cell_isFreeBehind_74, e_Cell_isFreeBehind_75, e_Cell_isFreeBehind_76, e_Cell_isFreeBehind_79, e_Cell_isFreeBehind_82, e_Cell_isFreeBehind_83, e_Cell_isFreeBehind_86, e_Cell_isFreeBehind_89, e_Cell_isFreeBehind_90, e_Cell_isFreeBehind_93, e_Cell_isFreeBehind_94, e_Cell_isFreeBehind_97, e_Cell_isFreeBehind_97b, e_Cell_isFreeBehind_100, e_Cell_isFreeBehind_101, e_Cell_isFreeBehind_104, e_Cell_isFreeBehind_105, alk_in, ask_in, blk_in, bsk_in, qlk_in, ack_in, rcv_in, rcA_in, bk_i, bk_l, bk_v, hS_same, hS_ne, hS_hS, hS_2, am_10, am_01, am_00, if_true, if_false, gf_5_0, pf_5_0, gf_5_1, pf_5_1, gf_5_2, pf_5_2, gf_5_3, pf_5_3, gf_5_4, pf_5_4, gf_5_5, pf_5_5, gf_5_6, pf_5_6, gf_5_7, pf_5_7, gf_11_0, pf_11_0, gf_11_1, pf_11_1, gf_11_2, pf_11_2, gf_11_3, pf_11_3, gf_11_4, pf_11_4, gf_11_5, pf_11_5, gf_11_6, pf_11_6, gf_11_7, pf_11_7, gf_11_8, pf_11_8, gf_11_9, pf_11_9, gf_11_10, pf_11_10, gf_11_11, pf_11_11, O, u0, c1]
      rw [if_pos (by omega)]
    · rw [if_neg y] at c1
      have jb := jbit_s s hs k (by omega)
      have h0 : ∀ j, j < G.1 → 0 ≤ T.2.2.1 j ∧ T.2.2.1 j ≤ 4 := fun j hj => by have := hw.2.2.2.1 j hj; omega
      have step : ∀ v : Int, v = (if s.testBit k = true then 1 else T.2.2.1 m) → ∃ h2 z, ev mScene_passMonth [vR 16] (hS h (16 + 2) (cI 0 6 (fun j => if j = m then v else so1 j))) = some (some (vI z), h2) ∧ TrS h2 G T m s (k + 1) ∧ Fr 16 22 h h2 := by
        intro v hv
        have f1 : Fr 16 22 h (hS h (16 + 2) (cI 0 6 (fun j => if j = m then v else so1 j))) := Fr.st (by omega)
        have A := RepS.setSo Q1 (m := m) v u2
        have A2 := RepS.co A (ce1 := (fbt G T m s k).1) (so1 := soB T.2.2.1 m s k) (ha1 := G.2.2.2) (ye1 := (fbt G T m s k).2) (fun j hj => ⟨rfl, by
          unfold soB
          by_cases q : j = m
          · rw [if_pos q, if_pos q, hv]
          · rw [if_neg q, if_neg q]; exact Q3 j hj q, rfl, rfl⟩)
        have w2 := soB_r Q2 h0 hm s k
        obtain ⟨h2, e2, B, f2⟩ := d_passMonth A2 w2
        refine ⟨h2, _, e2, ⟨_, _, B, Wf.pass w2, fun j hj q => ?_⟩, f1.tr f2⟩
        unfold soB
        rw [if_neg q]
      by_cases q : s.testBit k = true
      · rw [if_pos q] at jb
        obtain ⟨h2, z, e2, B, f2⟩ := step 1 (by rw [if_pos q])
        obtain ⟨h3, e3, Q4, f3⟩ := ih (k + 1) h2 (vI 1) (by omega) ((f2.at (by omega)).trans O') (S.on (fun x hx => f2.at (by omega))) B
        refine ⟨h3, ?_, Q4, f2.tr f3⟩
        rw [← e3]
        simp only [show 16 + 2 = 18 from rfl] at e2
        simp (disch := omega) only [e_Cell_isFreeBehind_0, e_Cell_isFreeBehind_1, e_Cell_isFreeBehind_4, e_Cell_isFreeBehind_5, e_Cell_isFreeBehind_8, e_Cell_isFreeBehind_11, e_Cell_isFreeBehind_12, e_Cell_isFreeBehind_16, e_Cell_isFreeBehind_17, e_Cell_isFreeBehind_20, e_Cell_isFreeBehind_21, e_Cell_isFreeBehind_24, e_Cell_isFreeBehind_25, e_Cell_isFreeBehind_28, e_Cell_isFreeBehind_28b, e_Cell_isFreeBehind_31, e_Cell_isFreeBehind_32, e_Cell_isFreeBehind_34, e_Cell_isFreeBehind_35, e_Cell_isFreeBehind_36, e_Cell_isFreeBehind_37, e_Cell_isFreeBehind_38, e_Cell_isFreeBehind_41, e_Cell_isFreeBehind_42, e_Cell_isFreeBehind_45, e_Cell_isFreeBehind_46, e_Cell_isFreeBehind_48, e_Cell_isFreeBehind_49, e_Cell_isFreeBehind_52, e_Cell_isFreeBehind_55, e_Cell_isFreeBehind_56, e_Cell_isFreeBehind_58, e_Cell_isFreeBehind_58b, e_Cell_isFreeBehind_61, e_Cell_isFreeBehind_62, e_Cell_isFreeBehind_65, e_Cell_isFreeBehind_66, e_Cell_isFreeBehind_69, e_Cell_isFreeBehind_72, e_Cell_isFreeBehind_73, e_Cell_isFreeBehind_74, e_Cell_isFreeBehind_75, e_Cell_isFreeBehind_76, e_Cell_isFreeBehind_79, e_Cell_isFreeBehind_82, e_Cell_isFreeBehind_83, e_Cell_isFreeBehind_86, e_Cell_isFreeBehind_90, e_Cell_isFreeBehind_93, e_Cell_isFreeBehind_94, e_Cell_isFreeBehind_97, e_Cell_isFreeBehind_97b, e_Cell_isFreeBehind_100, e_Cell_isFreeBehind_101, e_Cell_isFreeBehind_104, e_Cell_isFreeBehind_105, alk_in, ask_in, blk_in, bsk_in, qlk_in, ack_in, rcv_in, rcA_in, bk_i, bk_l, bk_v, hS_same, hS_ne, hS_hS, hS_2, am_10, am_01, am_00, if_true, if_false, gf_5_0, pf_5_0, gf_5_1, pf_5_1, gf_5_2, pf_5_2, gf_5_3, pf_5_3, gf_5_4, pf_5_4, gf_5_5, pf_5_5, gf_5_6, pf_5_6, gf_5_7, pf_5_7, gf_11_0, pf_11_0, gf_11_1, pf_11_1, gf_11_2, pf_11_2, gf_11_3, pf_11_3, gf_11_4, pf_11_4, gf_11_5, pf_11_5, gf_11_6, pf_11_6, gf_11_7, pf_11_7, gf_11_8, pf_11_8, gf_11_9, pf_11_9, gf_11_10, pf_11_10, gf_11_11, pf_11_11, O, u0, u2, c1, jb, Int.toNat_natCast, e2]
        rw [if_pos (by omega)]; rfl
      · rw [if_neg q] at jb
        obtain ⟨h2, z, e2, B, f2⟩ := step (T.2.2.1 m) (by rw [if_neg q])
        obtain ⟨h3, e3, Q4, f3⟩ := ih (k + 1) h2 (vI 0) (by omega) ((f2.at (by omega)).trans O') (S.on (fun x hx => f2.at (by omega))) B
        refine ⟨h3, ?_, Q4, f2.tr f3⟩
        rw [← e3]
        simp only [show 16 + 2 = 18 from rfl] at e2
        simp (disch := omega) only [e_Cell_isFreeBehind_0, e_Cell_isFreeBehind_1, e_Cell_isFreeBehind_4, e_Cell_isFreeBehind_5, e_Cell_isFreeBehind_8, e_Cell_isFreeBehind_11, e_Cell_isFreeBehind_12, e_Cell_isFreeBehind_16, e_Cell_isFreeBehind_17, e_Cell_isFreeBehind_20, e_Cell_isFreeBehind_21, e_Cell_isFreeBehind_24, e_Cell_isFreeBehind_25, e_Cell_isFreeBehind_28, e_Cell_isFreeBehind_28b, e_Cell_isFreeBehind_31, e_Cell_isFreeBehind_32, e_Cell_isFreeBehind_34, e_Cell_isFreeBehind_35, e_Cell_isFreeBehind_36, e_Cell_isFreeBehind_37, e_Cell_isFreeBehind_38, e_Cell_isFreeBehind_41, e_Cell_isFreeBehind_42, e_Cell_isFreeBehind_45, e_Cell_isFreeBehind_46, e_Cell_isFreeBehind_48, e_Cell_isFreeBehind_49, e_Cell_isFreeBehind_52, e_Cell_isFreeBehind_55, e_Cell_isFreeBehind_56, e_Cell_isFreeBehind_58, e_Cell_isFreeBehind_58b, e_Cell_isFreeBehind_61, e_Cell_isFreeBehind_62, e_Cell_isFreeBehind_65, e_Cell_isFreeBehind_66, e_Cell_isFreeBehind_69, e_Cell_isFreeBehind_72, e_Cell_isFreeBehind_73, e_Cell_isFreeBehind_74, e_Cell_isFreeBehind_75, e_Cell_isFreeBehind_76, e_Cell_isFreeBehind_79, e_Cell_isFreeBehind_82, e_Cell_isFreeBehind_83, e_Cell_isFreeBehind_86, e_Cell_isFreeBehind_90, e_Cell_isFreeBehind_93, e_Cell_isFreeBehind_94, e_Cell_isFreeBehind_97, e_Cell_isFreeBehind_97b, e_Cell_isFreeBehind_100, e_Cell_isFreeBehind_101, e_Cell_isFreeBehind_104, e_Cell_isFreeBehind_105, alk_in, ask_in, blk_in, bsk_in, qlk_in, ack_in, rcv_in, rcA_in, bk_i, bk_l, bk_v, hS_same, hS_ne, hS_hS, hS_2, am_10, am_01, am_00, if_true, if_false, gf_5_0, pf_5_0, gf_5_1, pf_5_1, gf_5_2, pf_5_2, gf_5_3, pf_5_3, gf_5_4, pf_5_4, gf_5_5, pf_5_5, gf_5_6, pf_5_6, gf_5_7, pf_5_7, gf_11_0, pf_11_0, gf_11_1, pf_11_1, gf_11_2, pf_11_2, gf_11_3, pf_11_3, gf_11_4, pf_11_4, gf_11_5, pf_11_5, gf_11_6, pf_11_6, gf_11_7, pf_11_7, gf_11_8, pf_11_8, gf_11_9, pf_11_9, gf_11_10, pf_11_10, gf_11_11, pf_11_11, O, u0, u2, v0, v2, (rr m hm).2.1, c1, jb, Int.toNat_natCast, e2]
        rw [if_pos (by omega)]; rfl
theorem k_free {m s N : Nat} (O : CeO h lo pc) (S : RT h 10 G T) (hw : WT G T) (Q : ScSh h 16) (hm : m < G.1) (hN : N ≤ 6) (hs : s < 64) : ∃ h', ev mCell_isFreeBehind [vR 1, vI (m : Int), vI (s : Int), vI (N : Int)] h = some (some (vI (if (fbt G T m s N).1 m = -9 then 1 else 0)), h') ∧ ScSh h' 16 ∧ Fr 16 22 h h' := by
  obtain ⟨h1, e1, S1, f1⟩ := d_copyFrom (b := 16) (show RepS h 10 G.1 G.2.1 T.1 T.2.1 T.2.2.1 G.2.2.2 T.2.2.2 from S) hw.1 hw.2.2.1 Q (by omega)
  obtain ⟨fs, q0⟩ := Q.ob
  obtain ⟨h2, e2, Q2, f2⟩ := lk_free hw hm hN hs N 0 h1 vU (by omega) ((f1.at (by omega)).trans O) (S.on (fun x hx => f1.at (by omega))) ⟨_, _, S1, hw, fun j hj q => rfl⟩
  refine ⟨h2, ?_, Q2, f1.tr f2⟩
  unfold CeO at O
  rw [ev_Cell_isFreeBehind]
  simp (disch := omega) only [e_Cell_isFreeBehind_0, e_Cell_isFreeBehind_1, e_Cell_isFreeBehind_4, e_Cell_isFreeBehind_5, e_Cell_isFreeBehind_8, e_Cell_isFreeBehind_11, e_Cell_isFreeBehind_12, e_Cell_isFreeBehind_16, e_Cell_isFreeBehind_17, e_Cell_isFreeBehind_20, e_Cell_isFreeBehind_21, e_Cell_isFreeBehind_24, e_Cell_isFreeBehind_25, e_Cell_isFreeBehind_28, e_Cell_isFreeBehind_28b, e_Cell_isFreeBehind_31, e_Cell_isFreeBehind_32, e_Cell_isFreeBehind_34, e_Cell_isFreeBehind_35, e_Cell_isFreeBehind_36, e_Cell_isFreeBehind_37, e_Cell_isFreeBehind_38, e_Cell_isFreeBehind_41, e_Cell_isFreeBehind_42, e_Cell_isFreeBehind_45, e_Cell_isFreeBehind_46, e_Cell_isFreeBehind_48, e_Cell_isFreeBehind_49, e_Cell_isFreeBehind_52, e_Cell_isFreeBehind_55, e_Cell_isFreeBehind_56, e_Cell_isFreeBehind_58, e_Cell_isFreeBehind_58b, e_Cell_isFreeBehind_61, e_Cell_isFreeBehind_62, e_Cell_isFreeBehind_65, e_Cell_isFreeBehind_66, e_Cell_isFreeBehind_69, e_Cell_isFreeBehind_72, e_Cell_isFreeBehind_73, e_Cell_isFreeBehind_74, e_Cell_isFreeBehind_75, e_Cell_isFreeBehind_76, e_Cell_isFreeBehind_79, e_Cell_isFreeBehind_82, e_Cell_isFreeBehind_83, e_Cell_isFreeBehind_86, e_Cell_isFreeBehind_90, e_Cell_isFreeBehind_93, e_Cell_isFreeBehind_94, e_Cell_isFreeBehind_97, e_Cell_isFreeBehind_97b, e_Cell_isFreeBehind_100, e_Cell_isFreeBehind_101, e_Cell_isFreeBehind_104, e_Cell_isFreeBehind_105, alk_in, ask_in, blk_in, bsk_in, qlk_in, ack_in, rcv_in, rcA_in, bk_i, bk_l, bk_v, hS_same, hS_ne, hS_hS, hS_2, am_10, am_01, am_00, if_true, if_false, gf_5_0, pf_5_0, gf_5_1, pf_5_1, gf_5_2, pf_5_2, gf_5_3, pf_5_3, gf_5_4, pf_5_4, gf_5_5, pf_5_5, gf_5_6, pf_5_6, gf_5_7, pf_5_7, gf_11_0, pf_11_0, gf_11_1, pf_11_1, gf_11_2, pf_11_2, gf_11_3, pf_11_3, gf_11_4, pf_11_4, gf_11_5, pf_11_5, gf_11_6, pf_11_6, gf_11_7, pf_11_7, gf_11_8, pf_11_8, gf_11_9, pf_11_9, gf_11_10, pf_11_10, gf_11_11, pf_11_11, O, q0, e1]
  exact e2
theorem lk_odds {m N : Nat} {x w : Int} (hx : 0 ≤ x ∧ x ≤ 10) (hr : w = 0 ∨ w = 1) (hw : WT G T) (hm : m < G.1) (hN : N ≤ 6) {x5 x8 x9 : am_V} : ∀ (d k : Nat) (h : am_H), k + d = 2 ^ N → CeO h lo pc → RT h 10 G T → ScSh h 16 → ∃ h', gv mCell_odds 59 [vR 1, vI (m : Int), vI x, vI (N : Int), vI w, x5, vI (upS G T m x N k), vI (k : Int), x8, x9] [] h = some (some (vI ((if w = 0 then upS G T m x N (2 ^ N) else pwr 10 N) / gcF 64 (upS G T m x N (2 ^ N)) (pwr 10 N))), h') ∧ ScSh h' 16 ∧ Fr 16 22 h h' := by
  have hp : 2 ^ N ≤ 64 := Nat.pow_le_pow_right (by decide) hN
  have js := jshl_s N (by omega)
  have p10 := pwr_10 hN
  intro d
  induction d with
  | zero =>
    intro k h hk O S Q
    have : k = 2 ^ N := by omega
    subst this
    refine ⟨h, ?_, Q, Fr.rf⟩
    have ub := upS_b G T m hx hN (2 ^ N)
    have c1 := c_power (h := h) (x := 10) hN
    have c2 := c_comDiv (h := h) (a := upS G T m x N (2 ^ N)) (b := pwr 10 N) (by omega) (by omega)
    have gb := gcF_b 64 (upS G T m x N (2 ^ N)) (pwr 10 N) 2147483647 (by omega) (by omega) (by omega) (by omega) (by omega) (gz_e 32 _ _ (by omega) (by omega) (by omega))
    rw [e_Cell_odds_59]
    rcases hr with z | z <;> subst z
    · simp (disch := omega) only [e_Cell_odds_0, e_Cell_odds_1, e_Cell_odds_4, e_Cell_odds_5, e_Cell_odds_7, e_Cell_odds_10, e_Cell_odds_11, e_Cell_odds_14, e_Cell_odds_15, e_Cell_odds_17, e_Cell_odds_20, e_Cell_odds_21, e_Cell_odds_24, e_Cell_odds_25, e_Cell_odds_27, e_Cell_odds_28, e_Cell_odds_31, e_Cell_odds_32, e_Cell_odds_35, e_Cell_odds_35b, e_Cell_odds_38, e_Cell_odds_40, e_Cell_odds_40b, e_Cell_odds_43, e_Cell_odds_45, e_Cell_odds_48, e_Cell_odds_48b, e_Cell_odds_51, e_Cell_odds_52, e_Cell_odds_53, e_Cell_odds_54, e_Cell_odds_56, e_Cell_odds_57, e_Cell_odds_61, e_Cell_odds_62, e_Cell_odds_63, e_Cell_odds_64, e_Cell_odds_68, e_Cell_odds_69, e_Cell_odds_71, e_Cell_odds_72, e_Cell_odds_75, e_Cell_odds_75b, e_Cell_odds_78, e_Cell_odds_80, e_Cell_odds_81, e_Cell_odds_82, e_Cell_odds_84, e_Cell_odds_87, e_Cell_odds_90, e_Cell_odds_91, e_Cell_odds_93, e_Cell_odds_96, e_Cell_odds_99, e_Cell_odds_101, e_Cell_odds_102, e_Cell_odds_105, e_Cell_odds_107, e_Cell_odds_109, e_Cell_odds_111, e_Cell_odds_114, e_Cell_odds_116, e_Cell_odds_118, e_Cell_odds_118b, e_Cell_odds_121, e_Cell_odds_123, e_Cell_odds_126, e_Cell_odds_128, e_Cell_odds_130, e_Cell_odds_132, e_Cell_odds_135, e_Cell_odds_137, e_Cell_odds_139, e_Cell_odds_140, e_Cell_odds_143, e_Cell_odds_145, alk_in, ask_in, blk_in, bsk_in, qlk_in, ack_in, rcv_in, rcA_in, bk_i, bk_l, bk_v, hS_same, hS_ne, hS_hS, hS_2, am_10, am_01, am_00, if_true, if_false, js, c1, c2]
      rw [if_neg (by omega), if_pos (by omega)]
    · simp (disch := omega) only [e_Cell_odds_0, e_Cell_odds_1, e_Cell_odds_4, e_Cell_odds_5, e_Cell_odds_7, e_Cell_odds_10, e_Cell_odds_11, e_Cell_odds_14, e_Cell_odds_15, e_Cell_odds_17, e_Cell_odds_20, e_Cell_odds_21, e_Cell_odds_24, e_Cell_odds_25, e_Cell_odds_27, e_Cell_odds_28, e_Cell_odds_31, e_Cell_odds_32, e_Cell_odds_35, e_Cell_odds_35b, e_Cell_odds_38, e_Cell_odds_40, e_Cell_odds_40b, e_Cell_odds_43, e_Cell_odds_45, e_Cell_odds_48, e_Cell_odds_48b, e_Cell_odds_51, e_Cell_odds_52, e_Cell_odds_53, e_Cell_odds_54, e_Cell_odds_56, e_Cell_odds_57, e_Cell_odds_61, e_Cell_odds_62, e_Cell_odds_63, e_Cell_odds_64, e_Cell_odds_68, e_Cell_odds_69, e_Cell_odds_71, e_Cell_odds_72, e_Cell_odds_75, e_Cell_odds_75b, e_Cell_odds_78, e_Cell_odds_80, e_Cell_odds_81, e_Cell_odds_82, e_Cell_odds_84, e_Cell_odds_87, e_Cell_odds_90, e_Cell_odds_91, e_Cell_odds_93, e_Cell_odds_96, e_Cell_odds_99, e_Cell_odds_101, e_Cell_odds_102, e_Cell_odds_105, e_Cell_odds_107, e_Cell_odds_109, e_Cell_odds_111, e_Cell_odds_114, e_Cell_odds_116, e_Cell_odds_118, e_Cell_odds_118b, e_Cell_odds_121, e_Cell_odds_123, e_Cell_odds_126, e_Cell_odds_128, e_Cell_odds_130, e_Cell_odds_132, e_Cell_odds_135, e_Cell_odds_137, e_Cell_odds_139, e_Cell_odds_140, e_Cell_odds_143, e_Cell_odds_145, alk_in, ask_in, blk_in, bsk_in, qlk_in, ack_in, rcv_in, rcA_in, bk_i, bk_l, bk_v, hS_same, hS_ne, hS_hS, hS_2, am_10, am_01, am_00, if_true, if_false, js, c1, c2]
      rw [if_neg (by omega), if_pos (by omega)]
  | succ d ih =>
    intro k h hk O S Q
    obtain ⟨h1, e1, Q1, f1⟩ := k_free O S hw Q hm hN (s := k) (by omega)
    obtain ⟨h2, e2, Q2, f2⟩ := ih (k + 1) h1 (by omega) ((f1.at (by omega)).trans O) (S.on (fun x hx => f1.at (by omega))) Q1
    refine ⟨h2, ?_, Q2, f1.tr f2⟩
    have c1 := c_bitCount (h := h1) (x := k) (by omega)
    have c2 := c_weight (h := h1) (x := x) (n := N) (s := k) hN (by omega) (by omega)
    have eu : upS G T m x N (k + 1) = upS G T m x N k + (if (fbt G T m k N).1 m = -9 then wtM x k N else 0) := rfl
    unfold CeO at O
    rw [e_Cell_odds_59, ← e2, eu]
    by_cases y : (fbt G T m k N).1 m = -9
    · rw [if_pos y] at e1 ⊢
      simp (disch := omega) only [e_Cell_odds_0, e_Cell_odds_1, e_Cell_odds_4, e_Cell_odds_5, e_Cell_odds_7, e_Cell_odds_10, e_Cell_odds_11, e_Cell_odds_14, e_Cell_odds_15, e_Cell_odds_17, e_Cell_odds_20, e_Cell_odds_21, e_Cell_odds_24, e_Cell_odds_25, e_Cell_odds_27, e_Cell_odds_28, e_Cell_odds_31, e_Cell_odds_32, e_Cell_odds_35, e_Cell_odds_35b, e_Cell_odds_38, e_Cell_odds_40, e_Cell_odds_40b, e_Cell_odds_43, e_Cell_odds_45, e_Cell_odds_48, e_Cell_odds_48b, e_Cell_odds_51, e_Cell_odds_52, e_Cell_odds_53, e_Cell_odds_54, e_Cell_odds_56, e_Cell_odds_57, e_Cell_odds_61, e_Cell_odds_62, e_Cell_odds_63, e_Cell_odds_64, e_Cell_odds_67, e_Cell_odds_68, e_Cell_odds_69, e_Cell_odds_71, e_Cell_odds_72, e_Cell_odds_75, e_Cell_odds_75b, e_Cell_odds_78, e_Cell_odds_80, e_Cell_odds_81, e_Cell_odds_82, e_Cell_odds_84, e_Cell_odds_87, e_Cell_odds_90, e_Cell_odds_91, e_Cell_odds_93, e_Cell_odds_96, e_Cell_odds_101, e_Cell_odds_102, e_Cell_odds_105, e_Cell_odds_107, e_Cell_odds_109, e_Cell_odds_111, e_Cell_odds_114, e_Cell_odds_116, e_Cell_odds_118, e_Cell_odds_118b, e_Cell_odds_121, e_Cell_odds_123, e_Cell_odds_126, e_Cell_odds_128, e_Cell_odds_130, e_Cell_odds_132, e_Cell_odds_135, e_Cell_odds_137, e_Cell_odds_139, e_Cell_odds_140, e_Cell_odds_143, e_Cell_odds_145, alk_in, ask_in, blk_in, bsk_in, qlk_in, ack_in, rcv_in, rcA_in, bk_i, bk_l, bk_v, hS_same, hS_ne, hS_hS, hS_2, am_10, am_01, am_00, if_true, if_false, gf_11_0, pf_11_0, gf_11_1, pf_11_1, gf_11_2, pf_11_2, gf_11_3, pf_11_3, gf_11_4, pf_11_4, gf_11_5, pf_11_5, gf_11_6, pf_11_6, gf_11_7, pf_11_7, gf_11_8, pf_11_8, gf_11_9, pf_11_9, gf_11_10, pf_11_10, gf_11_11, pf_11_11, O, js, e1, c1, c2]
      rw [if_pos (by omega)]; rfl
    · rw [if_neg y] at e1 ⊢
      rw [Int.add_zero]
      simp (disch := omega) only [e_Cell_odds_0, e_Cell_odds_1, e_Cell_odds_4, e_Cell_odds_5, e_Cell_odds_7, e_Cell_odds_10, e_Cell_odds_11, e_Cell_odds_14, e_Cell_odds_15, e_Cell_odds_17, e_Cell_odds_20, e_Cell_odds_21, e_Cell_odds_24, e_Cell_odds_25, e_Cell_odds_27, e_Cell_odds_28, e_Cell_odds_31, e_Cell_odds_32, e_Cell_odds_35, e_Cell_odds_35b, e_Cell_odds_38, e_Cell_odds_40, e_Cell_odds_40b, e_Cell_odds_43, e_Cell_odds_45, e_Cell_odds_48, e_Cell_odds_48b, e_Cell_odds_51, e_Cell_odds_52, e_Cell_odds_53, e_Cell_odds_54, e_Cell_odds_56, e_Cell_odds_57, e_Cell_odds_61, e_Cell_odds_62, e_Cell_odds_63, e_Cell_odds_64, e_Cell_odds_67, e_Cell_odds_68, e_Cell_odds_69, e_Cell_odds_71, e_Cell_odds_72, e_Cell_odds_75, e_Cell_odds_75b, e_Cell_odds_78, e_Cell_odds_80, e_Cell_odds_81, e_Cell_odds_82, e_Cell_odds_84, e_Cell_odds_87, e_Cell_odds_90, e_Cell_odds_91, e_Cell_odds_93, e_Cell_odds_96, e_Cell_odds_101, e_Cell_odds_102, e_Cell_odds_105, e_Cell_odds_107, e_Cell_odds_109, e_Cell_odds_111, e_Cell_odds_114, e_Cell_odds_116, e_Cell_odds_118, e_Cell_odds_118b, e_Cell_odds_121, e_Cell_odds_123, e_Cell_odds_126, e_Cell_odds_128, e_Cell_odds_130, e_Cell_odds_132, e_Cell_odds_135, e_Cell_odds_137, e_Cell_odds_139, e_Cell_odds_140, e_Cell_odds_143, e_Cell_odds_145, alk_in, ask_in, blk_in, bsk_in, qlk_in, ack_in, rcv_in, rcA_in, bk_i, bk_l, bk_v, hS_same, hS_ne, hS_hS, hS_2, am_10, am_01, am_00, if_true, if_false, gf_11_0, pf_11_0, gf_11_1, pf_11_1, gf_11_2, pf_11_2, gf_11_3, pf_11_3, gf_11_4, pf_11_4, gf_11_5, pf_11_5, gf_11_6, pf_11_6, gf_11_7, pf_11_7, gf_11_8, pf_11_8, gf_11_9, pf_11_9, gf_11_10, pf_11_10, gf_11_11, pf_11_11, O, js, e1, c1, c2]
      rw [if_pos (by omega)]; rfl
theorem k_odds (O : CeO h lo pc) (S : RT h 10 G T) (hw : WT G T) (Q : ScSh h 16) {m x n w : Int} (hm : rg32 m) (hx : rg32 x) (hn : rg32 n) (hr : rg32 w) : ∃ h', ev mCell_odds [vR 1, vI m, vI x, vI n, vI w] h = some (some (vI (aOdds G T m x n w)), h') ∧ ScSh h' 16 ∧ Fr 16 22 h h' := by
  have c2 := c_isWhich (h := h) hr
  unfold rg32 at hm hx hn hr
  have S' : RepS h 10 G.1 G.2.1 T.1 T.2.1 T.2.2.1 G.2.2.2 T.2.2.2 := S
  have c1 := d_hasMan S' hm hw.1
  have ob := S.ob
  have O' := O
  unfold CeO at O
  unfold aOdds
  have fit : ∀ l5 l6 l7 l8 l9 : am_V, gv mCell_odds 0 [vR 1, vI m, vI x, vI n, vI w, l5, l6, l7, l8, l9] [] h = gv mCell_odds 27 [vR 1, vI m, vI x, vI n, vI w, vI (if (0 ≤ x ∧ x ≤ 10) ∧ (0 ≤ n ∧ n ≤ 6) then 1 else 0), l6, l7, l8, l9] [] h := by
    intro l5 l6 l7 l8 l9
    simp (disch := omega) only [e_Cell_odds_0, e_Cell_odds_1, e_Cell_odds_4, e_Cell_odds_5, e_Cell_odds_7, e_Cell_odds_10, e_Cell_odds_11, e_Cell_odds_14, e_Cell_odds_15, e_Cell_odds_17, e_Cell_odds_20, e_Cell_odds_21, e_Cell_odds_24, e_Cell_odds_25, alk_in, ask_in, blk_in, bsk_in, qlk_in, ack_in, rcv_in, rcA_in, bk_i, bk_l, bk_v, hS_same, hS_ne, hS_hS, hS_2, am_10, am_01, am_00, if_true, if_false]
    by_cases a1 : x < 0
    · rw [if_pos a1, if_neg (by omega)]
    · rw [if_neg a1]
      by_cases a2 : 10 < x
      · rw [if_pos a2, if_neg (by omega)]
      · rw [if_neg a2]
        by_cases a3 : n < 0
        · rw [if_pos a3, if_neg (by omega)]
        · rw [if_neg a3]
          by_cases a4 : 6 < n
          · rw [if_pos a4, if_neg (by omega)]
          · rw [if_neg a4, if_pos (by omega)]
  rw [ev_Cell_odds, fit]
  by_cases q1 : 0 ≤ m ∧ m < G.1
  · rw [if_pos q1] at c1
    by_cases q2 : (0 ≤ x ∧ x ≤ 10) ∧ (0 ≤ n ∧ n ≤ 6)
    · rw [if_pos q2]
      by_cases q3 : w = 0 ∨ w = 1
      · rw [if_pos q3] at c2
        rw [if_pos ⟨q1, q2.1, q2.2, q3⟩]
        obtain ⟨m, rfl⟩ : ∃ k : Nat, m = (k : Int) := ⟨m.toNat, by omega⟩
        obtain ⟨n, rfl⟩ : ∃ k : Nat, n = (k : Int) := ⟨n.toNat, by omega⟩
        rw [Int.toNat_natCast, Int.toNat_natCast]
        obtain ⟨h1, e1, Q1, f1⟩ := lk_odds (x5 := vI 1) (x8 := vU) (x9 := vU) q2.1 q3 hw (show m < G.1 by omega) (show n ≤ 6 by omega) (2 ^ n) 0 h (by omega) O' S Q
        refine ⟨h1, ?_, Q1, f1⟩
        simp (disch := omega) only [e_Cell_odds_27, e_Cell_odds_28, e_Cell_odds_31, e_Cell_odds_32, e_Cell_odds_35, e_Cell_odds_35b, e_Cell_odds_38, e_Cell_odds_40, e_Cell_odds_40b, e_Cell_odds_43, e_Cell_odds_45, e_Cell_odds_48, e_Cell_odds_48b, e_Cell_odds_51, e_Cell_odds_52, e_Cell_odds_53, e_Cell_odds_54, e_Cell_odds_56, e_Cell_odds_57, alk_in, ask_in, blk_in, bsk_in, qlk_in, ack_in, rcv_in, rcA_in, bk_i, bk_l, bk_v, hS_same, hS_ne, hS_hS, hS_2, am_10, am_01, am_00, if_true, if_false, gf_5_0, pf_5_0, gf_5_1, pf_5_1, gf_5_2, pf_5_2, gf_5_3, pf_5_3, gf_5_4, pf_5_4, gf_5_5, pf_5_5, gf_5_6, pf_5_6, gf_5_7, pf_5_7, gf_11_0, pf_11_0, gf_11_1, pf_11_1, gf_11_2, pf_11_2, gf_11_3, pf_11_3, gf_11_4, pf_11_4, gf_11_5, pf_11_5, gf_11_6, pf_11_6, gf_11_7, pf_11_7, gf_11_8, pf_11_8, gf_11_9, pf_11_9, gf_11_10, pf_11_10, gf_11_11, pf_11_11, O, ob, c1, c2]
        exact e1
      · rw [if_neg q3] at c2
        rw [if_neg (fun z => q3 z.2.2.2)]
        refine ⟨h, ?_, Q, Fr.rf⟩
        simp (disch := omega) only [e_Cell_odds_27, e_Cell_odds_28, e_Cell_odds_31, e_Cell_odds_32, e_Cell_odds_35, e_Cell_odds_35b, e_Cell_odds_38, e_Cell_odds_40, e_Cell_odds_40b, e_Cell_odds_43, e_Cell_odds_45, e_Cell_odds_48, e_Cell_odds_48b, e_Cell_odds_51, e_Cell_odds_52, alk_in, ask_in, blk_in, bsk_in, qlk_in, ack_in, rcv_in, rcA_in, bk_i, bk_l, bk_v, hS_same, hS_ne, hS_hS, hS_2, am_10, am_01, am_00, if_true, if_false, gf_5_0, pf_5_0, gf_5_1, pf_5_1, gf_5_2, pf_5_2, gf_5_3, pf_5_3, gf_5_4, pf_5_4, gf_5_5, pf_5_5, gf_5_6, pf_5_6, gf_5_7, pf_5_7, gf_11_0, pf_11_0, gf_11_1, pf_11_1, gf_11_2, pf_11_2, gf_11_3, pf_11_3, gf_11_4, pf_11_4, gf_11_5, pf_11_5, gf_11_6, pf_11_6, gf_11_7, pf_11_7, gf_11_8, pf_11_8, gf_11_9, pf_11_9, gf_11_10, pf_11_10, gf_11_11, pf_11_11, O, ob, c1, c2]
    · rw [if_neg q2, if_neg (fun z => q2 ⟨z.2.1, z.2.2.1⟩)]
      refine ⟨h, ?_, Q, Fr.rf⟩
      simp (disch := omega) only [e_Cell_odds_27, e_Cell_odds_28, e_Cell_odds_31, e_Cell_odds_32, e_Cell_odds_35, e_Cell_odds_35b, e_Cell_odds_38, e_Cell_odds_40, e_Cell_odds_40b, e_Cell_odds_43, e_Cell_odds_45, e_Cell_odds_48, e_Cell_odds_48b, e_Cell_odds_51, e_Cell_odds_52, alk_in, ask_in, blk_in, bsk_in, qlk_in, ack_in, rcv_in, rcA_in, bk_i, bk_l, bk_v, hS_same, hS_ne, hS_hS, hS_2, am_10, am_01, am_00, if_true, if_false, gf_5_0, pf_5_0, gf_5_1, pf_5_1, gf_5_2, pf_5_2, gf_5_3, pf_5_3, gf_5_4, pf_5_4, gf_5_5, pf_5_5, gf_5_6, pf_5_6, gf_5_7, pf_5_7, gf_11_0, pf_11_0, gf_11_1, pf_11_1, gf_11_2, pf_11_2, gf_11_3, pf_11_3, gf_11_4, pf_11_4, gf_11_5, pf_11_5, gf_11_6, pf_11_6, gf_11_7, pf_11_7, gf_11_8, pf_11_8, gf_11_9, pf_11_9, gf_11_10, pf_11_10, gf_11_11, pf_11_11, O, ob, c1]
  · rw [if_neg q1] at c1
    have nq : ¬ ((0 ≤ m ∧ m < G.1) ∧ (0 ≤ x ∧ x ≤ 10) ∧ (0 ≤ n ∧ n ≤ 6) ∧ (w = 0 ∨ w = 1)) := fun z => q1 z.1
    simp only [nq, if_false]
    refine ⟨h, ?_, Q, Fr.rf⟩
    simp (disch := omega) only [e_Cell_odds_27, e_Cell_odds_28, e_Cell_odds_31, e_Cell_odds_32, e_Cell_odds_35, e_Cell_odds_35b, e_Cell_odds_38, e_Cell_odds_40, e_Cell_odds_40b, e_Cell_odds_43, e_Cell_odds_45, e_Cell_odds_48, e_Cell_odds_48b, e_Cell_odds_51, e_Cell_odds_52, alk_in, ask_in, blk_in, bsk_in, qlk_in, ack_in, rcv_in, rcA_in, bk_i, bk_l, bk_v, hS_same, hS_ne, hS_hS, hS_2, am_10, am_01, am_00, if_true, if_false, gf_5_0, pf_5_0, gf_5_1, pf_5_1, gf_5_2, pf_5_2, gf_5_3, pf_5_3, gf_5_4, pf_5_4, gf_5_5, pf_5_5, gf_5_6, pf_5_6, gf_5_7, pf_5_7, gf_11_0, pf_11_0, gf_11_1, pf_11_1, gf_11_2, pf_11_2, gf_11_3, pf_11_3, gf_11_4, pf_11_4, gf_11_5, pf_11_5, gf_11_6, pf_11_6, gf_11_7, pf_11_7, gf_11_8, pf_11_8, gf_11_9, pf_11_9, gf_11_10, pf_11_10, gf_11_11, pf_11_11, O, ob, c1]
end OddsC
