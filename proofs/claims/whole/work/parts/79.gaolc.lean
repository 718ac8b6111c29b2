/-! the class: gaol -/
section GaolC
variable {L : Nat} {g : Nat → Int} {tE tS : Nat → Nat} {tC tN : Nat → Int}
theorem lk_read (X : TxG L g tE tS tC tN) : ∀ (d i p : Nat) (h : am_H) (D : Dr), L + 1 ≤ d + p → p ≤ L → i ≤ p → D.2.2.2 ≤ p → DrO D → TxD h L tE tS tC tN D p → h.1 3 = cI 0 120 g → DrS h D → ∃ h', h'.1 3 = cI 0 120 g ∧ Fr 2 10 h h' ∧ match rdA tE tS tC tN d D p with
    | .inl q => gv mText_isRead 38 [vR 2, vI (i : Int)] [] h = some (some (vI 0), h') ∧ q ≤ L ∧ (∃ p' x3 x4 x7, p' ≤ L ∧ TxO h' L tE tS tC tN p' x3 x4 (vI (q : Int)) x7) ∧ ScSh h' 4
    | .inr D' => gv mText_isRead 38 [vR 2, vI (i : Int)] [] h = some (some (vI 1), h') ∧ DrO D' ∧ (∃ p', TxD h' L tE tS tC tN D' p') ∧ RT h' 4 D'.1 D'.2.1 := by
  have hL := X.1
  intro d
  induction d with
  | zero => intro i p h D hd hp; omega
  | succ d ih =>
    intro i p h D hd hp hi hI hD O Gg S
    have cr := (X.2.1 p hp).2.2.2.1
    unfold rdA
    by_cases c0 : tC p = 0
    · rw [if_pos c0]
      refine ⟨h, Gg, Fr.rf, ?_, hD, ⟨p, O⟩, S.1⟩
      unfold TxD TxO at O
      rw [c0] at O
      rw [e_Text_isRead_38]
      simp (disch := omega) only [e_Text_isRead_0, e_Text_isRead_1, e_Text_isRead_2, e_Text_isRead_5, e_Text_isRead_6, e_Text_isRead_9, e_Text_isRead_12, e_Text_isRead_13, e_Text_isRead_14, e_Text_isRead_17, e_Text_isRead_18, e_Text_isRead_19, e_Text_isRead_22, e_Text_isRead_23, e_Text_isRead_24, e_Text_isRead_27, e_Text_isRead_28, e_Text_isRead_29, e_Text_isRead_32, e_Text_isRead_33, e_Text_isRead_36, e_Text_isRead_37, e_Text_isRead_39, e_Text_isRead_41, e_Text_isRead_44, e_Text_isRead_45, e_Text_isRead_48, e_Text_isRead_49, e_Text_isRead_52, e_Text_isRead_53, e_Text_isRead_56, e_Text_isRead_56b, e_Text_isRead_59, e_Text_isRead_60, e_Text_isRead_63, e_Text_isRead_66, e_Text_isRead_69, e_Text_isRead_70, e_Text_isRead_73, e_Text_isRead_74, e_Text_isRead_77, e_Text_isRead_78, e_Text_isRead_81, e_Text_isRead_82, alk_in, ask_in, blk_in, bsk_in, qlk_in, ack_in, rcv_in, rcA_in, bk_i, bk_l, bk_v, hS_same, hS_ne, hS_hS, hS_2, am_10, am_01, am_00, if_true, if_false, gf_8_0, pf_8_0, gf_8_1, pf_8_1, gf_8_2, pf_8_2, gf_8_3, pf_8_3, gf_8_4, pf_8_4, gf_8_5, pf_8_5, gf_8_6, pf_8_6, gf_8_7, pf_8_7, gf_8_8, pf_8_8, gf_8_9, pf_8_9, gf_8_10, pf_8_10, O]
      rw [if_neg (by omega)]
    · rw [if_neg c0]
      obtain ⟨h1, e1, g1, f1, B⟩ := k_item X hp hD O Gg S c0 (by omega)
      have ok := rdI_ok X.2.1 hp hD c0
      have up := (X.2.1 p hp).2.2.1 c0
      have ub := (X.2.1 p hp).2.1
      have O0 := O
      unfold TxD TxO at O0
      cases e : rdI tE tS tC tN D p with
      | inl q =>
        rw [e] at B ok
        simp only at B ok ⊢
        obtain ⟨⟨p', x3, x4, x7, hp', O1⟩, B2⟩ := B
        refine ⟨h1, g1.trans Gg, f1, ?_, ok, ⟨p', x3, x4, x7, hp', O1⟩, B2⟩
        unfold TxO at O1
        rw [e_Text_isRead_38]
        simp (disch := omega) only [e_Text_isRead_0, e_Text_isRead_1, e_Text_isRead_2, e_Text_isRead_5, e_Text_isRead_6, e_Text_isRead_9, e_Text_isRead_12, e_Text_isRead_13, e_Text_isRead_14, e_Text_isRead_17, e_Text_isRead_18, e_Text_isRead_19, e_Text_isRead_22, e_Text_isRead_23, e_Text_isRead_24, e_Text_isRead_27, e_Text_isRead_28, e_Text_isRead_29, e_Text_isRead_32, e_Text_isRead_33, e_Text_isRead_36, e_Text_isRead_37, e_Text_isRead_39, e_Text_isRead_41, e_Text_isRead_44, e_Text_isRead_45, e_Text_isRead_48, e_Text_isRead_49, e_Text_isRead_52, e_Text_isRead_53, e_Text_isRead_56, e_Text_isRead_56b, e_Text_isRead_59, e_Text_isRead_60, e_Text_isRead_66, e_Text_isRead_69, e_Text_isRead_70, e_Text_isRead_73, e_Text_isRead_74, e_Text_isRead_77, e_Text_isRead_78, e_Text_isRead_81, e_Text_isRead_82, alk_in, ask_in, blk_in, bsk_in, qlk_in, ack_in, rcv_in, rcA_in, bk_i, bk_l, bk_v, hS_same, hS_ne, hS_hS, hS_2, am_10, am_01, am_00, if_true, if_false, gf_8_0, pf_8_0, gf_8_1, pf_8_1, gf_8_2, pf_8_2, gf_8_3, pf_8_3, gf_8_4, pf_8_4, gf_8_5, pf_8_5, gf_8_6, pf_8_6, gf_8_7, pf_8_7, gf_8_8, pf_8_8, gf_8_9, pf_8_9, gf_8_10, pf_8_10, O0, e1]
        rw [if_neg (by omega), if_neg c0]
        simp (disch := omega) only [e_Text_isRead_63, e_Text_isRead_66]
        rw [e_Text_isRead_38]
        simp (disch := omega) only [e_Text_isRead_0, e_Text_isRead_1, e_Text_isRead_2, e_Text_isRead_5, e_Text_isRead_6, e_Text_isRead_9, e_Text_isRead_12, e_Text_isRead_13, e_Text_isRead_14, e_Text_isRead_17, e_Text_isRead_18, e_Text_isRead_19, e_Text_isRead_22, e_Text_isRead_23, e_Text_isRead_24, e_Text_isRead_27, e_Text_isRead_28, e_Text_isRead_29, e_Text_isRead_32, e_Text_isRead_33, e_Text_isRead_36, e_Text_isRead_37, e_Text_isRead_39, e_Text_isRead_41, e_Text_isRead_44, e_Text_isRead_45, e_Text_isRead_48, e_Text_isRead_49, e_Text_isRead_52, e_Text_isRead_53, e_Text_isRead_56, e_Text_isRead_56b, e_Text_isRead_59, e_Text_isRead_60, e_Text_isRead_63, e_Text_isRead_66, e_Text_isRead_69, e_Text_isRead_70, e_Text_isRead_73, e_Text_isRead_74, e_Text_isRead_77, e_Text_isRead_78, e_Text_isRead_81, e_Text_isRead_82, alk_in, ask_in, blk_in, bsk_in, qlk_in, ack_in, rcv_in, rcA_in, bk_i, bk_l, bk_v, hS_same, hS_ne, hS_hS, hS_2, am_10, am_01, am_00, if_true, if_false, gf_8_0, pf_8_0, gf_8_1, pf_8_1, gf_8_2, pf_8_2, gf_8_3, pf_8_3, gf_8_4, pf_8_4, gf_8_5, pf_8_5, gf_8_6, pf_8_6, gf_8_7, pf_8_7, gf_8_8, pf_8_8, gf_8_9, pf_8_9, gf_8_10, pf_8_10, O1]
        rw [if_neg (by omega), if_neg (by omega), if_neg (by omega)]
      | inr r =>
        rw [e] at B ok
        simp only at B ok ⊢
        obtain ⟨O1, S1⟩ := B
        obtain ⟨D', p'⟩ := r
        simp only at ok O1 S1 ⊢
        obtain ⟨h2, g2, f2, Q⟩ := ih (i + 1) p' h1 D' (by omega) ok.2.1 (by omega) (by have := rdI_it e; omega) ok.2.2.1 O1 (g1.trans Gg) S1
        have st : gv mText_isRead 38 [vR 2, vI (i : Int)] [] h = gv mText_isRead 38 [vR 2, vI ((i + 1 : Nat) : Int)] [] h1 := by
          rw [e_Text_isRead_38]
          simp (disch := omega) only [e_Text_isRead_0, e_Text_isRead_1, e_Text_isRead_2, e_Text_isRead_5, e_Text_isRead_6, e_Text_isRead_9, e_Text_isRead_12, e_Text_isRead_13, e_Text_isRead_14, e_Text_isRead_17, e_Text_isRead_18, e_Text_isRead_19, e_Text_isRead_22, e_Text_isRead_23, e_Text_isRead_24, e_Text_isRead_27, e_Text_isRead_28, e_Text_isRead_29, e_Text_isRead_32, e_Text_isRead_33, e_Text_isRead_36, e_Text_isRead_37, e_Text_isRead_39, e_Text_isRead_41, e_Text_isRead_44, e_Text_isRead_45, e_Text_isRead_48, e_Text_isRead_49, e_Text_isRead_52, e_Text_isRead_53, e_Text_isRead_56, e_Text_isRead_56b, e_Text_isRead_59, e_Text_isRead_60, e_Text_isRead_63, e_Text_isRead_66, e_Text_isRead_69, e_Text_isRead_70, e_Text_isRead_73, e_Text_isRead_74, e_Text_isRead_77, e_Text_isRead_78, e_Text_isRead_81, e_Text_isRead_82, alk_in, ask_in, blk_in, bsk_in, qlk_in, ack_in, rcv_in, rcA_in, bk_i, bk_l, bk_v, hS_same, hS_ne, hS_hS, hS_2, am_10, am_01, am_00, if_true, if_false, gf_8_0, pf_8_0, gf_8_1, pf_8_1, gf_8_2, pf_8_2, gf_8_3, pf_8_3, gf_8_4, pf_8_4, gf_8_5, pf_8_5, gf_8_6, pf_8_6, gf_8_7, pf_8_7, gf_8_8, pf_8_8, gf_8_9, pf_8_9, gf_8_10, pf_8_10, O0, e1]
          rw [if_neg (by omega), if_neg c0]; rfl
        refine ⟨h2, g2, f1.tr f2, ?_⟩
        rw [st]
        exact Q
end GaolC
