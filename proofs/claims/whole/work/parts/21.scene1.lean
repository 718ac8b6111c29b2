/-! The scene's methods that change nothing -/
theorem c_figure {h : am_H} {a s : Int} (hs : -2147483648 ≤ s ∧ s < 2147483648) : ev mCell_figure [vI a, vI s] h = some (some (vI (fig a s)), h) := by
  rw [ev_Cell_figure]
  unfold fig
  by_cases h0 : s = 0
  · subst h0; simp (disch := omega) only [e_Cell_figure_0, e_Cell_figure_1c0, e_Cell_figure_1c1, e_Cell_figure_1c2, e_Cell_figure_1c3, e_Cell_figure_1d, e_Cell_figure_32, e_Cell_figure_33, e_Cell_figure_34, e_Cell_figure_35, e_Cell_figure_36, e_Cell_figure_37, e_Cell_figure_38, e_Cell_figure_39, e_Cell_figure_40, e_Cell_figure_41, e_Cell_figure_42, e_Cell_figure_43, e_Cell_figure_44, e_Cell_figure_45, e_Cell_figure_46, e_Cell_figure_47, if_true]
  by_cases h1 : s = 1
  · subst h1; simp (disch := omega) only [e_Cell_figure_0, e_Cell_figure_1c0, e_Cell_figure_1c1, e_Cell_figure_1c2, e_Cell_figure_1c3, e_Cell_figure_1d, e_Cell_figure_32, e_Cell_figure_33, e_Cell_figure_34, e_Cell_figure_35, e_Cell_figure_36, e_Cell_figure_37, e_Cell_figure_38, e_Cell_figure_39, e_Cell_figure_40, e_Cell_figure_41, e_Cell_figure_42, e_Cell_figure_43, e_Cell_figure_44, e_Cell_figure_45, e_Cell_figure_46, e_Cell_figure_47, if_true, h0, if_false]
  by_cases h2 : s = 2
  · subst h2; simp (disch := omega) only [e_Cell_figure_0, e_Cell_figure_1c0, e_Cell_figure_1c1, e_Cell_figure_1c2, e_Cell_figure_1c3, e_Cell_figure_1d, e_Cell_figure_32, e_Cell_figure_33, e_Cell_figure_34, e_Cell_figure_35, e_Cell_figure_36, e_Cell_figure_37, e_Cell_figure_38, e_Cell_figure_39, e_Cell_figure_40, e_Cell_figure_41, e_Cell_figure_42, e_Cell_figure_43, e_Cell_figure_44, e_Cell_figure_45, e_Cell_figure_46, e_Cell_figure_47, if_true, h0, h1, if_false]
  by_cases h3 : s = 3
  · subst h3; simp (disch := omega) only [e_Cell_figure_0, e_Cell_figure_1c0, e_Cell_figure_1c1, e_Cell_figure_1c2, e_Cell_figure_1c3, e_Cell_figure_1d, e_Cell_figure_32, e_Cell_figure_33, e_Cell_figure_34, e_Cell_figure_35, e_Cell_figure_36, e_Cell_figure_37, e_Cell_figure_38, e_Cell_figure_39, e_Cell_figure_40, e_Cell_figure_41, e_Cell_figure_42, e_Cell_figure_43, e_Cell_figure_44, e_Cell_figure_45, e_Cell_figure_46, e_Cell_figure_47, if_true, h0, h1, h2, if_false]
  · simp (disch := omega) only [e_Cell_figure_0, e_Cell_figure_1c0, e_Cell_figure_1c1, e_Cell_figure_1c2, e_Cell_figure_1c3, e_Cell_figure_1d, e_Cell_figure_32, e_Cell_figure_33, e_Cell_figure_34, e_Cell_figure_35, e_Cell_figure_36, e_Cell_figure_37, e_Cell_figure_38, e_Cell_figure_39, e_Cell_figure_40, e_Cell_figure_41, e_Cell_figure_42, e_Cell_figure_43, e_Cell_figure_44, e_Cell_figure_45, e_Cell_figure_46, e_Cell_figure_47, h0, h1, h2, h3, if_false]
theorem c_within {h : am_H} {y : Int} (hy : -2147483648 ≤ y ∧ y < 2147483648) : ev mCell_withinYears [vI y] h = some (some (vI (cl y)), h) := by
  rw [ev_Cell_withinYears]
  simp (disch := omega) only [e_Cell_withinYears_0, e_Cell_withinYears_1, e_Cell_withinYears_3, e_Cell_withinYears_4, e_Cell_withinYears_7, e_Cell_withinYears_10]
  unfold cl
  refine am_ans ?_
  repeat' split
  all_goals omega
section Scene1
variable {h : am_H} {b n c : Nat} {t : Int} {ce so ha ye ic : Nat → Int}
theorem c_hasMan (S : ScAt h b n c t ce so ha ye ic) {x : Int} (hx : -2147483648 ≤ x ∧ x < 2147483648) (hm : n ≤ 6) : ev mScene_hasMan [vR b, vI x] h = some (some (vI (if 0 ≤ x ∧ x < n then 1 else 0)), h) := by
  obtain ⟨s0, -⟩ := S
  rw [ev_Scene_hasMan]
  simp (disch := omega) only [e_Scene_hasMan_0, e_Scene_hasMan_1, e_Scene_hasMan_4, e_Scene_hasMan_5, e_Scene_hasMan_6, e_Scene_hasMan_9, e_Scene_hasMan_12, e_Scene_hasMan_13, e_Scene_hasMan_16, e_Scene_hasMan_17, alk_in, ask_in, blk_in, bsk_in, qlk_in, ack_in, rcv_in, rcA_in, bk_i, bk_l, bk_v, hS_same, hS_ne, hS_hS, hS_2, am_10, am_01, am_00, if_true, if_false, gf_5_0, pf_5_0, gf_5_1, pf_5_1, gf_5_2, pf_5_2, gf_5_3, pf_5_3, gf_5_4, pf_5_4, gf_5_5, pf_5_5, gf_5_6, pf_5_6, gf_5_7, pf_5_7, s0]
  by_cases h1 : x < 0 <;> by_cases h2 : x < n <;> simp [h1, h2] <;> omega
theorem c_hasCell (S : ScAt h b n c t ce so ha ye ic) {x : Int} (hx : -2147483648 ≤ x ∧ x < 2147483648) (hc : c ≤ 9) : ev mScene_hasCell [vR b, vI x] h = some (some (vI (if 0 ≤ x ∧ x < c then 1 else 0)), h) := by
  obtain ⟨s0, -⟩ := S
  rw [ev_Scene_hasCell]
  simp (disch := omega) only [e_Scene_hasCell_0, e_Scene_hasCell_1, e_Scene_hasCell_4, e_Scene_hasCell_5, e_Scene_hasCell_6, e_Scene_hasCell_9, e_Scene_hasCell_12, e_Scene_hasCell_13, e_Scene_hasCell_16, e_Scene_hasCell_17, alk_in, ask_in, blk_in, bsk_in, qlk_in, ack_in, rcv_in, rcA_in, bk_i, bk_l, bk_v, hS_same, hS_ne, hS_hS, hS_2, am_10, am_01, am_00, if_true, if_false, gf_5_0, pf_5_0, gf_5_1, pf_5_1, gf_5_2, pf_5_2, gf_5_3, pf_5_3, gf_5_4, pf_5_4, gf_5_5, pf_5_5, gf_5_6, pf_5_6, gf_5_7, pf_5_7, s0]
  by_cases h1 : x < 0 <;> by_cases h2 : x < c <;> simp [h1, h2] <;> omega
theorem c_isIn (S : ScAt h b n c t ce so ha ye ic) {x : Nat} (hx : x < 6) (hr : -2147483648 ≤ ce x ∧ ce x < 2147483648) : ev mScene_isIn [vR b, vI (x : Int)] h = some (some (vI (if ce x = -9 then 0 else 1)), h) := by
  obtain ⟨s0, s1, -⟩ := S
  rw [ev_Scene_isIn]
  simp (disch := omega) only [e_Scene_isIn_0, e_Scene_isIn_1, e_Scene_isIn_4, e_Scene_isIn_5, e_Scene_isIn_6, e_Scene_isIn_8, e_Scene_isIn_11, e_Scene_isIn_12, e_Scene_isIn_15, e_Scene_isIn_16, alk_in, ask_in, blk_in, bsk_in, qlk_in, ack_in, rcv_in, rcA_in, bk_i, bk_l, bk_v, hS_same, hS_ne, hS_hS, hS_2, am_10, am_01, am_00, if_true, if_false, gf_5_0, pf_5_0, gf_5_1, pf_5_1, gf_5_2, pf_5_2, gf_5_3, pf_5_3, gf_5_4, pf_5_4, gf_5_5, pf_5_5, gf_5_6, pf_5_6, gf_5_7, pf_5_7, s0, s1, Int.toNat_natCast]
  by_cases h1 : ce x = -9 <;> simp [h1]
theorem c_whoIn0 (S : ScAt h b n c t ce so ha ye ic) {x : Int} (hx : -2147483648 ≤ x ∧ x < 2147483648) (hc : c ≤ 9) : ev mScene_whoIn [vR b, vI x] h = some (some (vI (if 0 ≤ x ∧ x < c then ic x.toNat else -9)), h) := by
  have c1 := c_hasCell S hx hc
  obtain ⟨s0, s1, s2, s3, s4, s5⟩ := S
  rw [ev_Scene_whoIn]
  simp (disch := omega) only [e_Scene_whoIn_0, e_Scene_whoIn_1, e_Scene_whoIn_2, e_Scene_whoIn_8, e_Scene_whoIn_9, e_Scene_whoIn_12, e_Scene_whoIn_13, e_Scene_whoIn_14, e_Scene_whoIn_17, e_Scene_whoIn_19, e_Scene_whoIn_5b, alk_in, ask_in, blk_in, bsk_in, qlk_in, ack_in, rcv_in, rcA_in, bk_i, bk_l, bk_v, hS_same, hS_ne, hS_hS, hS_2, am_10, am_01, am_00, if_true, if_false, gf_5_0, pf_5_0, gf_5_1, pf_5_1, gf_5_2, pf_5_2, gf_5_3, pf_5_3, gf_5_4, pf_5_4, gf_5_5, pf_5_5, gf_5_6, pf_5_6, gf_5_7, pf_5_7, s0, c1]
  by_cases h1 : 0 ≤ x ∧ x < c
  · rw [if_pos h1, if_pos h1]
    simp (disch := omega) only [s5, alk_in, ask_in, blk_in, bsk_in, qlk_in, ack_in, rcv_in, rcA_in, bk_i, bk_l, bk_v, hS_same, hS_ne, hS_hS, hS_2, am_10, am_01, am_00, if_true, if_false, e_Scene_whoIn_0, e_Scene_whoIn_1, e_Scene_whoIn_2, e_Scene_whoIn_5, e_Scene_whoIn_5b, e_Scene_whoIn_8, e_Scene_whoIn_9, e_Scene_whoIn_12, e_Scene_whoIn_13, e_Scene_whoIn_14, e_Scene_whoIn_17, e_Scene_whoIn_19]
  · rw [if_neg h1, if_neg h1]
theorem c_whoIn (S : ScAt h b n c t ce so ha ye ic) (hw : Wf n c ce so ha ye) (hic : ∀ x : Nat, x < c → ic x = who n ce x) {x : Int} (hx : -2147483648 ≤ x ∧ x < 2147483648) (h9 : ¬ x = -9) : ev mScene_whoIn [vR b, vI x] h = some (some (vI (who n ce x)), h) := by
  rw [c_whoIn0 S hx hw.2.2.1]
  refine am_ans ?_
  by_cases h1 : 0 ≤ x ∧ x < c
  · rw [if_pos h1, hic x.toNat (by omega), Int.toNat_of_nonneg h1.1]
  · rw [if_neg h1, who_no]
    intro j hj
    have := (hw.2.2.2.1 j hj).1
    omega
theorem c_figureFrom (S : ScAt h b n c t ce so ha ye ic) (hw : Wf n c ce so ha ye) (hic : ∀ x : Nat, x < c → ic x = who n ce x) {x s : Int} (hx : -2147483648 ≤ x ∧ x < 2147483648) (h9 : ¬ x = -9) (hs : -2147483648 ≤ s ∧ s < 2147483648) : ev mScene_figureFrom [vR b, vI x, vI s] h = some (some (vI (ffr n ce ha x s)), h) := by
  have c1 := c_whoIn S hw hic hx h9
  obtain ⟨s0, s1, s2, s3, s4, s5⟩ := S
  have hn := hw.1
  have hb := who_b n ce x
  rw [ev_Scene_figureFrom]
  unfold ffr
  rcases who_range n ce x with ⟨h1, -⟩ | ⟨j, h1, h2, -⟩
  · simp (disch := omega) only [e_Scene_figureFrom_0, e_Scene_figureFrom_1, e_Scene_figureFrom_2, e_Scene_figureFrom_5, e_Scene_figureFrom_6, e_Scene_figureFrom_7, e_Scene_figureFrom_9, e_Scene_figureFrom_12, e_Scene_figureFrom_13, e_Scene_figureFrom_16, e_Scene_figureFrom_17, e_Scene_figureFrom_20, e_Scene_figureFrom_21, e_Scene_figureFrom_22, e_Scene_figureFrom_23, e_Scene_figureFrom_26, alk_in, ask_in, blk_in, bsk_in, qlk_in, ack_in, rcv_in, rcA_in, bk_i, bk_l, bk_v, hS_same, hS_ne, hS_hS, hS_2, am_10, am_01, am_00, if_true, if_false, gf_5_0, pf_5_0, gf_5_1, pf_5_1, gf_5_2, pf_5_2, gf_5_3, pf_5_3, gf_5_4, pf_5_4, gf_5_5, pf_5_5, gf_5_6, pf_5_6, gf_5_7, pf_5_7, s0, c1, h1, if_true]
  · rw [if_neg (by omega)]
    have c2 := c_figure (h := h) (a := ha j) (s := s) hs
    simp (disch := omega) only [e_Scene_figureFrom_0, e_Scene_figureFrom_1, e_Scene_figureFrom_2, e_Scene_figureFrom_5, e_Scene_figureFrom_6, e_Scene_figureFrom_7, e_Scene_figureFrom_9, e_Scene_figureFrom_12, e_Scene_figureFrom_13, e_Scene_figureFrom_16, e_Scene_figureFrom_17, e_Scene_figureFrom_20, e_Scene_figureFrom_21, e_Scene_figureFrom_22, e_Scene_figureFrom_23, e_Scene_figureFrom_26, alk_in, ask_in, blk_in, bsk_in, qlk_in, ack_in, rcv_in, rcA_in, bk_i, bk_l, bk_v, hS_same, hS_ne, hS_hS, hS_2, am_10, am_01, am_00, if_true, if_false, gf_5_0, pf_5_0, gf_5_1, pf_5_1, gf_5_2, pf_5_2, gf_5_3, pf_5_3, gf_5_4, pf_5_4, gf_5_5, pf_5_5, gf_5_6, pf_5_6, gf_5_7, pf_5_7, s0, s3, c1, h2, Int.toNat_natCast, c2]
    rw [if_neg (by omega)]
theorem c_yearsAfter (S : ScAt h b n c t ce so ha ye ic) {ye0 : Nat → Int} (hw : Wf n c ce so ha ye0) (hic : ∀ x : Nat, x < c → ic x = who n ce x) {m : Nat} (hm : m < n) (hin : ¬ ce m = -9) (hy : ye m = ye0 m) : ev mScene_yearsAfter [vR b, vI (m : Int)] h = some (some (vI (aft n ce so ha ye0 m)), h) := by
  have hwm := hw.2.2.2.1 m hm
  have hn := hw.1
  have hc9 := hw.2.2.1
  have S0 := S
  obtain ⟨s0, s1, s2, s3, s4, s5⟩ := S
  have b1 := ffr_b hw (ce m - 1) (so m)
  have b2 := ffr_b hw (ce m + 1) (so m)
  have hci : ∀ x : Int, ¬ x = -9 → -2147483648 ≤ x ∧ x < 2147483648 → ev mScene_figureFrom [vR b, vI x, vI (so m)] h = some (some (vI (ffr n ce ha x (so m))), h) := by
    intro x h9 hx
    have hw' : Wf n c ce so ha ye0 := hw
    have c1 : ev mScene_whoIn [vR b, vI x] h = some (some (vI (who n ce x)), h) := by
      rw [c_whoIn0 S0 hx hc9]
      refine am_ans ?_
      by_cases h1 : 0 ≤ x ∧ x < c
      · rw [if_pos h1, hic x.toNat (by omega), Int.toNat_of_nonneg h1.1]
      · rw [if_neg h1, who_no]
        intro j hj
        have := (hw.2.2.2.1 j hj).1
        omega
    have hb := who_b n ce x
    rw [ev_Scene_figureFrom]
    unfold ffr
    rcases who_range n ce x with ⟨h1, -⟩ | ⟨j, h1, h2, -⟩
    · simp (disch := omega) only [e_Scene_figureFrom_0, e_Scene_figureFrom_1, e_Scene_figureFrom_2, e_Scene_figureFrom_5, e_Scene_figureFrom_6, e_Scene_figureFrom_7, e_Scene_figureFrom_9, e_Scene_figureFrom_12, e_Scene_figureFrom_13, e_Scene_figureFrom_16, e_Scene_figureFrom_17, e_Scene_figureFrom_20, e_Scene_figureFrom_21, e_Scene_figureFrom_22, e_Scene_figureFrom_23, e_Scene_figureFrom_26, alk_in, ask_in, blk_in, bsk_in, qlk_in, ack_in, rcv_in, rcA_in, bk_i, bk_l, bk_v, hS_same, hS_ne, hS_hS, hS_2, am_10, am_01, am_00, if_true, if_false, gf_5_0, pf_5_0, gf_5_1, pf_5_1, gf_5_2, pf_5_2, gf_5_3, pf_5_3, gf_5_4, pf_5_4, gf_5_5, pf_5_5, gf_5_6, pf_5_6, gf_5_7, pf_5_7, s0, c1, h1, if_true]
    · rw [if_neg (by omega)]
      have c2 := c_figure (h := h) (a := ha j) (s := so m) (by omega)
      simp (disch := omega) only [e_Scene_figureFrom_0, e_Scene_figureFrom_1, e_Scene_figureFrom_2, e_Scene_figureFrom_5, e_Scene_figureFrom_6, e_Scene_figureFrom_7, e_Scene_figureFrom_9, e_Scene_figureFrom_12, e_Scene_figureFrom_13, e_Scene_figureFrom_16, e_Scene_figureFrom_17, e_Scene_figureFrom_20, e_Scene_figureFrom_21, e_Scene_figureFrom_22, e_Scene_figureFrom_23, e_Scene_figureFrom_26, alk_in, ask_in, blk_in, bsk_in, qlk_in, ack_in, rcv_in, rcA_in, bk_i, bk_l, bk_v, hS_same, hS_ne, hS_hS, hS_2, am_10, am_01, am_00, if_true, if_false, gf_5_0, pf_5_0, gf_5_1, pf_5_1, gf_5_2, pf_5_2, gf_5_3, pf_5_3, gf_5_4, pf_5_4, gf_5_5, pf_5_5, gf_5_6, pf_5_6, gf_5_7, pf_5_7, s0, s3, c1, h2, Int.toNat_natCast, c2]
      rw [if_neg (by omega)]
  have c1 := hci (ce m - 1) (by omega) (by omega)
  have c2 := hci (ce m + 1) (by omega) (by omega)
  have c3 := c_within (h := h) (y := ye m - 1 + ffr n ce ha (ce m - 1) (so m) + ffr n ce ha (ce m + 1) (so m)) (by omega)
  rw [ev_Scene_yearsAfter]
  simp (disch := omega) only [e_Scene_yearsAfter_0, e_Scene_yearsAfter_1, e_Scene_yearsAfter_4, e_Scene_yearsAfter_5, e_Scene_yearsAfter_6, e_Scene_yearsAfter_7, e_Scene_yearsAfter_8, e_Scene_yearsAfter_11, e_Scene_yearsAfter_12, e_Scene_yearsAfter_13, e_Scene_yearsAfter_14, e_Scene_yearsAfter_15, e_Scene_yearsAfter_18, e_Scene_yearsAfter_19, e_Scene_yearsAfter_20, e_Scene_yearsAfter_21, e_Scene_yearsAfter_22, e_Scene_yearsAfter_23, e_Scene_yearsAfter_24, e_Scene_yearsAfter_25, e_Scene_yearsAfter_26, e_Scene_yearsAfter_27, e_Scene_yearsAfter_30, e_Scene_yearsAfter_31, e_Scene_yearsAfter_32, e_Scene_yearsAfter_33, e_Scene_yearsAfter_34, e_Scene_yearsAfter_35, e_Scene_yearsAfter_36, e_Scene_yearsAfter_39, e_Scene_yearsAfter_40, e_Scene_yearsAfter_43, alk_in, ask_in, blk_in, bsk_in, qlk_in, ack_in, rcv_in, rcA_in, bk_i, bk_l, bk_v, hS_same, hS_ne, hS_hS, hS_2, am_10, am_01, am_00, if_true, if_false, gf_5_0, pf_5_0, gf_5_1, pf_5_1, gf_5_2, pf_5_2, gf_5_3, pf_5_3, gf_5_4, pf_5_4, gf_5_5, pf_5_5, gf_5_6, pf_5_6, gf_5_7, pf_5_7, s0, s1, s2, s4, Int.toNat_natCast, c1, c2, c3]
  unfold aft
  rw [hy]
end Scene1
