/-! A scene that holds a gaol: RepS; a month goes by -/
def RepS (h : am_H) (b n c : Nat) (t : Int) (ce so ha ye : Nat → Int) : Prop := ∃ ce' so' ha' ye' ic, ScAt h b n c t ce' so' ha' ye' ic ∧ (∀ j, j < n → ce' j = ce j ∧ so' j = so j ∧ ha' j = ha j ∧ ye' j = ye j) ∧ ∀ x : Nat, x < c → ic x = who n ce x
theorem RepS.fr {h h' : am_H} {b n c : Nat} {t : Int} {ce so ha ye : Nat → Int} (S : RepS h b n c t ce so ha ye) {b' e' : Nat} (f : Fr b' e' h h') (q : b + 6 ≤ b' ∨ e' ≤ b) : RepS h' b n c t ce so ha ye := by
  obtain ⟨ce', so', ha', ye', ic, S, r⟩ := S
  exact ⟨ce', so', ha', ye', ic, S.fr f q, r⟩
theorem RepS.co {h : am_H} {b n c : Nat} {t : Int} {ce so ha ye ce1 so1 ha1 ye1 : Nat → Int} (S : RepS h b n c t ce so ha ye) (e : ∀ j, j < n → ce j = ce1 j ∧ so j = so1 j ∧ ha j = ha1 j ∧ ye j = ye1 j) : RepS h b n c t ce1 so1 ha1 ye1 := by
  obtain ⟨ce', so', ha', ye', ic, S, r1, r2⟩ := S
  refine ⟨ce', so', ha', ye', ic, S, fun j hj => ?_, fun x hx => ?_⟩
  · have a := r1 j hj; have b := e j hj
    exact ⟨a.1.trans b.1, a.2.1.trans b.2.1, a.2.2.1.trans b.2.2.1, a.2.2.2.trans b.2.2.2⟩
  · rw [r2 x hx]; exact who_congr (fun j hj => (e j hj).1)
section Scene2
variable {h : am_H} {b n c : Nat} {t : Int} {ce so ha ye : Nat → Int}
theorem d_hasMan (S : RepS h b n c t ce so ha ye) {x : Int} (hx : -2147483648 ≤ x ∧ x < 2147483648) (hm : n ≤ 6) : ev mScene_hasMan [vR b, vI x] h = some (some (vI (if 0 ≤ x ∧ x < n then 1 else 0)), h) := by
  obtain ⟨ce', so', ha', ye', ic, S, r1, r2⟩ := S
  exact c_hasMan S hx hm
theorem d_hasCell (S : RepS h b n c t ce so ha ye) {x : Int} (hx : -2147483648 ≤ x ∧ x < 2147483648) (hc : c ≤ 9) : ev mScene_hasCell [vR b, vI x] h = some (some (vI (if 0 ≤ x ∧ x < c then 1 else 0)), h) := by
  obtain ⟨ce', so', ha', ye', ic, S, r1, r2⟩ := S
  exact c_hasCell S hx hc
theorem d_isIn (S : RepS h b n c t ce so ha ye) (hw : Wf n c ce so ha ye) {m : Nat} (hm : m < n) : ev mScene_isIn [vR b, vI (m : Int)] h = some (some (vI (if ce m = -9 then 0 else 1)), h) := by
  obtain ⟨ce', so', ha', ye', ic, S, r1, r2⟩ := S
  have h1 := hw.2.2.2.1 m hm
  have h2 := hw.1
  have h3 := hw.2.2.1
  have h4 := (r1 m hm).1
  rw [c_isIn S (by omega) (by omega), h4]
theorem d_whoIn (S : RepS h b n c t ce so ha ye) (hw : Wf n c ce so ha ye) {x : Int} (hx : -2147483648 ≤ x ∧ x < 2147483648) (h9 : ¬ x = -9) : ev mScene_whoIn [vR b, vI x] h = some (some (vI (who n ce x)), h) := by
  obtain ⟨ce', so', ha', ye', ic, S, r1, r2⟩ := S
  rw [c_whoIn0 S hx hw.2.2.1]
  refine am_ans ?_
  by_cases h1 : 0 ≤ x ∧ x < c
  · rw [if_pos h1, r2 x.toNat (by omega), Int.toNat_of_nonneg h1.1]
  · rw [if_neg h1, who_no]
    intro j hj
    have := (hw.2.2.2.1 j hj).1
    omega
theorem d_figureFrom (S : RepS h b n c t ce so ha ye) (hw : Wf n c ce so ha ye) {x s : Int} (hx : -2147483648 ≤ x ∧ x < 2147483648) (h9 : ¬ x = -9) (hs : -2147483648 ≤ s ∧ s < 2147483648) : ev mScene_figureFrom [vR b, vI x, vI s] h = some (some (vI (ffr n ce ha x s)), h) := by
  have c1 := d_whoIn S hw hx h9
  obtain ⟨ce', so', ha', ye', ic, ⟨s0, s1, s2, s3, s4, s5⟩, r1, r2⟩ := S
  have hn := hw.1
  have hb := who_b n ce x
  rw [ev_Scene_figureFrom]
  unfold ffr
  rcases who_range n ce x with ⟨h1, -⟩ | ⟨j, h1, h2, -⟩
  · simp (disch := omega) only [e_Scene_figureFrom_0, e_Scene_figureFrom_1, e_Scene_figureFrom_2, e_Scene_figureFrom_5, e_Scene_figureFrom_6, e_Scene_figureFrom_7, e_Scene_figureFrom_9, e_Scene_figureFrom_12, e_Scene_figureFrom_13, e_Scene_figureFrom_16, e_Scene_figureFrom_17, e_Scene_figureFrom_20, e_Scene_figureFrom_21, e_Scene_figureFrom_22, e_Scene_figureFrom_23, e_Scene_figureFrom_26, alk_in, ask_in, blk_in, bsk_in, qlk_in, ack_in, rcv_in, rcA_in, bk_i, bk_l, bk_v, hS_same, hS_ne, hS_hS, hS_2, am_10, am_01, am_00, if_true, if_false, gf_5_0, pf_5_0, gf_5_1, pf_5_1, gf_5_2, pf_5_2, gf_5_3, pf_5_3, gf_5_4, pf_5_4, gf_5_5, pf_5_5, gf_5_6, pf_5_6, gf_5_7, pf_5_7, s0, c1, h1, if_true]
  · rw [if_neg (by omega)]
    have c2 := c_figure (h := h) (a := ha j) (s := s) hs
    simp (disch := omega) only [e_Scene_figureFrom_0, e_Scene_figureFrom_1, e_Scene_figureFrom_2, e_Scene_figureFrom_5, e_Scene_figureFrom_6, e_Scene_figureFrom_7, e_Scene_figureFrom_9, e_Scene_figureFrom_12, e_Scene_figureFrom_13, e_Scene_figureFrom_16, e_Scene_figureFrom_17, e_Scene_figureFrom_20, e_Scene_figureFrom_21, e_Scene_figureFrom_22, e_Scene_figureFrom_23, e_Scene_figureFrom_26, alk_in, ask_in, blk_in, bsk_in, qlk_in, ack_in, rcv_in, rcA_in, bk_i, bk_l, bk_v, hS_same, hS_ne, hS_hS, hS_2, am_10, am_01, am_00, if_true, if_false, gf_5_0, pf_5_0, gf_5_1, pf_5_1, gf_5_2, pf_5_2, gf_5_3, pf_5_3, gf_5_4, pf_5_4, gf_5_5, pf_5_5, gf_5_6, pf_5_6, gf_5_7, pf_5_7, s0, s3, c1, h2, Int.toNat_natCast, (r1 j h1).2.2.1, c2]
    rw [if_neg (by omega)]
theorem d_yearsAfter (S : RepS h b n c t ce so ha ye) (hw : Wf n c ce so ha ye) {m : Nat} (hm : m < n) (hin : ¬ ce m = -9) : ev mScene_yearsAfter [vR b, vI (m : Int)] h = some (some (vI (aft n ce so ha ye m)), h) := by
  have hwm := hw.2.2.2.1 m hm
  have hn := hw.1
  have hc9 := hw.2.2.1
  have b1 := ffr_b hw (ce m - 1) (so m)
  have b2 := ffr_b hw (ce m + 1) (so m)
  have c1 := d_figureFrom S hw (x := ce m - 1) (s := so m) (by omega) (by omega) (by omega)
  have c2 := d_figureFrom S hw (x := ce m + 1) (s := so m) (by omega) (by omega) (by omega)
  have c3 := c_within (h := h) (y := ye m - 1 + ffr n ce ha (ce m - 1) (so m) + ffr n ce ha (ce m + 1) (so m)) (by omega)
  obtain ⟨ce', so', ha', ye', ic, ⟨s0, s1, s2, s3, s4, s5⟩, r1, r2⟩ := S
  rw [ev_Scene_yearsAfter]
  simp (disch := omega) only [e_Scene_yearsAfter_0, e_Scene_yearsAfter_1, e_Scene_yearsAfter_4, e_Scene_yearsAfter_5, e_Scene_yearsAfter_6, e_Scene_yearsAfter_7, e_Scene_yearsAfter_8, e_Scene_yearsAfter_11, e_Scene_yearsAfter_12, e_Scene_yearsAfter_13, e_Scene_yearsAfter_14, e_Scene_yearsAfter_15, e_Scene_yearsAfter_18, e_Scene_yearsAfter_19, e_Scene_yearsAfter_20, e_Scene_yearsAfter_21, e_Scene_yearsAfter_22, e_Scene_yearsAfter_23, e_Scene_yearsAfter_24, e_Scene_yearsAfter_25, e_Scene_yearsAfter_26, e_Scene_yearsAfter_27, e_Scene_yearsAfter_30, e_Scene_yearsAfter_31, e_Scene_yearsAfter_32, e_Scene_yearsAfter_33, e_Scene_yearsAfter_34, e_Scene_yearsAfter_35, e_Scene_yearsAfter_36, e_Scene_yearsAfter_39, e_Scene_yearsAfter_40, e_Scene_yearsAfter_43, alk_in, ask_in, blk_in, bsk_in, qlk_in, ack_in, rcv_in, rcA_in, bk_i, bk_l, bk_v, hS_same, hS_ne, hS_hS, hS_2, am_10, am_01, am_00, if_true, if_false, gf_5_0, pf_5_0, gf_5_1, pf_5_1, gf_5_2, pf_5_2, gf_5_3, pf_5_3, gf_5_4, pf_5_4, gf_5_5, pf_5_5, gf_5_6, pf_5_6, gf_5_7, pf_5_7, s0, s1, s2, s4, Int.toNat_natCast, (r1 m hm).1, (r1 m hm).2.1, (r1 m hm).2.2.2, c1, c2, c3]
  rfl
/-- writing a number into one of the men's rows -/
theorem RepS.setYe (S : RepS h b n c t ce so ha ye) {m : Nat} (x : Int) {f : Nat → Int} (hf : h.1 (b + 4) = cI 0 6 f) : RepS (hS h (b + 4) (cI 0 6 (fun j => if j = m then x else f j))) b n c t ce so ha (fun j => if j = m then x else ye j) := by
  obtain ⟨ce', so', ha', ye', ic, ⟨s0, s1, s2, s3, s4, s5⟩, r1, r2⟩ := S
  rw [s4] at hf
  cases hf
  refine ⟨ce', so', ha', fun j => if j = m then x else f j, ic, ⟨by rw [hS_ne (by omega)]; exact s0, by rw [hS_ne (by omega)]; exact s1, by rw [hS_ne (by omega)]; exact s2, by rw [hS_ne (by omega)]; exact s3, hS_same, by rw [hS_ne (by omega)]; exact s5⟩, fun j hj => ?_, r2⟩
  have a := r1 j hj
  refine ⟨a.1, a.2.1, a.2.2.1, ?_⟩
  show (if j = m then x else f j) = if j = m then x else ye j
  rw [a.2.2.2]
theorem RepS.setSo (S : RepS h b n c t ce so ha ye) {m : Nat} (x : Int) {f : Nat → Int} (hf : h.1 (b + 2) = cI 0 6 f) : RepS (hS h (b + 2) (cI 0 6 (fun j => if j = m then x else f j))) b n c t ce (fun j => if j = m then x else so j) ha ye := by
  obtain ⟨ce', so', ha', ye', ic, ⟨s0, s1, s2, s3, s4, s5⟩, r1, r2⟩ := S
  rw [s2] at hf
  cases hf
  refine ⟨ce', fun j => if j = m then x else f j, ha', ye', ic, ⟨by rw [hS_ne (by omega)]; exact s0, by rw [hS_ne (by omega)]; exact s1, hS_same, by rw [hS_ne (by omega)]; exact s3, by rw [hS_ne (by omega)]; exact s4, by rw [hS_ne (by omega)]; exact s5⟩, fun j hj => ?_, r2⟩
  have a := r1 j hj
  refine ⟨a.1, ?_, a.2.2.1, a.2.2.2⟩
  show (if j = m then x else f j) = if j = m then x else so j
  rw [a.2.1]
theorem who_out {n : Nat} {ce : Nat → Int} {m : Nat} {x : Int} (hx : ¬ x = -9) (hinj : ∀ i, i < n → ce i = ce m → i = m) : who n (fun j => if j = m then -9 else ce j) x = if ce m = x then -9 else who n ce x := by
  by_cases h1 : ce m = x
  · rw [if_pos h1]
    refine who_no fun j hj => ?_
    by_cases q : j = m
    · simp only [q, if_true]; omega
    · simp only [q, if_false]
      intro z
      exact q (hinj j hj (by omega))
  · rw [if_neg h1]
    induction n with
    | zero => rfl
    | succ n ih =>
      unfold who
      rw [ih (fun i hi => hinj i (by omega))]
      by_cases q : n = m
      · subst q
        simp only [if_true]
        rw [if_neg (by omega), if_neg h1]
      · simp only [q, if_false]
theorem d_leaveCell (S : RepS h b n c t ce so ha ye) (hw : Wf n c ce so ha ye) {m : Nat} (hm : m < n) (hin : ¬ ce m = -9) : ∃ h', ev mScene_leaveCell [vR b, vI (m : Int)] h = some (none, h') ∧ RepS h' b n c t (fun j => if j = m then -9 else ce j) so ha ye ∧ Fr b (b + 6) h h' := by
  have hwm := hw.2.2.2.1 m hm
  have hn := hw.1
  have hc9 := hw.2.2.1
  have c1 := d_hasCell S (x := ce m) (by omega) hc9
  rw [if_pos (by omega)] at c1
  obtain ⟨ce', so', ha', ye', ic, ⟨s0, s1, s2, s3, s4, s5⟩, r1, r2⟩ := S
  refine ⟨_, by
    rw [ev_Scene_leaveCell]
    simp (disch := omega) only [e_Scene_leaveCell_0, e_Scene_leaveCell_1, e_Scene_leaveCell_4, e_Scene_leaveCell_5, e_Scene_leaveCell_6, e_Scene_leaveCell_7, e_Scene_leaveCell_8, e_Scene_leaveCell_9, e_Scene_leaveCell_12, e_Scene_leaveCell_12b, e_Scene_leaveCell_15, e_Scene_leaveCell_16, e_Scene_leaveCell_19, e_Scene_leaveCell_20, e_Scene_leaveCell_22, e_Scene_leaveCell_23, e_Scene_leaveCell_24, e_Scene_leaveCell_27, e_Scene_leaveCell_28, e_Scene_leaveCell_30, e_Scene_leaveCell_31, alk_in, ask_in, blk_in, bsk_in, qlk_in, ack_in, rcv_in, rcA_in, bk_i, bk_l, bk_v, hS_same, hS_ne, hS_hS, hS_2, am_10, am_01, am_00, if_true, if_false, gf_5_0, pf_5_0, gf_5_1, pf_5_1, gf_5_2, pf_5_2, gf_5_3, pf_5_3, gf_5_4, pf_5_4, gf_5_5, pf_5_5, gf_5_6, pf_5_6, gf_5_7, pf_5_7, s0, s1, s5, Int.toNat_natCast, (r1 m hm).1, c1]
    rfl, ⟨fun j => if j = m then -9 else ce' j, so', ha', ye', fun j => if j = (ce m).toNat then -9 else ic j, ⟨?_, ?_, ?_, ?_, ?_, ?_⟩, fun j hj => ?_, fun x hx => ?_⟩, ?_⟩
  · simp (disch := omega) only [hS_ne, s0]
  · simp (disch := omega) only [hS_same]
  · simp (disch := omega) only [hS_ne, s2]
  · simp (disch := omega) only [hS_ne, s3]
  · simp (disch := omega) only [hS_ne, s4]
  · simp (disch := omega) only [hS_ne, hS_same]
  · have a := r1 j hj
    refine ⟨?_, a.2⟩
    show (if j = m then -9 else ce' j) = if j = m then -9 else ce j
    rw [a.1]
  · rw [who_out (by omega) (fun i hi z => (hw.2.2.2.2 i m hi hm z (by omega)))]
    show (if x = (ce m).toNat then -9 else ic x) = _
    rw [r2 x hx]
    by_cases q : ce m = x
    · rw [if_pos (by omega), if_pos q]
    · rw [if_neg (by omega), if_neg q]
  · exact (Fr.st (by omega)).tr (Fr.st (by omega))
end Scene2
