/-! A month on a scene; how many months till one is free; moving, copying -/
def pye (n : Nat) (ce so ha ye : Nat → Int) : Nat → Int := fun j => if ce j = -9 then ye j else aft n ce so ha ye j
def pce (n : Nat) (ce so ha ye : Nat → Int) : Nat → Int := fun j => if pye n ce so ha ye j = 0 then -9 else ce j
/-- how many of the first k become free -/
def pfr (n : Nat) (ce so ha ye : Nat → Int) (k : Nat) : Int := match k with
  | 0 => 0
  | k + 1 => pfr n ce so ha ye k + if ¬ ce k = -9 ∧ aft n ce so ha ye k = 0 then 1 else 0
def ykp (n : Nat) (ce so ha ye : Nat → Int) (k : Nat) : Nat → Int := fun j => if j < k then pye n ce so ha ye j else ye j
def ckp (n : Nat) (ce so ha ye : Nat → Int) (k : Nat) : Nat → Int := fun j => if j < k then pce n ce so ha ye j else ce j
section Pass
variable {n c : Nat} {ce so ha ye : Nat → Int}
theorem Wf.yk (hw : Wf n c ce so ha ye) (k : Nat) : Wf n c ce so ha (ykp n ce so ha ye k) := by
  obtain ⟨h1, h2, h3, h4, h5⟩ := hw
  refine ⟨h1, h2, h3, fun j hj => ?_, h5⟩
  have a := h4 j hj
  have b := aft_b n ce so ha ye j
  unfold ykp pye
  by_cases q : j < k
  · rw [if_pos q]
    by_cases r : ce j = -9
    · rw [if_pos r]; omega
    · rw [if_neg r]; omega
  · rw [if_neg q]; omega
theorem pye_9 (hw : Wf n c ce so ha ye) {j : Nat} (hj : j < n) (h : ce j = -9) : pye n ce so ha ye j = 0 := by
  have a := hw.2.2.2.1 j hj
  unfold pye
  rw [if_pos h]
  omega
theorem pye_b (hw : Wf n c ce so ha ye) {j : Nat} (hj : j < n) : 0 ≤ pye n ce so ha ye j ∧ pye n ce so ha ye j ≤ 60 := by
  have a := hw.2.2.2.1 j hj
  have b := aft_b n ce so ha ye j
  unfold pye
  by_cases r : ce j = -9
  · rw [if_pos r]; omega
  · rw [if_neg r]; omega
theorem Wf.ck (hw : Wf n c ce so ha ye) (k : Nat) : Wf n c (ckp n ce so ha ye k) so ha (pye n ce so ha ye) := by
  have hw0 := hw
  obtain ⟨h1, h2, h3, h4, h5⟩ := hw
  have key : ∀ j, j < n → ckp n ce so ha ye k j = -9 ∧ pye n ce so ha ye j = 0 ∨ ckp n ce so ha ye k j = ce j ∧ ¬ ce j = -9 := by
    intro j hj
    have a := pye_9 hw0 hj
    unfold ckp pce
    by_cases q : j < k
    · rw [if_pos q]
      by_cases r : pye n ce so ha ye j = 0
      · rw [if_pos r]; exact Or.inl ⟨rfl, r⟩
      · rw [if_neg r]; exact Or.inr ⟨rfl, fun z => r (a z)⟩
    · rw [if_neg q]
      by_cases r : ce j = -9
      · exact Or.inl ⟨r, a r⟩
      · exact Or.inr ⟨rfl, r⟩
  refine ⟨h1, h2, h3, fun j hj => ?_, fun i j hi hj hij hni => ?_⟩
  · have a := h4 j hj
    have b := pye_b hw0 hj
    rcases key j hj with q | q <;> omega
  · rcases key i hi with q | q <;> rcases key j hj with r | r
    · omega
    · omega
    · omega
    · exact h5 i j hi hj (by omega) q.2
theorem ckp_n (n : Nat) (ce so ha ye : Nat → Int) {j : Nat} (hj : j < n) : ckp n ce so ha ye n j = pce n ce so ha ye j := by
  unfold ckp; rw [if_pos hj]
theorem Wf.pass (hw : Wf n c ce so ha ye) : Wf n c (pce n ce so ha ye) so ha (pye n ce so ha ye) := by
  have h := hw.ck n
  obtain ⟨h1, h2, h3, h4, h5⟩ := h
  refine ⟨h1, h2, h3, fun j hj => ?_, fun i j hi hj hij hni => ?_⟩
  · have a := h4 j hj
    rw [ckp_n _ _ _ _ _ hj] at a
    exact a
  · refine h5 i j hi hj ?_ ?_
    · rw [ckp_n _ _ _ _ _ hi, ckp_n _ _ _ _ _ hj]; exact hij
    · rw [ckp_n _ _ _ _ _ hi]; exact hni
theorem pfr_b (n : Nat) (ce so ha ye : Nat → Int) (k : Nat) : 0 ≤ pfr n ce so ha ye k ∧ pfr n ce so ha ye k ≤ k := by
  induction k with
  | zero => exact ⟨Int.le_refl 0, Int.le_refl 0⟩
  | succ k ih =>
    unfold pfr
    split <;> omega
end Pass
section Scene3
variable {b n c : Nat} {so ha : Nat → Int}
theorem RepS.setT {h : am_H} {t : Int} {ce ye : Nat → Int} (S : RepS h b n c t ce so ha ye) (t' : Int) : RepS (hS h b (cO 5 [vI (c : Int), vI (n : Int), vI t', vR (b + 1), vR (b + 2), vR (b + 3), vR (b + 4), vR (b + 5)])) b n c t' ce so ha ye := by
  obtain ⟨ce', so', ha', ye', ic, ⟨s0, s1, s2, s3, s4, s5⟩, r⟩ := S
  exact ⟨ce', so', ha', ye', ic, ⟨hS_same, by rw [hS_ne (by omega)]; exact s1, by rw [hS_ne (by omega)]; exact s2, by rw [hS_ne (by omega)]; exact s3, by rw [hS_ne (by omega)]; exact s4, by rw [hS_ne (by omega)]; exact s5⟩, r⟩
theorem l_pass1 {t : Int} {ce ye : Nat → Int} (hw : Wf n c ce so ha ye) (x : am_V) : ∀ (d k : Nat) (h : am_H), k + d = n → RepS h b n c t ce so ha (ykp n ce so ha ye k) → ∃ h', gv mScene_passMonth 2 [vR b, vI (k : Int), x] [] h = gv mScene_passMonth 35 [vR b, vI (n : Int), x] [] h' ∧ RepS h' b n c t ce so ha (pye n ce so ha ye) ∧ Fr b (b + 6) h h' := by
  have hn := hw.1
  intro d
  induction d with
  | zero =>
    intro k h hk S
    have hkn : k = n := by omega
    subst hkn
    refine ⟨h, ?_, S.co (fun j hj => ⟨rfl, rfl, rfl, by unfold ykp; rw [if_pos hj]⟩), Fr.rf⟩
    obtain ⟨ce', so', ha', ye', ic, ⟨s0, s1, s2, s3, s4, s5⟩, r1, r2⟩ := S
    rw [e_Scene_passMonth_2]
    simp (disch := omega) only [e_Scene_passMonth_3, e_Scene_passMonth_4, e_Scene_passMonth_7, alk_in, ask_in, blk_in, bsk_in, qlk_in, ack_in, rcv_in, rcA_in, bk_i, bk_l, bk_v, hS_same, hS_ne, hS_hS, hS_2, am_10, am_01, am_00, if_true, if_false, gf_5_0, pf_5_0, gf_5_1, pf_5_1, gf_5_2, pf_5_2, gf_5_3, pf_5_3, gf_5_4, pf_5_4, gf_5_5, pf_5_5, gf_5_6, pf_5_6, gf_5_7, pf_5_7, s0]
    rw [if_neg (by omega)]
  | succ d ih =>
    intro k h hk S
    have hkn : k < n := by omega
    have c1 := d_isIn S (hw.yk k) hkn
    by_cases hin : ce k = -9
    · obtain ⟨h', e1, S1, f1⟩ := ih (k + 1) h (by omega) (S.co (fun j hj => ⟨rfl, rfl, rfl, by
        unfold ykp
        by_cases q : j < k
        · rw [if_pos q, if_pos (by omega)]
        · by_cases r : j = k
          · subst r; rw [if_neg q, if_pos (by omega)]; unfold pye; rw [if_pos hin]
          · rw [if_neg q, if_neg (by omega)]⟩))
      refine ⟨h', ?_, S1, f1⟩
      rw [← e1]
      obtain ⟨ce', so', ha', ye', ic, ⟨s0, s1, s2, s3, s4, s5⟩, r1, r2⟩ := S
      rw [e_Scene_passMonth_2]
      simp (disch := omega) only [e_Scene_passMonth_0, e_Scene_passMonth_1, e_Scene_passMonth_3, e_Scene_passMonth_4, e_Scene_passMonth_7, e_Scene_passMonth_10, e_Scene_passMonth_11, e_Scene_passMonth_12, e_Scene_passMonth_15, e_Scene_passMonth_15b, e_Scene_passMonth_18, e_Scene_passMonth_19, e_Scene_passMonth_22, e_Scene_passMonth_23, e_Scene_passMonth_24, e_Scene_passMonth_25, e_Scene_passMonth_28, e_Scene_passMonth_29, e_Scene_passMonth_32, e_Scene_passMonth_35, e_Scene_passMonth_36, e_Scene_passMonth_37, e_Scene_passMonth_38, e_Scene_passMonth_39, e_Scene_passMonth_40, e_Scene_passMonth_41, e_Scene_passMonth_44, e_Scene_passMonth_47, e_Scene_passMonth_48, e_Scene_passMonth_49, e_Scene_passMonth_52, e_Scene_passMonth_52b, e_Scene_passMonth_55, e_Scene_passMonth_56, e_Scene_passMonth_59, e_Scene_passMonth_60, e_Scene_passMonth_61, e_Scene_passMonth_61b, e_Scene_passMonth_64, e_Scene_passMonth_65, e_Scene_passMonth_66, e_Scene_passMonth_69, e_Scene_passMonth_72, e_Scene_passMonth_75, e_Scene_passMonth_78, e_Scene_passMonth_79, e_Scene_passMonth_80, e_Scene_passMonth_83, e_Scene_passMonth_84, e_Scene_passMonth_85, e_Scene_passMonth_88, e_Scene_passMonth_89, alk_in, ask_in, blk_in, bsk_in, qlk_in, ack_in, rcv_in, rcA_in, bk_i, bk_l, bk_v, hS_same, hS_ne, hS_hS, hS_2, am_10, am_01, am_00, if_true, if_false, gf_5_0, pf_5_0, gf_5_1, pf_5_1, gf_5_2, pf_5_2, gf_5_3, pf_5_3, gf_5_4, pf_5_4, gf_5_5, pf_5_5, gf_5_6, pf_5_6, gf_5_7, pf_5_7, s0, c1, hin, if_true]
      rw [if_pos (by omega)]
      rfl
    · have c2 := d_yearsAfter S (hw.yk k) hkn hin
      have ea : aft n ce so ha (ykp n ce so ha ye k) k = aft n ce so ha ye k := by
        unfold aft ykp
        rw [if_neg (by omega)]
      rw [ea] at c2
      have S0 := S
      obtain ⟨ce', so', ha', ye', ic, ⟨s0, s1, s2, s3, s4, s5⟩, r1, r2⟩ := S
      have S1 := S0.setYe (m := k) (aft n ce so ha ye k) s4
      obtain ⟨h', e1, S2, f1⟩ := ih (k + 1) _ (by omega) (S1.co (fun j hj => ⟨rfl, rfl, rfl, by
        show (if j = k then _ else _) = _
        unfold ykp
        by_cases q : j < k
        · rw [if_neg (by omega), if_pos q, if_pos (by omega)]
        · by_cases r : j = k
          · subst r; rw [if_pos rfl, if_pos (by omega)]; unfold pye; rw [if_neg hin]
          · rw [if_neg r, if_neg q, if_neg (by omega)]⟩))
      refine ⟨h', ?_, S2, (Fr.st (by omega)).tr f1⟩
      rw [← e1, e_Scene_passMonth_2]
      simp (disch := omega) only [e_Scene_passMonth_0, e_Scene_passMonth_1, e_Scene_passMonth_3, e_Scene_passMonth_4, e_Scene_passMonth_7, e_Scene_passMonth_10, e_Scene_passMonth_11, e_Scene_passMonth_12, e_Scene_passMonth_15, e_Scene_passMonth_15b, e_Scene_passMonth_18, e_Scene_passMonth_19, e_Scene_passMonth_22, e_Scene_passMonth_23, e_Scene_passMonth_24, e_Scene_passMonth_25, e_Scene_passMonth_28, e_Scene_passMonth_29, e_Scene_passMonth_32, e_Scene_passMonth_35, e_Scene_passMonth_36, e_Scene_passMonth_37, e_Scene_passMonth_38, e_Scene_passMonth_39, e_Scene_passMonth_40, e_Scene_passMonth_41, e_Scene_passMonth_44, e_Scene_passMonth_47, e_Scene_passMonth_48, e_Scene_passMonth_49, e_Scene_passMonth_52, e_Scene_passMonth_52b, e_Scene_passMonth_55, e_Scene_passMonth_56, e_Scene_passMonth_59, e_Scene_passMonth_60, e_Scene_passMonth_61, e_Scene_passMonth_61b, e_Scene_passMonth_64, e_Scene_passMonth_65, e_Scene_passMonth_66, e_Scene_passMonth_69, e_Scene_passMonth_72, e_Scene_passMonth_75, e_Scene_passMonth_78, e_Scene_passMonth_79, e_Scene_passMonth_80, e_Scene_passMonth_83, e_Scene_passMonth_84, e_Scene_passMonth_85, e_Scene_passMonth_88, e_Scene_passMonth_89, alk_in, ask_in, blk_in, bsk_in, qlk_in, ack_in, rcv_in, rcA_in, bk_i, bk_l, bk_v, hS_same, hS_ne, hS_hS, hS_2, am_10, am_01, am_00, if_true, if_false, gf_5_0, pf_5_0, gf_5_1, pf_5_1, gf_5_2, pf_5_2, gf_5_3, pf_5_3, gf_5_4, pf_5_4, gf_5_5, pf_5_5, gf_5_6, pf_5_6, gf_5_7, pf_5_7, s0, s4, c1, c2, hin, if_false, Int.toNat_natCast]
      rw [if_pos (by omega)]
      rfl
theorem l_pass2 {t : Int} {ce ye : Nat → Int} (hw : Wf n c ce so ha ye) : ∀ (d k : Nat) (h : am_H), k + d = n → RepS h b n c t (ckp n ce so ha ye k) so ha (pye n ce so ha ye) → ∃ h', gv mScene_passMonth 39 [vR b, vI (pfr n ce so ha ye k), vI (k : Int)] [] h = gv mScene_passMonth 78 [vR b, vI (pfr n ce so ha ye n), vI (n : Int)] [] h' ∧ RepS h' b n c t (pce n ce so ha ye) so ha (pye n ce so ha ye) ∧ Fr b (b + 6) h h' := by
  have hn := hw.1
  intro d
  induction d with
  | zero =>
    intro k h hk S
    have hkn : k = n := by omega
    subst hkn
    refine ⟨h, ?_, S.co (fun j hj => ⟨ckp_n _ _ _ _ _ hj, rfl, rfl, rfl⟩), Fr.rf⟩
    obtain ⟨ce', so', ha', ye', ic, ⟨s0, s1, s2, s3, s4, s5⟩, r1, r2⟩ := S
    rw [e_Scene_passMonth_39]
    simp (disch := omega) only [e_Scene_passMonth_40, e_Scene_passMonth_41, e_Scene_passMonth_44, alk_in, ask_in, blk_in, bsk_in, qlk_in, ack_in, rcv_in, rcA_in, bk_i, bk_l, bk_v, hS_same, hS_ne, hS_hS, hS_2, am_10, am_01, am_00, if_true, if_false, gf_5_0, pf_5_0, gf_5_1, pf_5_1, gf_5_2, pf_5_2, gf_5_3, pf_5_3, gf_5_4, pf_5_4, gf_5_5, pf_5_5, gf_5_6, pf_5_6, gf_5_7, pf_5_7, s0]
    rw [if_neg (by omega)]
  | succ d ih =>
    intro k h hk S
    have hkn : k < n := by omega
    have hwk := hw.ck k
    have hpb := pye_b hw hkn
    have c1 := d_isIn S hwk hkn
    have hck : ckp n ce so ha ye k k = ce k := by unfold ckp; rw [if_neg (by omega)]
    rw [hck] at c1
    have S0 := S
    obtain ⟨ce', so', ha', ye', ic, ⟨s0, s1, s2, s3, s4, s5⟩, r1, r2⟩ := S
    have hyk := (r1 k hkn).2.2.2
    by_cases hfree : ¬ ce k = -9 ∧ aft n ce so ha ye k = 0
    · have hp : pye n ce so ha ye k = 0 := by unfold pye; rw [if_neg hfree.1]; exact hfree.2
      obtain ⟨h1, e0, S1, f0⟩ := d_leaveCell S0 hwk hkn (by rw [hck]; exact hfree.1)
      obtain ⟨h', e1, S2, f1⟩ := ih (k + 1) h1 (by omega) (S1.co (fun j hj => ⟨by
        show (if j = k then -9 else _) = _
        unfold ckp
        by_cases q : j < k
        · rw [if_neg (by omega), if_pos q, if_pos (by omega)]
        · by_cases r : j = k
          · subst r; rw [if_pos rfl, if_pos (by omega)]; unfold pce; rw [if_pos hp]
          · rw [if_neg r, if_neg q, if_neg (by omega)], rfl, rfl, rfl⟩))
      refine ⟨h', ?_, S2, f0.tr f1⟩
      have e2 : pfr n ce so ha ye (k + 1) = pfr n ce so ha ye k + 1 := by
        show pfr n ce so ha ye k + (if ¬ ce k = -9 ∧ aft n ce so ha ye k = 0 then 1 else 0) = _
        rw [if_pos hfree]
      rw [e2] at e1
      rw [← e1, e_Scene_passMonth_39]
      simp (disch := omega) only [e_Scene_passMonth_0, e_Scene_passMonth_1, e_Scene_passMonth_2, e_Scene_passMonth_3, e_Scene_passMonth_4, e_Scene_passMonth_7, e_Scene_passMonth_10, e_Scene_passMonth_11, e_Scene_passMonth_12, e_Scene_passMonth_15, e_Scene_passMonth_15b, e_Scene_passMonth_18, e_Scene_passMonth_19, e_Scene_passMonth_22, e_Scene_passMonth_23, e_Scene_passMonth_24, e_Scene_passMonth_25, e_Scene_passMonth_28, e_Scene_passMonth_29, e_Scene_passMonth_32, e_Scene_passMonth_35, e_Scene_passMonth_36, e_Scene_passMonth_37, e_Scene_passMonth_38, e_Scene_passMonth_40, e_Scene_passMonth_41, e_Scene_passMonth_44, e_Scene_passMonth_47, e_Scene_passMonth_48, e_Scene_passMonth_49, e_Scene_passMonth_52, e_Scene_passMonth_52b, e_Scene_passMonth_55, e_Scene_passMonth_56, e_Scene_passMonth_59, e_Scene_passMonth_60, e_Scene_passMonth_61, e_Scene_passMonth_61b, e_Scene_passMonth_64, e_Scene_passMonth_65, e_Scene_passMonth_66, e_Scene_passMonth_69, e_Scene_passMonth_72, e_Scene_passMonth_75, e_Scene_passMonth_78, e_Scene_passMonth_79, e_Scene_passMonth_80, e_Scene_passMonth_83, e_Scene_passMonth_84, e_Scene_passMonth_85, e_Scene_passMonth_88, e_Scene_passMonth_89, alk_in, ask_in, blk_in, bsk_in, qlk_in, ack_in, rcv_in, rcA_in, bk_i, bk_l, bk_v, hS_same, hS_ne, hS_hS, hS_2, am_10, am_01, am_00, if_true, if_false, gf_5_0, pf_5_0, gf_5_1, pf_5_1, gf_5_2, pf_5_2, gf_5_3, pf_5_3, gf_5_4, pf_5_4, gf_5_5, pf_5_5, gf_5_6, pf_5_6, gf_5_7, pf_5_7, s0, s4, c1, e0, hfree.1, hyk, hp, if_false, if_true, Int.toNat_natCast]
      rw [if_pos (by omega)]
      rfl
    · have e2 : pfr n ce so ha ye (k + 1) = pfr n ce so ha ye k := by
        show pfr n ce so ha ye k + (if ¬ ce k = -9 ∧ aft n ce so ha ye k = 0 then 1 else 0) = _
        rw [if_neg hfree]; omega
      obtain ⟨h', e1, S2, f1⟩ := ih (k + 1) h (by omega) (S0.co (fun j hj => ⟨by
        unfold ckp
        by_cases q : j < k
        · rw [if_pos q, if_pos (by omega)]
        · by_cases r : j = k
          · subst r; rw [if_neg q, if_pos (by omega)]
            unfold pce
            by_cases z : pye n ce so ha ye j = 0
            · rw [if_pos z]
              by_cases y : ce j = -9
              · exact y
              · exact absurd ⟨y, by unfold pye at z; rw [if_neg y] at z; exact z⟩ hfree
            · rw [if_neg z]
          · rw [if_neg q, if_neg (by omega)], rfl, rfl, rfl⟩))
      refine ⟨h', ?_, S2, f1⟩
      rw [e2] at e1
      rw [← e1, e_Scene_passMonth_39]
      by_cases y : ce k = -9
      · simp (disch := omega) only [e_Scene_passMonth_0, e_Scene_passMonth_1, e_Scene_passMonth_2, e_Scene_passMonth_3, e_Scene_passMonth_4, e_Scene_passMonth_7, e_Scene_passMonth_10, e_Scene_passMonth_11, e_Scene_passMonth_12, e_Scene_passMonth_15, e_Scene_passMonth_15b, e_Scene_passMonth_18, e_Scene_passMonth_19, e_Scene_passMonth_22, e_Scene_passMonth_23, e_Scene_passMonth_24, e_Scene_passMonth_25, e_Scene_passMonth_28, e_Scene_passMonth_29, e_Scene_passMonth_32, e_Scene_passMonth_35, e_Scene_passMonth_36, e_Scene_passMonth_37, e_Scene_passMonth_38, e_Scene_passMonth_40, e_Scene_passMonth_41, e_Scene_passMonth_44, e_Scene_passMonth_47, e_Scene_passMonth_48, e_Scene_passMonth_49, e_Scene_passMonth_52, e_Scene_passMonth_52b, e_Scene_passMonth_55, e_Scene_passMonth_56, e_Scene_passMonth_59, e_Scene_passMonth_60, e_Scene_passMonth_61, e_Scene_passMonth_61b, e_Scene_passMonth_64, e_Scene_passMonth_65, e_Scene_passMonth_66, e_Scene_passMonth_69, e_Scene_passMonth_72, e_Scene_passMonth_75, e_Scene_passMonth_78, e_Scene_passMonth_79, e_Scene_passMonth_80, e_Scene_passMonth_83, e_Scene_passMonth_84, e_Scene_passMonth_85, e_Scene_passMonth_88, e_Scene_passMonth_89, alk_in, ask_in, blk_in, bsk_in, qlk_in, ack_in, rcv_in, rcA_in, bk_i, bk_l, bk_v, hS_same, hS_ne, hS_hS, hS_2, am_10, am_01, am_00, if_true, if_false, gf_5_0, pf_5_0, gf_5_1, pf_5_1, gf_5_2, pf_5_2, gf_5_3, pf_5_3, gf_5_4, pf_5_4, gf_5_5, pf_5_5, gf_5_6, pf_5_6, gf_5_7, pf_5_7, s0, s4, c1, y, if_true]
        rw [if_pos (by omega)]
        rfl
      · have hp : ¬ pye n ce so ha ye k = 0 := by unfold pye; rw [if_neg y]; exact fun z => hfree ⟨y, z⟩
        simp (disch := omega) only [e_Scene_passMonth_0, e_Scene_passMonth_1, e_Scene_passMonth_2, e_Scene_passMonth_3, e_Scene_passMonth_4, e_Scene_passMonth_7, e_Scene_passMonth_10, e_Scene_passMonth_11, e_Scene_passMonth_12, e_Scene_passMonth_15, e_Scene_passMonth_15b, e_Scene_passMonth_18, e_Scene_passMonth_19, e_Scene_passMonth_22, e_Scene_passMonth_23, e_Scene_passMonth_24, e_Scene_passMonth_25, e_Scene_passMonth_28, e_Scene_passMonth_29, e_Scene_passMonth_32, e_Scene_passMonth_35, e_Scene_passMonth_36, e_Scene_passMonth_37, e_Scene_passMonth_38, e_Scene_passMonth_40, e_Scene_passMonth_41, e_Scene_passMonth_44, e_Scene_passMonth_47, e_Scene_passMonth_48, e_Scene_passMonth_49, e_Scene_passMonth_52, e_Scene_passMonth_52b, e_Scene_passMonth_55, e_Scene_passMonth_56, e_Scene_passMonth_59, e_Scene_passMonth_60, e_Scene_passMonth_61, e_Scene_passMonth_61b, e_Scene_passMonth_64, e_Scene_passMonth_65, e_Scene_passMonth_66, e_Scene_passMonth_69, e_Scene_passMonth_72, e_Scene_passMonth_75, e_Scene_passMonth_78, e_Scene_passMonth_79, e_Scene_passMonth_80, e_Scene_passMonth_83, e_Scene_passMonth_84, e_Scene_passMonth_85, e_Scene_passMonth_88, e_Scene_passMonth_89, alk_in, ask_in, blk_in, bsk_in, qlk_in, ack_in, rcv_in, rcA_in, bk_i, bk_l, bk_v, hS_same, hS_ne, hS_hS, hS_2, am_10, am_01, am_00, if_true, if_false, gf_5_0, pf_5_0, gf_5_1, pf_5_1, gf_5_2, pf_5_2, gf_5_3, pf_5_3, gf_5_4, pf_5_4, gf_5_5, pf_5_5, gf_5_6, pf_5_6, gf_5_7, pf_5_7, s0, s4, c1, y, hyk, hp, if_false, if_true, Int.toNat_natCast]
        rw [if_pos (by omega)]
        rfl
theorem d_passMonth {h : am_H} {t : Int} {ce ye : Nat → Int} (S : RepS h b n c t ce so ha ye) (hw : Wf n c ce so ha ye) : ∃ h', ev mScene_passMonth [vR b] h = some (some (vI (pfr n ce so ha ye n)), h') ∧ RepS h' b n c (t + 1) (pce n ce so ha ye) so ha (pye n ce so ha ye) ∧ Fr b (b + 6) h h' := by
  obtain ⟨h1, e1, S1, f1⟩ := l_pass1 hw vU n 0 h (by omega) (S.co (fun j hj => ⟨rfl, rfl, rfl, by unfold ykp; rw [if_neg (by omega)]⟩))
  obtain ⟨h2, e2, S2, f2⟩ := l_pass2 hw n 0 h1 (by omega) (S1.co (fun j hj => ⟨by unfold ckp; rw [if_neg (by omega)], rfl, rfl, rfl⟩))
  have S3 := S2.setT (t + 1)
  refine ⟨_, ?_, S3, (f1.tr f2).tr (Fr.st (by omega))⟩
  rw [ev_Scene_passMonth, e_Scene_passMonth_0, e_Scene_passMonth_1]
  show gv mScene_passMonth 2 [vR b, vI ((0 : Nat) : Int), vU] [] h = _
  rw [e1]
  simp (disch := omega) only [e_Scene_passMonth_35, e_Scene_passMonth_36, e_Scene_passMonth_37, e_Scene_passMonth_38]
  show gv mScene_passMonth 39 [vR b, vI (pfr n ce so ha ye 0), vI ((0 : Nat) : Int)] [] h1 = _
  rw [e2]
  obtain ⟨ce', so', ha', ye', ic, ⟨s0, s1, s2, s3, s4, s5⟩, r1, r2⟩ := S2
  simp (disch := omega) only [e_Scene_passMonth_78, e_Scene_passMonth_79, e_Scene_passMonth_80, e_Scene_passMonth_83, e_Scene_passMonth_84, e_Scene_passMonth_85, e_Scene_passMonth_88, e_Scene_passMonth_89, alk_in, ask_in, blk_in, bsk_in, qlk_in, ack_in, rcv_in, rcA_in, bk_i, bk_l, bk_v, hS_same, hS_ne, hS_hS, hS_2, am_10, am_01, am_00, if_true, if_false, gf_5_0, pf_5_0, gf_5_1, pf_5_1, gf_5_2, pf_5_2, gf_5_3, pf_5_3, gf_5_4, pf_5_4, gf_5_5, pf_5_5, gf_5_6, pf_5_6, gf_5_7, pf_5_7, s0]
end Scene3
