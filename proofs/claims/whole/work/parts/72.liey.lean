/-! how all should lie: the class's years behind a way, the search -/
section LieY
variable {n c k : Nat} {M w so ha ye : Nat → Int} {ly is : am_V}
theorem ly_put {h : am_H} {P I : Nat → Int} (hk : k ≤ 6) (O : LiO h ly is k) (P1 : h.1 38 = cI 0 36 P) (P2 : PuO P k M so ha) (I1 : h.1 39 = cI 0 9 I) (I2 : ∀ x : Nat, x < 9 → I x = who k w (x : Int)) (hr : ∀ i, i < k → 0 ≤ w i ∧ w i ≤ 8) {x : Int} (hx : -1 ≤ x ∧ x ≤ 9) {i : Nat} (hi : i < k) : ev mLie_putFrom [vR 28, vI x, vI (i : Int)] h = some (some (vI (pfw k w M so ha x i)), h) := by
  unfold LiO at O
  rw [ev_Lie_putFrom]
  unfold pfw
  have wb := who_b k w x
  by_cases q0 : x < 0
  · rw [if_pos (who_no (fun j hj => by have := hr j hj; omega))]
    simp (disch := omega) only [e_Lie_putFrom_0, e_Lie_putFrom_1, e_Lie_putFrom_4, e_Lie_putFrom_5, e_Lie_putFrom_7, e_Lie_putFrom_10, e_Lie_putFrom_11, e_Lie_putFrom_14, e_Lie_putFrom_15, e_Lie_putFrom_16, e_Lie_putFrom_18, e_Lie_putFrom_21, e_Lie_putFrom_22, e_Lie_putFrom_23, e_Lie_putFrom_24, e_Lie_putFrom_27, e_Lie_putFrom_28, e_Lie_putFrom_30, e_Lie_putFrom_31, e_Lie_putFrom_32, e_Lie_putFrom_35, e_Lie_putFrom_36, e_Lie_putFrom_37, e_Lie_putFrom_38, e_Lie_putFrom_39, alk_in, ask_in, blk_in, bsk_in, qlk_in, ack_in, rcv_in, rcA_in, bk_i, bk_l, bk_v, hS_same, hS_ne, hS_hS, hS_2, am_10, am_01, am_00, if_true, if_false]
    rw [if_pos q0]
  · by_cases q9 : 9 ≤ x
    · rw [if_pos (who_no (fun j hj => by have := hr j hj; omega))]
      simp (disch := omega) only [e_Lie_putFrom_0, e_Lie_putFrom_1, e_Lie_putFrom_4, e_Lie_putFrom_5, e_Lie_putFrom_7, e_Lie_putFrom_11, e_Lie_putFrom_14, e_Lie_putFrom_15, e_Lie_putFrom_16, e_Lie_putFrom_18, e_Lie_putFrom_21, e_Lie_putFrom_22, e_Lie_putFrom_23, e_Lie_putFrom_24, e_Lie_putFrom_27, e_Lie_putFrom_28, e_Lie_putFrom_30, e_Lie_putFrom_31, e_Lie_putFrom_32, e_Lie_putFrom_35, e_Lie_putFrom_36, e_Lie_putFrom_37, e_Lie_putFrom_38, e_Lie_putFrom_39, alk_in, ask_in, blk_in, bsk_in, qlk_in, ack_in, rcv_in, rcA_in, bk_i, bk_l, bk_v, hS_same, hS_ne, hS_hS, hS_2, am_10, am_01, am_00, if_true, if_false]
      rw [if_neg q0, if_neg (by omega)]
    · have e := I2 x.toNat (by omega)
      rw [Int.toNat_of_nonneg (by omega)] at e
      rcases who_range k w x with ⟨h1, -⟩ | ⟨j, h1, h2, -⟩
      · rw [if_pos h1]
        rw [h1] at e
        simp (disch := omega) only [e_Lie_putFrom_0, e_Lie_putFrom_1, e_Lie_putFrom_4, e_Lie_putFrom_5, e_Lie_putFrom_7, e_Lie_putFrom_10, e_Lie_putFrom_11, e_Lie_putFrom_14, e_Lie_putFrom_15, e_Lie_putFrom_16, e_Lie_putFrom_18, e_Lie_putFrom_21, e_Lie_putFrom_22, e_Lie_putFrom_23, e_Lie_putFrom_24, e_Lie_putFrom_27, e_Lie_putFrom_28, e_Lie_putFrom_30, e_Lie_putFrom_31, e_Lie_putFrom_32, e_Lie_putFrom_35, e_Lie_putFrom_36, e_Lie_putFrom_37, e_Lie_putFrom_38, e_Lie_putFrom_39, alk_in, ask_in, blk_in, bsk_in, qlk_in, ack_in, rcv_in, rcA_in, bk_i, bk_l, bk_v, hS_same, hS_ne, hS_hS, hS_2, am_10, am_01, am_00, if_true, if_false, gf_2_0, pf_2_0, gf_2_1, pf_2_1, gf_2_2, pf_2_2, gf_2_3, pf_2_3, gf_2_4, pf_2_4, gf_2_5, pf_2_5, gf_2_6, pf_2_6, gf_2_7, pf_2_7, gf_2_8, pf_2_8, O, I1, e]
        rw [if_neg q0, if_pos (by omega)]
      · rw [h2] at e ⊢
        have t1 : ((i : Int) * 6 + (j : Int)).toNat = i * 6 + j := by omega
        rw [if_neg (by omega), Int.toNat_natCast, ← P2 i j hi h1]
        simp (disch := omega) only [e_Lie_putFrom_0, e_Lie_putFrom_1, e_Lie_putFrom_4, e_Lie_putFrom_5, e_Lie_putFrom_7, e_Lie_putFrom_10, e_Lie_putFrom_11, e_Lie_putFrom_14, e_Lie_putFrom_15, e_Lie_putFrom_16, e_Lie_putFrom_18, e_Lie_putFrom_21, e_Lie_putFrom_22, e_Lie_putFrom_23, e_Lie_putFrom_24, e_Lie_putFrom_27, e_Lie_putFrom_28, e_Lie_putFrom_30, e_Lie_putFrom_31, e_Lie_putFrom_32, e_Lie_putFrom_35, e_Lie_putFrom_36, e_Lie_putFrom_37, e_Lie_putFrom_38, e_Lie_putFrom_39, alk_in, ask_in, blk_in, bsk_in, qlk_in, ack_in, rcv_in, rcA_in, bk_i, bk_l, bk_v, hS_same, hS_ne, hS_hS, hS_2, am_10, am_01, am_00, if_true, if_false, gf_2_0, pf_2_0, gf_2_1, pf_2_1, gf_2_2, pf_2_2, gf_2_3, pf_2_3, gf_2_4, pf_2_4, gf_2_5, pf_2_5, gf_2_6, pf_2_6, gf_2_7, pf_2_7, gf_2_8, pf_2_8, O, I1, P1, e, t1]
        rw [if_neg q0, if_pos (by omega), if_neg (by omega)]
theorem ly_in (hk : k ≤ 6) (hr : ∀ i, i < k → 0 ≤ w i ∧ w i ≤ 8) {J : Nat → Int} {l2 l3 : am_V} : ∀ (d i : Nat) (h : am_H) (I : Nat → Int), i + d = k → LiO h ly is k → h.1 36 = cI 0 6 w → h.1 39 = cI 0 9 I → (∀ x : Nat, x < 9 → I x = if who i w (x : Int) = -9 then J x else who i w (x : Int)) → ∃ h' I', gv mLie_yearsBehind 2 [vR 28, vI (i : Int), l2, l3] [] h = gv mLie_yearsBehind 28 [vR 28, vI (k : Int), l2, l3] [] h' ∧ h'.1 39 = cI 0 9 I' ∧ (∀ x : Nat, x < 9 → I' x = if who k w (x : Int) = -9 then J x else who k w (x : Int)) ∧ Fr 39 40 h h' := by
  intro d
  induction d with
  | zero =>
    intro i h I hi O W I1 I2
    have : i = k := by omega
    subst this
    refine ⟨h, I, ?_, I1, I2, Fr.rf⟩
    unfold LiO at O
    rw [e_Lie_yearsBehind_2]
    simp (disch := omega) only [e_Lie_yearsBehind_0, e_Lie_yearsBehind_1, e_Lie_yearsBehind_3, e_Lie_yearsBehind_4, e_Lie_yearsBehind_7, e_Lie_yearsBehind_10, e_Lie_yearsBehind_11, e_Lie_yearsBehind_14, e_Lie_yearsBehind_15, e_Lie_yearsBehind_18, e_Lie_yearsBehind_19, e_Lie_yearsBehind_20, e_Lie_yearsBehind_21, e_Lie_yearsBehind_22, e_Lie_yearsBehind_25, e_Lie_yearsBehind_29, e_Lie_yearsBehind_30, e_Lie_yearsBehind_31, e_Lie_yearsBehind_32, e_Lie_yearsBehind_33, e_Lie_yearsBehind_34, e_Lie_yearsBehind_37, e_Lie_yearsBehind_40, e_Lie_yearsBehind_41, e_Lie_yearsBehind_42, e_Lie_yearsBehind_45, e_Lie_yearsBehind_46, e_Lie_yearsBehind_47, e_Lie_yearsBehind_48, e_Lie_yearsBehind_49, e_Lie_yearsBehind_50, e_Lie_yearsBehind_53, e_Lie_yearsBehind_54, e_Lie_yearsBehind_55, e_Lie_yearsBehind_58, e_Lie_yearsBehind_59, e_Lie_yearsBehind_60, e_Lie_yearsBehind_61, e_Lie_yearsBehind_62, e_Lie_yearsBehind_63, e_Lie_yearsBehind_66, e_Lie_yearsBehind_67, e_Lie_yearsBehind_68, e_Lie_yearsBehind_69, e_Lie_yearsBehind_70, e_Lie_yearsBehind_73, e_Lie_yearsBehind_76, e_Lie_yearsBehind_77, e_Lie_yearsBehind_80, e_Lie_yearsBehind_81, e_Lie_yearsBehind_82, e_Lie_yearsBehind_83, e_Lie_yearsBehind_84, e_Lie_yearsBehind_85, e_Lie_yearsBehind_86, e_Lie_yearsBehind_87, e_Lie_yearsBehind_90, e_Lie_yearsBehind_91, e_Lie_yearsBehind_92, e_Lie_yearsBehind_95, e_Lie_yearsBehind_98, e_Lie_yearsBehind_99, alk_in, ask_in, blk_in, bsk_in, qlk_in, ack_in, rcv_in, rcA_in, bk_i, bk_l, bk_v, hS_same, hS_ne, hS_hS, hS_2, am_10, am_01, am_00, if_true, if_false, gf_2_0, pf_2_0, gf_2_1, pf_2_1, gf_2_2, pf_2_2, gf_2_3, pf_2_3, gf_2_4, pf_2_4, gf_2_5, pf_2_5, gf_2_6, pf_2_6, gf_2_7, pf_2_7, gf_2_8, pf_2_8, O]
    rw [if_neg (by omega)]
  | succ d ih =>
    intro i h I hi O W I1 I2
    have r := hr i (by omega)
    have f1 : Fr 39 40 h (hS h 39 (cI 0 9 (fun x => if x = (w i).toNat then (i : Int) else I x))) := Fr.st (by omega)
    obtain ⟨h2, I', e2, I3, I4, f2⟩ := ih (i + 1) (hS h 39 (cI 0 9 (fun x => if x = (w i).toNat then (i : Int) else I x))) _ (by omega) ((f1.at (by omega)).trans O) ((f1.at (by omega)).trans W) hS_same (fun x hx => by
      have e : who (i + 1) w (x : Int) = if w i = (x : Int) then (i : Int) else who i w (x : Int) := rfl
      rw [e]
      by_cases q : w i = (x : Int)
      · rw [if_pos (by omega), if_pos q, if_neg (by omega)]
      · rw [if_neg (by omega), if_neg q]; exact I2 x hx)
    refine ⟨h2, I', ?_, I3, I4, f1.tr f2⟩
    unfold LiO at O
    rw [e_Lie_yearsBehind_2, ← e2]
    simp (disch := omega) only [e_Lie_yearsBehind_0, e_Lie_yearsBehind_1, e_Lie_yearsBehind_3, e_Lie_yearsBehind_4, e_Lie_yearsBehind_7, e_Lie_yearsBehind_10, e_Lie_yearsBehind_11, e_Lie_yearsBehind_14, e_Lie_yearsBehind_15, e_Lie_yearsBehind_18, e_Lie_yearsBehind_19, e_Lie_yearsBehind_20, e_Lie_yearsBehind_21, e_Lie_yearsBehind_22, e_Lie_yearsBehind_25, e_Lie_yearsBehind_29, e_Lie_yearsBehind_30, e_Lie_yearsBehind_31, e_Lie_yearsBehind_32, e_Lie_yearsBehind_33, e_Lie_yearsBehind_34, e_Lie_yearsBehind_37, e_Lie_yearsBehind_40, e_Lie_yearsBehind_41, e_Lie_yearsBehind_42, e_Lie_yearsBehind_45, e_Lie_yearsBehind_46, e_Lie_yearsBehind_47, e_Lie_yearsBehind_48, e_Lie_yearsBehind_49, e_Lie_yearsBehind_50, e_Lie_yearsBehind_53, e_Lie_yearsBehind_54, e_Lie_yearsBehind_55, e_Lie_yearsBehind_58, e_Lie_yearsBehind_59, e_Lie_yearsBehind_60, e_Lie_yearsBehind_61, e_Lie_yearsBehind_62, e_Lie_yearsBehind_63, e_Lie_yearsBehind_66, e_Lie_yearsBehind_67, e_Lie_yearsBehind_68, e_Lie_yearsBehind_69, e_Lie_yearsBehind_70, e_Lie_yearsBehind_73, e_Lie_yearsBehind_76, e_Lie_yearsBehind_77, e_Lie_yearsBehind_80, e_Lie_yearsBehind_81, e_Lie_yearsBehind_82, e_Lie_yearsBehind_83, e_Lie_yearsBehind_84, e_Lie_yearsBehind_85, e_Lie_yearsBehind_86, e_Lie_yearsBehind_87, e_Lie_yearsBehind_90, e_Lie_yearsBehind_91, e_Lie_yearsBehind_92, e_Lie_yearsBehind_95, e_Lie_yearsBehind_98, e_Lie_yearsBehind_99, alk_in, ask_in, blk_in, bsk_in, qlk_in, ack_in, rcv_in, rcA_in, bk_i, bk_l, bk_v, hS_same, hS_ne, hS_hS, hS_2, am_10, am_01, am_00, if_true, if_false, gf_2_0, pf_2_0, gf_2_1, pf_2_1, gf_2_2, pf_2_2, gf_2_3, pf_2_3, gf_2_4, pf_2_4, gf_2_5, pf_2_5, gf_2_6, pf_2_6, gf_2_7, pf_2_7, gf_2_8, pf_2_8, O, W, I1, Int.toNat_natCast]
    rw [if_pos (by omega)]; rfl
theorem ly_out2 {h : am_H} {ce P I : Nat → Int} {t : Int} (hW : Wf n c ce so ha ye) (hk : k ≤ 6) (O : LiO h ly is k) (hM : ∀ i, i < k → ∃ m : Nat, m < n ∧ M i = (m : Int)) (S : RepS h 29 n c t ce so ha ye) (M1 : h.1 35 = cI 0 6 M) (W : h.1 36 = cI 0 6 w) (P1 : h.1 38 = cI 0 36 P) (P2 : PuO P k M so ha) (I1 : h.1 39 = cI 0 9 I) (I2 : ∀ x : Nat, x < 9 → I x = who k w (x : Int)) (hr : ∀ i, i < k → 0 ≤ w i ∧ w i ≤ 8) : ∀ (d i : Nat) (l3 : am_V), i + d = k → gv mLie_yearsBehind 32 [vR 28, vI (sye (ybi k w M so ha ye) i), vI (i : Int), l3] [] h = some (some (vI (yb k M so ha ye w)), h) := by
  have hn := hW.1
  intro d
  induction d with
  | zero =>
    intro i l3 hi
    have : i = k := by omega
    subst this
    unfold LiO at O
    rw [e_Lie_yearsBehind_32]
    simp (disch := omega) only [e_Lie_yearsBehind_0, e_Lie_yearsBehind_1, e_Lie_yearsBehind_2, e_Lie_yearsBehind_3, e_Lie_yearsBehind_4, e_Lie_yearsBehind_7, e_Lie_yearsBehind_10, e_Lie_yearsBehind_11, e_Lie_yearsBehind_14, e_Lie_yearsBehind_15, e_Lie_yearsBehind_18, e_Lie_yearsBehind_19, e_Lie_yearsBehind_20, e_Lie_yearsBehind_21, e_Lie_yearsBehind_22, e_Lie_yearsBehind_25, e_Lie_yearsBehind_28, e_Lie_yearsBehind_29, e_Lie_yearsBehind_30, e_Lie_yearsBehind_31, e_Lie_yearsBehind_33, e_Lie_yearsBehind_34, e_Lie_yearsBehind_37, e_Lie_yearsBehind_40, e_Lie_yearsBehind_41, e_Lie_yearsBehind_42, e_Lie_yearsBehind_45, e_Lie_yearsBehind_46, e_Lie_yearsBehind_47, e_Lie_yearsBehind_48, e_Lie_yearsBehind_49, e_Lie_yearsBehind_50, e_Lie_yearsBehind_53, e_Lie_yearsBehind_54, e_Lie_yearsBehind_55, e_Lie_yearsBehind_58, e_Lie_yearsBehind_59, e_Lie_yearsBehind_60, e_Lie_yearsBehind_61, e_Lie_yearsBehind_62, e_Lie_yearsBehind_63, e_Lie_yearsBehind_66, e_Lie_yearsBehind_67, e_Lie_yearsBehind_68, e_Lie_yearsBehind_69, e_Lie_yearsBehind_70, e_Lie_yearsBehind_73, e_Lie_yearsBehind_76, e_Lie_yearsBehind_77, e_Lie_yearsBehind_80, e_Lie_yearsBehind_81, e_Lie_yearsBehind_82, e_Lie_yearsBehind_83, e_Lie_yearsBehind_84, e_Lie_yearsBehind_85, e_Lie_yearsBehind_86, e_Lie_yearsBehind_87, e_Lie_yearsBehind_90, e_Lie_yearsBehind_91, e_Lie_yearsBehind_92, e_Lie_yearsBehind_95, e_Lie_yearsBehind_98, e_Lie_yearsBehind_99, alk_in, ask_in, blk_in, bsk_in, qlk_in, ack_in, rcv_in, rcA_in, bk_i, bk_l, bk_v, hS_same, hS_ne, hS_hS, hS_2, am_10, am_01, am_00, if_true, if_false, gf_2_0, pf_2_0, gf_2_1, pf_2_1, gf_2_2, pf_2_2, gf_2_3, pf_2_3, gf_2_4, pf_2_4, gf_2_5, pf_2_5, gf_2_6, pf_2_6, gf_2_7, pf_2_7, gf_2_8, pf_2_8, O]
    rw [if_neg (by omega)]
    rfl
  | succ d ih =>
    intro i l3 hi
    have r := hr i (by omega)
    have c1 := ly_put hk O P1 P2 I1 I2 hr (x := w i - 1) (by omega) (show i < k by omega)
    have c2 := ly_put hk O P1 P2 I1 I2 hr (x := w i + 1) (by omega) (show i < k by omega)
    obtain ⟨m, m1, m2⟩ := hM i (by omega)
    have hwm := hW.2.2.2.1 m m1
    have pb : ∀ x : Int, -3 ≤ pfw k w M so ha x i ∧ pfw k w M so ha x i ≤ 4 := by
      intro x
      unfold pfw
      rcases who_range k w x with ⟨h1, -⟩ | ⟨j, h1, h2, -⟩
      · rw [if_pos h1]; omega
      · rw [if_neg (by omega), h2, Int.toNat_natCast]
        obtain ⟨m', a, b⟩ := hM j h1
        rw [b, Int.toNat_natCast]
        have := hW.2.2.2.1 m' a
        exact fig_b (by omega)
    have b1 := pb (w i - 1)
    have b2 := pb (w i + 1)
    have c3 := c_within (h := h) (y := ye m - 1 + (pfw k w M so ha (w i - 1) i + pfw k w M so ha (w i + 1) i)) (by omega)
    have e3 : sye (ybi k w M so ha ye) (i + 1) = sye (ybi k w M so ha ye) i + cl (ye m - 1 + (pfw k w M so ha (w i - 1) i + pfw k w M so ha (w i + 1) i)) := by
      show sye (ybi k w M so ha ye) i + ybi k w M so ha ye i = _
      unfold ybi
      rw [m2, Int.toNat_natCast]
    have e2 := ih (i + 1) (vI (pfw k w M so ha (w i - 1) i + pfw k w M so ha (w i + 1) i)) (by omega)
    rw [e3] at e2
    unfold LiO at O
    obtain ⟨ce', so', ha', ye', ic, ⟨s0, s1, s2, s3, s4, s5⟩, r1, r2⟩ := S
    rw [e_Lie_yearsBehind_32, ← e2]
    simp (disch := omega) only [e_Lie_yearsBehind_0, e_Lie_yearsBehind_1, e_Lie_yearsBehind_2, e_Lie_yearsBehind_3, e_Lie_yearsBehind_4, e_Lie_yearsBehind_7, e_Lie_yearsBehind_10, e_Lie_yearsBehind_11, e_Lie_yearsBehind_14, e_Lie_yearsBehind_15, e_Lie_yearsBehind_18, e_Lie_yearsBehind_19, e_Lie_yearsBehind_20, e_Lie_yearsBehind_21, e_Lie_yearsBehind_22, e_Lie_yearsBehind_25, e_Lie_yearsBehind_28, e_Lie_yearsBehind_29, e_Lie_yearsBehind_30, e_Lie_yearsBehind_31, e_Lie_yearsBehind_33, e_Lie_yearsBehind_34, e_Lie_yearsBehind_37, e_Lie_yearsBehind_40, e_Lie_yearsBehind_41, e_Lie_yearsBehind_42, e_Lie_yearsBehind_45, e_Lie_yearsBehind_46, e_Lie_yearsBehind_47, e_Lie_yearsBehind_48, e_Lie_yearsBehind_49, e_Lie_yearsBehind_50, e_Lie_yearsBehind_53, e_Lie_yearsBehind_54, e_Lie_yearsBehind_55, e_Lie_yearsBehind_58, e_Lie_yearsBehind_59, e_Lie_yearsBehind_60, e_Lie_yearsBehind_61, e_Lie_yearsBehind_62, e_Lie_yearsBehind_63, e_Lie_yearsBehind_66, e_Lie_yearsBehind_67, e_Lie_yearsBehind_68, e_Lie_yearsBehind_69, e_Lie_yearsBehind_70, e_Lie_yearsBehind_73, e_Lie_yearsBehind_76, e_Lie_yearsBehind_77, e_Lie_yearsBehind_80, e_Lie_yearsBehind_81, e_Lie_yearsBehind_82, e_Lie_yearsBehind_83, e_Lie_yearsBehind_84, e_Lie_yearsBehind_85, e_Lie_yearsBehind_86, e_Lie_yearsBehind_87, e_Lie_yearsBehind_90, e_Lie_yearsBehind_91, e_Lie_yearsBehind_92, e_Lie_yearsBehind_95, e_Lie_yearsBehind_98, e_Lie_yearsBehind_99, alk_in, ask_in, blk_in, bsk_in, qlk_in, ack_in, rcv_in, rcA_in, bk_i, bk_l, bk_v, hS_same, hS_ne, hS_hS, hS_2, am_10, am_01, am_00, if_true, if_false, gf_2_0, pf_2_0, gf_2_1, pf_2_1, gf_2_2, pf_2_2, gf_2_3, pf_2_3, gf_2_4, pf_2_4, gf_2_5, pf_2_5, gf_2_6, pf_2_6, gf_2_7, pf_2_7, gf_2_8, pf_2_8, gf_5_0, pf_5_0, gf_5_1, pf_5_1, gf_5_2, pf_5_2, gf_5_3, pf_5_3, gf_5_4, pf_5_4, gf_5_5, pf_5_5, gf_5_6, pf_5_6, gf_5_7, pf_5_7, O, W, M1, s0, s4, m2, (r1 m m1).2.2.2, c1, c2, c3, Int.toNat_natCast]
    rw [if_pos (by omega)]; rfl
theorem k_years {h : am_H} {ce P I : Nat → Int} {t : Int} (hW : Wf n c ce so ha ye) (hk : k ≤ 6) (O : LiO h ly is k) (hM : ∀ i, i < k → ∃ m : Nat, m < n ∧ M i = (m : Int)) (S : RepS h 29 n c t ce so ha ye) (M1 : h.1 35 = cI 0 6 M) (W : h.1 36 = cI 0 6 w) (P1 : h.1 38 = cI 0 36 P) (P2 : PuO P k M so ha) (I1 : h.1 39 = cI 0 9 I) (I2 : ∀ x : Nat, x < 9 → I x = -9 ∨ ¬ who k w (x : Int) = -9) (hr : ∀ i, i < k → 0 ≤ w i ∧ w i ≤ 8) : ∃ h' I', ev mLie_yearsBehind [vR 28] h = some (some (vI (yb k M so ha ye w)), h') ∧ h'.1 39 = cI 0 9 I' ∧ (∀ x : Nat, x < 9 → I' x = who k w (x : Int)) ∧ Fr 39 40 h h' := by
  obtain ⟨h1, I', e1, I3, I4, f1⟩ := ly_in (J := I) (l2 := vU) (l3 := vU) hk hr k 0 h I (by omega) O W I1 (fun x hx => (if_pos rfl).symm)
  have I5 : ∀ x : Nat, x < 9 → I' x = who k w (x : Int) := fun x hx => by
    rw [I4 x hx]
    by_cases q : who k w (x : Int) = -9
    · rw [if_pos q, q]
      rcases I2 x hx with z | z
      · exact z
      · exact absurd q z
    · rw [if_neg q]
  have e2 := ly_out2 hW hk ((f1.at (by omega)).trans O) hM (S.fr f1 (by omega)) ((f1.at (by omega)).trans M1) ((f1.at (by omega)).trans W) ((f1.at (by omega)).trans P1) P2 I3 I5 hr k 0 vU (by omega)
  refine ⟨h1, I', ?_, I3, I5, f1⟩
  rw [ev_Lie_yearsBehind]
  simp (disch := omega) only [e_Lie_yearsBehind_0, e_Lie_yearsBehind_1]
  refine Eq.trans e1 ?_
  rw [← e2]
  simp (disch := omega) only [e_Lie_yearsBehind_28, e_Lie_yearsBehind_29, e_Lie_yearsBehind_30, e_Lie_yearsBehind_31]
  rfl
theorem who_prm {g : Nat → Int} (h : Prm k w g) {x : Int} (hx : ¬ who k w x = -9) : ¬ who k g x = -9 := by
  rcases who_range k w x with ⟨h1, -⟩ | ⟨j, h1, h2, h3⟩
  · exact absurd h1 hx
  · obtain ⟨i, hi, e⟩ := h.2.1 j h1
    rcases who_range k g x with ⟨-, h5⟩ | ⟨i', h4, h5, -⟩
    · exact absurd (e.trans h3) (h5 i hi)
    · omega
theorem lk_seek {ce P : Nat → Int} {t : Int} (hW : Wf n c ce so ha ye) (hk : k ≤ 6) (hM : ∀ i, i < k → ∃ m : Nat, m < n ∧ M i = (m : Int)) (P2 : PuO P k M so ha) : ∀ (d : Nat) (h : am_H) (w bw C I : Nat → Int) (b : Int) (l3 : am_V), d ≤ 719 → LiO h (vI b) (vI 1) k → RepS h 29 n c t ce so ha ye → h.1 35 = cI 0 6 M → h.1 36 = cI 0 6 w → h.1 37 = cI 0 6 C → EqB 6 C bw → h.1 38 = cI 0 36 P → h.1 39 = cI 0 9 I → (∀ x : Nat, x < 9 → I x = who k w (x : Int)) → (∀ i, i < 6 → 0 ≤ w i ∧ w i ≤ 8) → (0 ≤ b ∧ b ≤ 1000) → ∃ h' w' C' I', gv mLie_seek 61 [vR 28, vR 10, vI (720 - (d : Int)), l3] [] h = some (none, h') ∧ LiO h' (vI (srch k M so ha ye d w bw b).1) (vI 1) k ∧ h'.1 36 = cI 0 6 w' ∧ (∀ i, i < 6 → 0 ≤ w' i ∧ w' i ≤ 8) ∧ h'.1 37 = cI 0 6 C' ∧ EqB 6 C' (srch k M so ha ye d w bw b).2 ∧ h'.1 39 = cI 0 9 I' ∧ FP (fun x => x = 28 ∨ x = 36 ∨ x = 37 ∨ x = 39) h h' := by
  intro d
  induction d with
  | zero =>
    intro h w bw C I b l3 hd O S M1 W C1 C2 P1 I1 I2 hr hb
    refine ⟨h, w, C, I, ?_, O, W, hr, C1, C2, I1, FP.rf⟩
    rw [e_Lie_seek_61]
    simp (disch := omega) only [e_Lie_seek_0, e_Lie_seek_1, e_Lie_seek_4, e_Lie_seek_4b, e_Lie_seek_7, e_Lie_seek_8, e_Lie_seek_11, e_Lie_seek_12, e_Lie_seek_15, e_Lie_seek_15b, e_Lie_seek_18, e_Lie_seek_19, e_Lie_seek_20, e_Lie_seek_23, e_Lie_seek_24, e_Lie_seek_27, e_Lie_seek_28, e_Lie_seek_29, e_Lie_seek_32, e_Lie_seek_33, e_Lie_seek_36, e_Lie_seek_37, e_Lie_seek_38, e_Lie_seek_41, e_Lie_seek_44, e_Lie_seek_45, e_Lie_seek_48, e_Lie_seek_49, e_Lie_seek_50, e_Lie_seek_53, e_Lie_seek_54, e_Lie_seek_56, e_Lie_seek_59, e_Lie_seek_60, e_Lie_seek_62, e_Lie_seek_65, e_Lie_seek_68, e_Lie_seek_69, e_Lie_seek_72, e_Lie_seek_72b, e_Lie_seek_75, e_Lie_seek_76, e_Lie_seek_79, e_Lie_seek_80, e_Lie_seek_81, e_Lie_seek_82, e_Lie_seek_85, e_Lie_seek_88, e_Lie_seek_89, e_Lie_seek_90, e_Lie_seek_93, e_Lie_seek_94, e_Lie_seek_97, e_Lie_seek_98, e_Lie_seek_99, e_Lie_seek_102, e_Lie_seek_103, e_Lie_seek_105, e_Lie_seek_108, e_Lie_seek_111, e_Lie_seek_114, alk_in, ask_in, blk_in, bsk_in, qlk_in, ack_in, rcv_in, rcA_in, bk_i, bk_l, bk_v, hS_same, hS_ne, hS_hS, hS_2, am_10, am_01, am_00, if_true, if_false]
    rw [if_neg (by omega)]
  | succ d ih =>
    intro h w bw C I b l3 hd O S M1 W C1 C2 P1 I1 I2 hr hb
    obtain ⟨h1, e1, W1, f1⟩ := k_turns O hk W (fun j hj => by have := hr j hj; omega)
    have es : srch k M so ha ye (d + 1) w bw b = match nxt k w with
      | none => (b, bw)
      | some g => if yb k M so ha ye g < b then srch k M so ha ye d g g (yb k M so ha ye g) else srch k M so ha ye d g bw b := rfl
    rw [es]
    cases e : nxt k w with
    | none =>
      rw [e] at e1 W1
      simp only at e1 W1 ⊢
      refine ⟨h1, w, C, I, ?_, (f1.at (by omega)).trans O, W1, hr, (f1.at (by omega)).trans C1, C2, (f1.at (by omega)).trans I1, f1.fp (fun x hx => by omega)⟩
      unfold LiO at O
      rw [e_Lie_seek_61]
      simp (disch := omega) only [e_Lie_seek_0, e_Lie_seek_1, e_Lie_seek_4, e_Lie_seek_4b, e_Lie_seek_7, e_Lie_seek_8, e_Lie_seek_11, e_Lie_seek_12, e_Lie_seek_15, e_Lie_seek_15b, e_Lie_seek_18, e_Lie_seek_19, e_Lie_seek_20, e_Lie_seek_23, e_Lie_seek_24, e_Lie_seek_27, e_Lie_seek_28, e_Lie_seek_29, e_Lie_seek_32, e_Lie_seek_33, e_Lie_seek_36, e_Lie_seek_37, e_Lie_seek_38, e_Lie_seek_41, e_Lie_seek_44, e_Lie_seek_45, e_Lie_seek_48, e_Lie_seek_49, e_Lie_seek_50, e_Lie_seek_53, e_Lie_seek_54, e_Lie_seek_56, e_Lie_seek_59, e_Lie_seek_60, e_Lie_seek_62, e_Lie_seek_65, e_Lie_seek_68, e_Lie_seek_69, e_Lie_seek_72, e_Lie_seek_72b, e_Lie_seek_75, e_Lie_seek_76, e_Lie_seek_79, e_Lie_seek_80, e_Lie_seek_81, e_Lie_seek_82, e_Lie_seek_85, e_Lie_seek_88, e_Lie_seek_89, e_Lie_seek_90, e_Lie_seek_93, e_Lie_seek_94, e_Lie_seek_97, e_Lie_seek_98, e_Lie_seek_99, e_Lie_seek_102, e_Lie_seek_103, e_Lie_seek_105, e_Lie_seek_108, e_Lie_seek_111, e_Lie_seek_114, alk_in, ask_in, blk_in, bsk_in, qlk_in, ack_in, rcv_in, rcA_in, bk_i, bk_l, bk_v, hS_same, hS_ne, hS_hS, hS_2, am_10, am_01, am_00, if_true, if_false, O, e1]
      rw [if_pos (by omega)]
    | some g =>
      rw [e] at e1 W1
      simp only at e1 W1 ⊢
      have pk := nxt_prm (Nat.le_refl k) e
      have p6 := nxt_prm hk e
      have hg : ∀ i, i < 6 → 0 ≤ g i ∧ g i ≤ 8 := fun i hi => by
        obtain ⟨j, hj, z⟩ := p6.1 i hi
        rw [z]; exact hr j hj
      have O1 : LiO h1 (vI b) (vI 1) k := (f1.at (by omega)).trans O
      obtain ⟨h2, I', e2, I3, I4, f2⟩ := k_years hW hk O1 hM (S.fr f1 (by omega)) ((f1.at (by omega)).trans M1) W1 ((f1.at (by omega)).trans P1) P2 ((f1.at (by omega)).trans I1) (fun x hx => by
        by_cases q : who k w (x : Int) = -9
        · exact Or.inl ((I2 x hx).trans q)
        · exact Or.inr (who_prm pk q)) (fun i hi => hg i (by omega))
      have yr := yb_b k M so ha ye g
      have O2 : LiO h2 (vI b) (vI 1) k := (f2.at (by omega)).trans O1
      have S2 : RepS h2 29 n c t ce so ha ye := (S.fr f1 (by omega)).fr f2 (by omega)
      have M2 : h2.1 35 = cI 0 6 M := (f2.at (by omega)).trans ((f1.at (by omega)).trans M1)
      have W2 : h2.1 36 = cI 0 6 g := (f2.at (by omega)).trans W1
      have C3 : h2.1 37 = cI 0 6 C := (f2.at (by omega)).trans ((f1.at (by omega)).trans C1)
      have P3 : h2.1 38 = cI 0 36 P := (f2.at (by omega)).trans ((f1.at (by omega)).trans P1)
      have f3 : FP (fun x => x = 28 ∨ x = 36 ∨ x = 37 ∨ x = 39) h h2 := (f1.fp (fun x hx => by omega)).tr (f2.fp (fun x hx => by omega))
      have t1 : (720 : Int) - ((d + 1 : Nat) : Int) + 1 = 720 - (d : Int) := by omega
      by_cases q : yb k M so ha ye g < b
      · rw [if_pos q]
        have f4 : FP (fun x => x = 28 ∨ x = 36 ∨ x = 37 ∨ x = 39) h2 (hS (hS h2 28 (cO 2 [vI (yb k M so ha ye g), vR 29, vI 1, vI (k : Int), vR 35, vR 36, vR 37, vR 38, vR 39])) 37 (cI 0 6 (fun j => if j < 6 then g j else C j))) := (FP.st (Or.inl rfl)).tr (FP.st (Or.inr (Or.inr (Or.inl rfl))))
        obtain ⟨h5, w', C', I5, e5, r5⟩ := ih (hS (hS h2 28 (cO 2 [vI (yb k M so ha ye g), vR 29, vI 1, vI (k : Int), vR 35, vR 36, vR 37, vR 38, vR 39])) 37 (cI 0 6 (fun j => if j < 6 then g j else C j))) g g _ I' (yb k M so ha ye g) (vI (yb k M so ha ye g)) (by omega) (by unfold LiO; rw [hS_ne (by omega)]; exact hS_same) (RT.on (G := (n, c, 0, ha)) (T := (t, ce, so, ye)) S2 (fun x hx => f4.2 x (by omega))) (f4.at M2 (by omega)) (by rw [hS_ne (by omega), hS_ne (by omega)]; exact W2) hS_same (fun j hj => if_pos hj) (f4.at P3 (by omega)) (by rw [hS_ne (by omega), hS_ne (by omega)]; exact I3) I4 hg (by omega)
        refine ⟨h5, w', C', I5, ?_, r5.1, r5.2.1, r5.2.2.1, r5.2.2.2.1, r5.2.2.2.2.1, r5.2.2.2.2.2.1, f3.tr (f4.tr r5.2.2.2.2.2.2)⟩
        unfold LiO at O O1 O2
        rw [e_Lie_seek_61, ← e5]
        simp (disch := omega) only [e_Lie_seek_0, e_Lie_seek_1, e_Lie_seek_4, e_Lie_seek_4b, e_Lie_seek_7, e_Lie_seek_8, e_Lie_seek_11, e_Lie_seek_12, e_Lie_seek_15, e_Lie_seek_15b, e_Lie_seek_18, e_Lie_seek_19, e_Lie_seek_20, e_Lie_seek_23, e_Lie_seek_24, e_Lie_seek_27, e_Lie_seek_28, e_Lie_seek_29, e_Lie_seek_32, e_Lie_seek_33, e_Lie_seek_36, e_Lie_seek_37, e_Lie_seek_38, e_Lie_seek_41, e_Lie_seek_44, e_Lie_seek_45, e_Lie_seek_48, e_Lie_seek_49, e_Lie_seek_50, e_Lie_seek_53, e_Lie_seek_54, e_Lie_seek_56, e_Lie_seek_59, e_Lie_seek_60, e_Lie_seek_62, e_Lie_seek_65, e_Lie_seek_68, e_Lie_seek_69, e_Lie_seek_72, e_Lie_seek_72b, e_Lie_seek_75, e_Lie_seek_76, e_Lie_seek_79, e_Lie_seek_80, e_Lie_seek_81, e_Lie_seek_82, e_Lie_seek_85, e_Lie_seek_88, e_Lie_seek_89, e_Lie_seek_90, e_Lie_seek_93, e_Lie_seek_94, e_Lie_seek_97, e_Lie_seek_98, e_Lie_seek_99, e_Lie_seek_102, e_Lie_seek_103, e_Lie_seek_105, e_Lie_seek_108, e_Lie_seek_111, e_Lie_seek_114, alk_in, ask_in, blk_in, bsk_in, qlk_in, ack_in, rcv_in, rcA_in, bk_i, bk_l, bk_v, hS_same, hS_ne, hS_hS, hS_2, am_10, am_01, am_00, if_true, if_false, gf_2_0, pf_2_0, gf_2_1, pf_2_1, gf_2_2, pf_2_2, gf_2_3, pf_2_3, gf_2_4, pf_2_4, gf_2_5, pf_2_5, gf_2_6, pf_2_6, gf_2_7, pf_2_7, gf_2_8, pf_2_8, O, O1, O2, e1, e2, W2, C3, t1]
        rw [if_pos (by omega), if_pos q]
        rfl
      · rw [if_neg q]
        obtain ⟨h5, w', C', I5, e5, r5⟩ := ih h2 g bw C I' b (vI (yb k M so ha ye g)) (by omega) O2 S2 M2 W2 C3 C2 P3 I3 I4 hg hb
        refine ⟨h5, w', C', I5, ?_, r5.1, r5.2.1, r5.2.2.1, r5.2.2.2.1, r5.2.2.2.2.1, r5.2.2.2.2.2.1, f3.tr r5.2.2.2.2.2.2⟩
        unfold LiO at O O1 O2
        rw [e_Lie_seek_61, ← e5]
        simp (disch := omega) only [e_Lie_seek_0, e_Lie_seek_1, e_Lie_seek_4, e_Lie_seek_4b, e_Lie_seek_7, e_Lie_seek_8, e_Lie_seek_11, e_Lie_seek_12, e_Lie_seek_15, e_Lie_seek_15b, e_Lie_seek_18, e_Lie_seek_19, e_Lie_seek_20, e_Lie_seek_23, e_Lie_seek_24, e_Lie_seek_27, e_Lie_seek_28, e_Lie_seek_29, e_Lie_seek_32, e_Lie_seek_33, e_Lie_seek_36, e_Lie_seek_37, e_Lie_seek_38, e_Lie_seek_41, e_Lie_seek_44, e_Lie_seek_45, e_Lie_seek_48, e_Lie_seek_49, e_Lie_seek_50, e_Lie_seek_53, e_Lie_seek_54, e_Lie_seek_56, e_Lie_seek_59, e_Lie_seek_60, e_Lie_seek_62, e_Lie_seek_65, e_Lie_seek_68, e_Lie_seek_69, e_Lie_seek_72, e_Lie_seek_72b, e_Lie_seek_75, e_Lie_seek_76, e_Lie_seek_79, e_Lie_seek_80, e_Lie_seek_81, e_Lie_seek_82, e_Lie_seek_85, e_Lie_seek_88, e_Lie_seek_89, e_Lie_seek_90, e_Lie_seek_93, e_Lie_seek_94, e_Lie_seek_97, e_Lie_seek_98, e_Lie_seek_99, e_Lie_seek_102, e_Lie_seek_103, e_Lie_seek_105, e_Lie_seek_108, e_Lie_seek_111, e_Lie_seek_114, alk_in, ask_in, blk_in, bsk_in, qlk_in, ack_in, rcv_in, rcA_in, bk_i, bk_l, bk_v, hS_same, hS_ne, hS_hS, hS_2, am_10, am_01, am_00, if_true, if_false, gf_2_0, pf_2_0, gf_2_1, pf_2_1, gf_2_2, pf_2_2, gf_2_3, pf_2_3, gf_2_4, pf_2_4, gf_2_5, pf_2_5, gf_2_6, pf_2_6, gf_2_7, pf_2_7, gf_2_8, pf_2_8, O, O1, O2, e1, e2, W2, C3, t1]
        rw [if_pos (by omega), if_neg q]
end LieY
