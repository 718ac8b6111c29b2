/-! The model: sees, forget, hards, next -/
def MNo (h : am_H) (k : Nat) (s v : Nat → Int) : Prop := ∃ N, h.1 128 = cI 0 12 N ∧ ∀ j, j < k → N (2 * j) = s j ∧ N (2 * j + 1) = v j
theorem MNo.fe {h h' : am_H} {k : Nat} {s v : Nat → Int} {l : List Nat} (S : MNo h k s v) (f : FE l h h') (q : 128 ∉ l) : MNo h' k s v := by
  obtain ⟨N, a, b⟩ := S
  exact ⟨N, f.at a q, b⟩
theorem tn_2a (k : Nat) : (2 * (k : Int)).toNat = 2 * k := by omega
theorem tn_2b (k : Nat) : (2 * (k : Int) + 1).toNat = 2 * k + 1 := by omega
section ModSeen
variable {h : am_H} {G : Gl} {T : Tm} {tr L pc : Int} {k : Nat} {s v : Nat → Int}
theorem q_sees (O : MO h tr L pc k) (S : RM h G T) (E : MNo h k s v) (hw : WS k s v) {x y : Int} (hx : rg32 x) (hy : rg32 y) : ∃ h', ev mMod_sees [vR 120, vI x, vI y] h = some (some (vI (aSees k x y)), h') ∧ MO h' tr L pc ((nSees k s v x y).1 : Int) ∧ RM h' G T ∧ MNo h' (nSees k s v x y).1 (nSees k s v x y).2.1 (nSees k s v x y).2.2 ∧ FE [120, 128] h h' := by
  have O' := O
  have E' := E
  obtain ⟨x12, x13, x14, x15, o⟩ := O
  unfold MoA at o
  obtain ⟨N, E0, E1⟩ := E
  unfold rg32 at hx hy
  have c1 := c_min (h := h) (v := x) (x := 0) (y := 4) hx (by omega) (by omega)
  have c2 := c_min (h := h) (v := y) (x := -3) (y := 4) hy (by omega) (by omega)
  have hk := hw.1
  unfold aSees nSees
  by_cases q : 0 ≤ x ∧ x ≤ 4
  · simp only [q, and_self, if_true] at c1
    by_cases p : -3 ≤ y ∧ y ≤ 4
    · simp only [p, and_self, if_true] at c2
      by_cases r : k < 6
      · rw [if_pos ⟨q, p⟩, if_neg (by omega), if_pos ⟨⟨q, p⟩, r⟩]
        have f1 : ∀ cc : am_C, FE [128] h (hS h 128 cc) := fun cc => FE.st (by decide)
        refine ⟨hS (hS h 128 (cI 0 12 (fun j => if j = 2 * k + 1 then y else if j = 2 * k then x else N j))) 120 (cO 12 [vL tr, vR 121, vI L, vR 122, vR 123, vR 124, vR 125, vI pc, vR 126, vR 127, vR 128, vI ((k : Int) + 1), x12, x13, x14, x15, vR 129, vR 130, vR 131, vR 132, vR 133]), ?_, ⟨x12, x13, x14, x15, by unfold MoA; rw [hS_same]; rfl⟩, (S.fe (f1 _) (by decide)).obj _ _ _ _ _ _ _ _, ⟨_, by rw [hS_ne (by decide)]; exact hS_same, fun j hj => ?_⟩, ((f1 _).wd (by decide)).tr (FE.st (by decide))⟩
        · rw [ev_Mod_sees]
          simp (disch := omega) only [e_Mod_sees_0, e_Mod_sees_1, e_Mod_sees_2, e_Mod_sees_3, e_Mod_sees_6, e_Mod_sees_6b, e_Mod_sees_9, e_Mod_sees_10, e_Mod_sees_12, e_Mod_sees_13, e_Mod_sees_16, e_Mod_sees_16b, e_Mod_sees_19, e_Mod_sees_20, e_Mod_sees_21, e_Mod_sees_22, e_Mod_sees_25, e_Mod_sees_27, e_Mod_sees_30, e_Mod_sees_32, e_Mod_sees_33, e_Mod_sees_34, e_Mod_sees_37, e_Mod_sees_38, e_Mod_sees_39, e_Mod_sees_42, e_Mod_sees_43, e_Mod_sees_44, e_Mod_sees_45, e_Mod_sees_46, e_Mod_sees_49, e_Mod_sees_50, e_Mod_sees_51, e_Mod_sees_54, e_Mod_sees_55, e_Mod_sees_56, e_Mod_sees_57, e_Mod_sees_58, e_Mod_sees_59, e_Mod_sees_60, e_Mod_sees_61, e_Mod_sees_64, e_Mod_sees_65, e_Mod_sees_66, e_Mod_sees_69, e_Mod_sees_70, e_Mod_sees_73, alk_in, ask_in, blk_in, bsk_in, qlk_in, ack_in, rcv_in, rcA_in, bk_i, bk_l, bk_v, hS_same, hS_ne, hS_hS, hS_2, am_10, am_01, am_00, if_true, if_false, gf_12_0, pf_12_0, gf_12_1, pf_12_1, gf_12_2, pf_12_2, gf_12_3, pf_12_3, gf_12_4, pf_12_4, gf_12_5, pf_12_5, gf_12_6, pf_12_6, gf_12_7, pf_12_7, gf_12_8, pf_12_8, gf_12_9, pf_12_9, gf_12_10, pf_12_10, gf_12_11, pf_12_11, gf_12_12, pf_12_12, gf_12_13, pf_12_13, gf_12_14, pf_12_14, gf_12_15, pf_12_15, gf_12_16, pf_12_16, gf_12_17, pf_12_17, gf_12_18, pf_12_18, gf_12_19, pf_12_19, gf_12_20, pf_12_20, o, E0, c1, c2, tn_2a, tn_2b]
          rw [if_neg (by omega)]
        · simp only at hj
          have z := E1 j
          by_cases w : j = k
          · subst w
            rw [if_neg (by omega), if_pos rfl, if_pos rfl]
            simp
          · have z2 := z (by omega)
            rw [if_neg (by omega), if_neg (by omega), if_neg (by omega), if_neg (by omega)]
            simp only [w, if_false]
            exact z2
      · rw [if_pos ⟨q, p⟩, if_pos (by omega), if_neg (fun z => r z.2)]
        refine ⟨h, ?_, O', S, E', FE.rf⟩
        rw [ev_Mod_sees]
        simp (disch := omega) only [e_Mod_sees_0, e_Mod_sees_1, e_Mod_sees_2, e_Mod_sees_3, e_Mod_sees_6, e_Mod_sees_6b, e_Mod_sees_9, e_Mod_sees_10, e_Mod_sees_12, e_Mod_sees_13, e_Mod_sees_16, e_Mod_sees_16b, e_Mod_sees_19, e_Mod_sees_20, e_Mod_sees_21, e_Mod_sees_22, e_Mod_sees_25, e_Mod_sees_27, e_Mod_sees_30, e_Mod_sees_32, e_Mod_sees_33, e_Mod_sees_34, e_Mod_sees_37, e_Mod_sees_38, e_Mod_sees_39, e_Mod_sees_42, e_Mod_sees_43, e_Mod_sees_44, e_Mod_sees_45, e_Mod_sees_46, e_Mod_sees_49, e_Mod_sees_50, e_Mod_sees_51, e_Mod_sees_54, e_Mod_sees_55, e_Mod_sees_56, e_Mod_sees_57, e_Mod_sees_58, e_Mod_sees_59, e_Mod_sees_60, e_Mod_sees_61, e_Mod_sees_64, e_Mod_sees_65, e_Mod_sees_66, e_Mod_sees_69, e_Mod_sees_70, e_Mod_sees_73, alk_in, ask_in, blk_in, bsk_in, qlk_in, ack_in, rcv_in, rcA_in, bk_i, bk_l, bk_v, hS_same, hS_ne, hS_hS, hS_2, am_10, am_01, am_00, if_true, if_false, gf_12_0, pf_12_0, gf_12_1, pf_12_1, gf_12_2, pf_12_2, gf_12_3, pf_12_3, gf_12_4, pf_12_4, gf_12_5, pf_12_5, gf_12_6, pf_12_6, gf_12_7, pf_12_7, gf_12_8, pf_12_8, gf_12_9, pf_12_9, gf_12_10, pf_12_10, gf_12_11, pf_12_11, gf_12_12, pf_12_12, gf_12_13, pf_12_13, gf_12_14, pf_12_14, gf_12_15, pf_12_15, gf_12_16, pf_12_16, gf_12_17, pf_12_17, gf_12_18, pf_12_18, gf_12_19, pf_12_19, gf_12_20, pf_12_20, o, E0, c1, c2]
        rw [if_pos (by omega)]
    · simp only [p, if_false] at c2
      rw [if_neg (fun z => p z.2), if_neg (fun z => p z.1.2)]
      refine ⟨h, ?_, O', S, E', FE.rf⟩
      rw [ev_Mod_sees]
      simp (disch := omega) only [e_Mod_sees_0, e_Mod_sees_1, e_Mod_sees_2, e_Mod_sees_3, e_Mod_sees_6, e_Mod_sees_6b, e_Mod_sees_9, e_Mod_sees_10, e_Mod_sees_12, e_Mod_sees_13, e_Mod_sees_16, e_Mod_sees_16b, e_Mod_sees_19, e_Mod_sees_20, e_Mod_sees_21, e_Mod_sees_22, e_Mod_sees_25, e_Mod_sees_27, e_Mod_sees_30, e_Mod_sees_32, e_Mod_sees_33, e_Mod_sees_34, e_Mod_sees_37, e_Mod_sees_38, e_Mod_sees_39, e_Mod_sees_42, e_Mod_sees_43, e_Mod_sees_44, e_Mod_sees_45, e_Mod_sees_46, e_Mod_sees_49, e_Mod_sees_50, e_Mod_sees_51, e_Mod_sees_54, e_Mod_sees_55, e_Mod_sees_56, e_Mod_sees_57, e_Mod_sees_58, e_Mod_sees_59, e_Mod_sees_60, e_Mod_sees_61, e_Mod_sees_64, e_Mod_sees_65, e_Mod_sees_66, e_Mod_sees_69, e_Mod_sees_70, e_Mod_sees_73, alk_in, ask_in, blk_in, bsk_in, qlk_in, ack_in, rcv_in, rcA_in, bk_i, bk_l, bk_v, hS_same, hS_ne, hS_hS, hS_2, am_10, am_01, am_00, if_true, if_false, gf_12_0, pf_12_0, gf_12_1, pf_12_1, gf_12_2, pf_12_2, gf_12_3, pf_12_3, gf_12_4, pf_12_4, gf_12_5, pf_12_5, gf_12_6, pf_12_6, gf_12_7, pf_12_7, gf_12_8, pf_12_8, gf_12_9, pf_12_9, gf_12_10, pf_12_10, gf_12_11, pf_12_11, gf_12_12, pf_12_12, gf_12_13, pf_12_13, gf_12_14, pf_12_14, gf_12_15, pf_12_15, gf_12_16, pf_12_16, gf_12_17, pf_12_17, gf_12_18, pf_12_18, gf_12_19, pf_12_19, gf_12_20, pf_12_20, o, E0, c1, c2]
  · simp only [q, if_false] at c1
    rw [if_neg (fun z => q z.1), if_neg (fun z => q z.1.1)]
    refine ⟨h, ?_, O', S, E', FE.rf⟩
    rw [ev_Mod_sees]
    simp (disch := omega) only [e_Mod_sees_0, e_Mod_sees_1, e_Mod_sees_2, e_Mod_sees_3, e_Mod_sees_6, e_Mod_sees_6b, e_Mod_sees_9, e_Mod_sees_10, e_Mod_sees_12, e_Mod_sees_13, e_Mod_sees_16, e_Mod_sees_16b, e_Mod_sees_19, e_Mod_sees_20, e_Mod_sees_21, e_Mod_sees_22, e_Mod_sees_25, e_Mod_sees_27, e_Mod_sees_30, e_Mod_sees_32, e_Mod_sees_33, e_Mod_sees_34, e_Mod_sees_37, e_Mod_sees_38, e_Mod_sees_39, e_Mod_sees_42, e_Mod_sees_43, e_Mod_sees_44, e_Mod_sees_45, e_Mod_sees_46, e_Mod_sees_49, e_Mod_sees_50, e_Mod_sees_51, e_Mod_sees_54, e_Mod_sees_55, e_Mod_sees_56, e_Mod_sees_57, e_Mod_sees_58, e_Mod_sees_59, e_Mod_sees_60, e_Mod_sees_61, e_Mod_sees_64, e_Mod_sees_65, e_Mod_sees_66, e_Mod_sees_69, e_Mod_sees_70, e_Mod_sees_73, alk_in, ask_in, blk_in, bsk_in, qlk_in, ack_in, rcv_in, rcA_in, bk_i, bk_l, bk_v, hS_same, hS_ne, hS_hS, hS_2, am_10, am_01, am_00, if_true, if_false, gf_12_0, pf_12_0, gf_12_1, pf_12_1, gf_12_2, pf_12_2, gf_12_3, pf_12_3, gf_12_4, pf_12_4, gf_12_5, pf_12_5, gf_12_6, pf_12_6, gf_12_7, pf_12_7, gf_12_8, pf_12_8, gf_12_9, pf_12_9, gf_12_10, pf_12_10, gf_12_11, pf_12_11, gf_12_12, pf_12_12, gf_12_13, pf_12_13, gf_12_14, pf_12_14, gf_12_15, pf_12_15, gf_12_16, pf_12_16, gf_12_17, pf_12_17, gf_12_18, pf_12_18, gf_12_19, pf_12_19, gf_12_20, pf_12_20, o, E0, c1]
theorem q_forget (O : MO h tr L pc k) (S : RM h G T) (E : MNo h k s v) : ∃ h', ev mMod_forget [vR 120] h = some (some (vI (k : Int)), h') ∧ MO h' tr L pc 0 ∧ RM h' G T ∧ MNo h' 0 s v ∧ FE [120] h h' := by
  obtain ⟨x12, x13, x14, x15, o⟩ := O
  unfold MoA at o
  obtain ⟨N, E0, E1⟩ := E
  refine ⟨hS h 120 (cO 12 [vL tr, vR 121, vI L, vR 122, vR 123, vR 124, vR 125, vI pc, vR 126, vR 127, vR 128, vI 0, x12, x13, x14, x15, vR 129, vR 130, vR 131, vR 132, vR 133]), ?_, ⟨x12, x13, x14, x15, hS_same⟩, S.obj _ _ _ _ _ _ _ _, ⟨N, by rw [hS_ne (by decide)]; exact E0, fun j hj => by omega⟩, FE.st (by decide)⟩
  rw [ev_Mod_forget]
  simp (disch := omega) only [e_Mod_forget_0, e_Mod_forget_1, e_Mod_forget_4, e_Mod_forget_5, e_Mod_forget_6, e_Mod_forget_7, e_Mod_forget_10, e_Mod_forget_11, alk_in, ask_in, blk_in, bsk_in, qlk_in, ack_in, rcv_in, rcA_in, bk_i, bk_l, bk_v, hS_same, hS_ne, hS_hS, hS_2, am_10, am_01, am_00, if_true, if_false, gf_12_0, pf_12_0, gf_12_1, pf_12_1, gf_12_2, pf_12_2, gf_12_3, pf_12_3, gf_12_4, pf_12_4, gf_12_5, pf_12_5, gf_12_6, pf_12_6, gf_12_7, pf_12_7, gf_12_8, pf_12_8, gf_12_9, pf_12_9, gf_12_10, pf_12_10, gf_12_11, pf_12_11, gf_12_12, pf_12_12, gf_12_13, pf_12_13, gf_12_14, pf_12_14, gf_12_15, pf_12_15, gf_12_16, pf_12_16, gf_12_17, pf_12_17, gf_12_18, pf_12_18, gf_12_19, pf_12_19, gf_12_20, pf_12_20, o]
theorem lq_so (O : MO h tr L pc k) (E : MNo h k s v) (hw : WS k s v) {a : Nat} (ha : a < 4) {x1 : am_V} : ∀ (d i : Nat), i + d = k → gv mMod_hardsNow 14 [vR 120, x1, vI (a : Int), vI (if hso s v (a : Int) i then 1 else 0), vI (i : Int)] [] h = gv mMod_hardsNow 66 [vR 120, x1, vI (a : Int), vI (if hso s v (a : Int) k then 1 else 0), vI (k : Int)] [] h := by
  obtain ⟨x12, x13, x14, x15, o⟩ := O
  unfold MoA at o
  obtain ⟨N, E0, E1⟩ := E
  have hk := hw.1
  intro d
  induction d with
  | zero =>
    intro i hi
    have : i = k := by omega
    subst this
    rw [e_Mod_hardsNow_14]
    simp (disch := omega) only [e_Mod_hardsNow_16, e_Mod_hardsNow_17, e_Mod_hardsNow_20, alk_in, ask_in, blk_in, bsk_in, qlk_in, ack_in, rcv_in, rcA_in, bk_i, bk_l, bk_v, hS_same, hS_ne, hS_hS, hS_2, am_10, am_01, am_00, if_true, if_false, gf_12_0, pf_12_0, gf_12_1, pf_12_1, gf_12_2, pf_12_2, gf_12_3, pf_12_3, gf_12_4, pf_12_4, gf_12_5, pf_12_5, gf_12_6, pf_12_6, gf_12_7, pf_12_7, gf_12_8, pf_12_8, gf_12_9, pf_12_9, gf_12_10, pf_12_10, gf_12_11, pf_12_11, gf_12_12, pf_12_12, gf_12_13, pf_12_13, gf_12_14, pf_12_14, gf_12_15, pf_12_15, gf_12_16, pf_12_16, gf_12_17, pf_12_17, gf_12_18, pf_12_18, gf_12_19, pf_12_19, gf_12_20, pf_12_20, o]
    rw [if_neg (by omega)]
  | succ d ih =>
    intro i hi
    have hik : i < k := by omega
    have z := E1 i hik
    have w := hw.2 i hik
    have cf := c_puts (h := h) (a := (a : Int)) (s := s i) (by omega)
    have hf := fig_b (a := (a : Int)) (s := s i) (by omega)
    have e1 := ih (i + 1) (by omega)
    have e0 : hso s v (a : Int) (i + 1) = (hso s v (a : Int) i && decide (fig (a : Int) (s i) = v i)) := rfl
    rw [e_Mod_hardsNow_14, ← e1, e0]
    by_cases q : hso s v (a : Int) i = true
    · rw [q]
      simp (disch := omega) only [e_Mod_hardsNow_0, e_Mod_hardsNow_1, e_Mod_hardsNow_2, e_Mod_hardsNow_3, e_Mod_hardsNow_4, e_Mod_hardsNow_5, e_Mod_hardsNow_6, e_Mod_hardsNow_9, e_Mod_hardsNow_10, e_Mod_hardsNow_11, e_Mod_hardsNow_12, e_Mod_hardsNow_16, e_Mod_hardsNow_17, e_Mod_hardsNow_20, e_Mod_hardsNow_23, e_Mod_hardsNow_24, e_Mod_hardsNow_24b, e_Mod_hardsNow_27, e_Mod_hardsNow_28, e_Mod_hardsNow_29, e_Mod_hardsNow_32, e_Mod_hardsNow_33, e_Mod_hardsNow_35, e_Mod_hardsNow_36, e_Mod_hardsNow_37, e_Mod_hardsNow_40, e_Mod_hardsNow_41, e_Mod_hardsNow_44, e_Mod_hardsNow_45, e_Mod_hardsNow_47, e_Mod_hardsNow_48, e_Mod_hardsNow_49, e_Mod_hardsNow_50, e_Mod_hardsNow_51, e_Mod_hardsNow_54, e_Mod_hardsNow_55, e_Mod_hardsNow_58, e_Mod_hardsNow_59, e_Mod_hardsNow_60, e_Mod_hardsNow_63, e_Mod_hardsNow_67, e_Mod_hardsNow_68, e_Mod_hardsNow_68b, e_Mod_hardsNow_71, e_Mod_hardsNow_72, e_Mod_hardsNow_73, e_Mod_hardsNow_74, e_Mod_hardsNow_77, e_Mod_hardsNow_78, e_Mod_hardsNow_79, e_Mod_hardsNow_80, e_Mod_hardsNow_83, e_Mod_hardsNow_86, e_Mod_hardsNow_87, alk_in, ask_in, blk_in, bsk_in, qlk_in, ack_in, rcv_in, rcA_in, bk_i, bk_l, bk_v, hS_same, hS_ne, hS_hS, hS_2, am_10, am_01, am_00, if_true, if_false, gf_12_0, pf_12_0, gf_12_1, pf_12_1, gf_12_2, pf_12_2, gf_12_3, pf_12_3, gf_12_4, pf_12_4, gf_12_5, pf_12_5, gf_12_6, pf_12_6, gf_12_7, pf_12_7, gf_12_8, pf_12_8, gf_12_9, pf_12_9, gf_12_10, pf_12_10, gf_12_11, pf_12_11, gf_12_12, pf_12_12, gf_12_13, pf_12_13, gf_12_14, pf_12_14, gf_12_15, pf_12_15, gf_12_16, pf_12_16, gf_12_17, pf_12_17, gf_12_18, pf_12_18, gf_12_19, pf_12_19, gf_12_20, pf_12_20, o, E0, tn_2a, tn_2b, z.1, z.2, cf, Bool.true_and, decide_eq_true_eq]
      rw [if_pos (by omega)]
      by_cases y : fig (a : Int) (s i) = v i
      · rw [if_pos y, if_pos y]; rfl
      · rw [if_neg y, if_neg y]; rfl
    · simp only [Bool.not_eq_true] at q
      rw [q]
      simp (disch := omega) only [e_Mod_hardsNow_0, e_Mod_hardsNow_1, e_Mod_hardsNow_2, e_Mod_hardsNow_3, e_Mod_hardsNow_4, e_Mod_hardsNow_5, e_Mod_hardsNow_6, e_Mod_hardsNow_9, e_Mod_hardsNow_10, e_Mod_hardsNow_11, e_Mod_hardsNow_12, e_Mod_hardsNow_16, e_Mod_hardsNow_17, e_Mod_hardsNow_20, e_Mod_hardsNow_23, e_Mod_hardsNow_24, e_Mod_hardsNow_24b, e_Mod_hardsNow_27, e_Mod_hardsNow_28, e_Mod_hardsNow_29, e_Mod_hardsNow_32, e_Mod_hardsNow_33, e_Mod_hardsNow_35, e_Mod_hardsNow_36, e_Mod_hardsNow_37, e_Mod_hardsNow_40, e_Mod_hardsNow_41, e_Mod_hardsNow_44, e_Mod_hardsNow_45, e_Mod_hardsNow_47, e_Mod_hardsNow_48, e_Mod_hardsNow_49, e_Mod_hardsNow_50, e_Mod_hardsNow_51, e_Mod_hardsNow_54, e_Mod_hardsNow_55, e_Mod_hardsNow_58, e_Mod_hardsNow_59, e_Mod_hardsNow_60, e_Mod_hardsNow_63, e_Mod_hardsNow_67, e_Mod_hardsNow_68, e_Mod_hardsNow_68b, e_Mod_hardsNow_71, e_Mod_hardsNow_72, e_Mod_hardsNow_73, e_Mod_hardsNow_74, e_Mod_hardsNow_77, e_Mod_hardsNow_78, e_Mod_hardsNow_79, e_Mod_hardsNow_80, e_Mod_hardsNow_83, e_Mod_hardsNow_86, e_Mod_hardsNow_87, alk_in, ask_in, blk_in, bsk_in, qlk_in, ack_in, rcv_in, rcA_in, bk_i, bk_l, bk_v, hS_same, hS_ne, hS_hS, hS_2, am_10, am_01, am_00, if_true, if_false, gf_12_0, pf_12_0, gf_12_1, pf_12_1, gf_12_2, pf_12_2, gf_12_3, pf_12_3, gf_12_4, pf_12_4, gf_12_5, pf_12_5, gf_12_6, pf_12_6, gf_12_7, pf_12_7, gf_12_8, pf_12_8, gf_12_9, pf_12_9, gf_12_10, pf_12_10, gf_12_11, pf_12_11, gf_12_12, pf_12_12, gf_12_13, pf_12_13, gf_12_14, pf_12_14, gf_12_15, pf_12_15, gf_12_16, pf_12_16, gf_12_17, pf_12_17, gf_12_18, pf_12_18, gf_12_19, pf_12_19, gf_12_20, pf_12_20, o, Bool.false_and, Bool.false_eq_true]
      rw [if_pos (by omega)]; rfl
theorem lq_hards (O : MO h tr L pc k) (E : MNo h k s v) (hw : WS k s v) : ∀ (d a : Nat) (x3 x4 : am_V), a + d = 4 → gv mMod_hardsNow 4 [vR 120, vI ((hrd s v k a : Nat) : Int), vI (a : Int), x3, x4] [] h = some (some (vI ((hrd s v k 4 : Nat) : Int)), h) := by
  intro d
  induction d with
  | zero =>
    intro a x3 x4 ha
    have : a = 4 := by omega
    subst this
    rw [e_Mod_hardsNow_4]
    simp (disch := omega) only [e_Mod_hardsNow_0, e_Mod_hardsNow_1, e_Mod_hardsNow_2, e_Mod_hardsNow_3, e_Mod_hardsNow_5, e_Mod_hardsNow_6, e_Mod_hardsNow_9, e_Mod_hardsNow_10, e_Mod_hardsNow_11, e_Mod_hardsNow_12, e_Mod_hardsNow_16, e_Mod_hardsNow_17, e_Mod_hardsNow_20, e_Mod_hardsNow_23, e_Mod_hardsNow_24, e_Mod_hardsNow_24b, e_Mod_hardsNow_27, e_Mod_hardsNow_28, e_Mod_hardsNow_29, e_Mod_hardsNow_32, e_Mod_hardsNow_33, e_Mod_hardsNow_35, e_Mod_hardsNow_36, e_Mod_hardsNow_37, e_Mod_hardsNow_40, e_Mod_hardsNow_41, e_Mod_hardsNow_44, e_Mod_hardsNow_45, e_Mod_hardsNow_47, e_Mod_hardsNow_48, e_Mod_hardsNow_49, e_Mod_hardsNow_50, e_Mod_hardsNow_51, e_Mod_hardsNow_54, e_Mod_hardsNow_55, e_Mod_hardsNow_58, e_Mod_hardsNow_59, e_Mod_hardsNow_60, e_Mod_hardsNow_63, e_Mod_hardsNow_66, e_Mod_hardsNow_67, e_Mod_hardsNow_68, e_Mod_hardsNow_68b, e_Mod_hardsNow_71, e_Mod_hardsNow_72, e_Mod_hardsNow_73, e_Mod_hardsNow_74, e_Mod_hardsNow_77, e_Mod_hardsNow_78, e_Mod_hardsNow_79, e_Mod_hardsNow_80, e_Mod_hardsNow_83, e_Mod_hardsNow_86, e_Mod_hardsNow_87, alk_in, ask_in, blk_in, bsk_in, qlk_in, ack_in, rcv_in, rcA_in, bk_i, bk_l, bk_v, hS_same, hS_ne, hS_hS, hS_2, am_10, am_01, am_00, if_true, if_false]
    rw [if_neg (by omega)]
  | succ d ih =>
    intro a x3 x4 ha
    have e1 := ih (a + 1) (vI (if hso s v (a : Int) k then 1 else 0)) (vI (k : Int)) (by omega)
    have e2 := lq_so O E hw (a := a) (by omega) (x1 := vI ((hrd s v k a : Nat) : Int)) k 0 (by omega)
    have e3 : hso s v (a : Int) 0 = true := rfl
    rw [e3] at e2
    rw [e_Mod_hardsNow_4, ← e1]
    simp (disch := omega) only [e_Mod_hardsNow_5, e_Mod_hardsNow_6, e_Mod_hardsNow_9, e_Mod_hardsNow_10, e_Mod_hardsNow_11, e_Mod_hardsNow_12]
    rw [if_pos (by omega)]
    refine Eq.trans e2 ?_
    have j2 : jor ((hrd s v k a : Nat) : Int) 0 = ((hrd s v k a : Nat) : Int) := by
      have := jor_s _ (hrd_b s v k (a := a) (by omega)) 0 (by omega)
      rw [Nat.or_zero] at this
      exact this
    have e4 : hrd s v k (a + 1) = if hso s v (a : Int) k then hrd s v k a ||| 2 ^ a else hrd s v k a := rfl
    rw [e4]
    by_cases q : hso s v (a : Int) k = true
    · rw [q]
      simp (disch := omega) only [e_Mod_hardsNow_0, e_Mod_hardsNow_1, e_Mod_hardsNow_2, e_Mod_hardsNow_3, e_Mod_hardsNow_5, e_Mod_hardsNow_6, e_Mod_hardsNow_9, e_Mod_hardsNow_10, e_Mod_hardsNow_11, e_Mod_hardsNow_12, e_Mod_hardsNow_16, e_Mod_hardsNow_17, e_Mod_hardsNow_20, e_Mod_hardsNow_23, e_Mod_hardsNow_24, e_Mod_hardsNow_24b, e_Mod_hardsNow_27, e_Mod_hardsNow_28, e_Mod_hardsNow_29, e_Mod_hardsNow_32, e_Mod_hardsNow_33, e_Mod_hardsNow_35, e_Mod_hardsNow_36, e_Mod_hardsNow_37, e_Mod_hardsNow_40, e_Mod_hardsNow_41, e_Mod_hardsNow_44, e_Mod_hardsNow_45, e_Mod_hardsNow_47, e_Mod_hardsNow_48, e_Mod_hardsNow_49, e_Mod_hardsNow_50, e_Mod_hardsNow_51, e_Mod_hardsNow_54, e_Mod_hardsNow_55, e_Mod_hardsNow_58, e_Mod_hardsNow_59, e_Mod_hardsNow_60, e_Mod_hardsNow_63, e_Mod_hardsNow_66, e_Mod_hardsNow_67, e_Mod_hardsNow_68, e_Mod_hardsNow_68b, e_Mod_hardsNow_71, e_Mod_hardsNow_72, e_Mod_hardsNow_73, e_Mod_hardsNow_74, e_Mod_hardsNow_77, e_Mod_hardsNow_78, e_Mod_hardsNow_79, e_Mod_hardsNow_80, e_Mod_hardsNow_83, e_Mod_hardsNow_86, e_Mod_hardsNow_87, alk_in, ask_in, blk_in, bsk_in, qlk_in, ack_in, rcv_in, rcA_in, bk_i, bk_l, bk_v, hS_same, hS_ne, hS_hS, hS_2, am_10, am_01, am_00, if_true, if_false, jshl_s a (by omega), jor_s _ (hrd_b s v k (a := a) (by omega)) _ (pw_b (i := a) (by omega))]
      rfl
    · simp only [Bool.not_eq_true] at q
      rw [q]
      simp (disch := omega) only [e_Mod_hardsNow_0, e_Mod_hardsNow_1, e_Mod_hardsNow_2, e_Mod_hardsNow_3, e_Mod_hardsNow_5, e_Mod_hardsNow_6, e_Mod_hardsNow_9, e_Mod_hardsNow_10, e_Mod_hardsNow_11, e_Mod_hardsNow_12, e_Mod_hardsNow_16, e_Mod_hardsNow_17, e_Mod_hardsNow_20, e_Mod_hardsNow_23, e_Mod_hardsNow_24, e_Mod_hardsNow_24b, e_Mod_hardsNow_27, e_Mod_hardsNow_28, e_Mod_hardsNow_29, e_Mod_hardsNow_32, e_Mod_hardsNow_33, e_Mod_hardsNow_35, e_Mod_hardsNow_36, e_Mod_hardsNow_37, e_Mod_hardsNow_40, e_Mod_hardsNow_41, e_Mod_hardsNow_44, e_Mod_hardsNow_45, e_Mod_hardsNow_47, e_Mod_hardsNow_48, e_Mod_hardsNow_49, e_Mod_hardsNow_50, e_Mod_hardsNow_51, e_Mod_hardsNow_54, e_Mod_hardsNow_55, e_Mod_hardsNow_58, e_Mod_hardsNow_59, e_Mod_hardsNow_60, e_Mod_hardsNow_63, e_Mod_hardsNow_66, e_Mod_hardsNow_67, e_Mod_hardsNow_68, e_Mod_hardsNow_68b, e_Mod_hardsNow_71, e_Mod_hardsNow_72, e_Mod_hardsNow_73, e_Mod_hardsNow_74, e_Mod_hardsNow_77, e_Mod_hardsNow_78, e_Mod_hardsNow_79, e_Mod_hardsNow_80, e_Mod_hardsNow_83, e_Mod_hardsNow_86, e_Mod_hardsNow_87, alk_in, ask_in, blk_in, bsk_in, qlk_in, ack_in, rcv_in, rcA_in, bk_i, bk_l, bk_v, hS_same, hS_ne, hS_hS, hS_2, am_10, am_01, am_00, if_true, if_false, j2, Bool.false_eq_true]
      rfl
theorem q_hardsNow (O : MO h tr L pc k) (E : MNo h k s v) (hw : WS k s v) : ev mMod_hardsNow [vR 120] h = some (some (vI ((hrd s v k 4 : Nat) : Int)), h) := by
  rw [ev_Mod_hardsNow, e_Mod_hardsNow_0, e_Mod_hardsNow_1, e_Mod_hardsNow_2, e_Mod_hardsNow_3]
  exact lq_hards O E hw 4 0 vU vU (by omega)
theorem q_hards (O : MO h tr L pc k) (E : MNo h k s v) (hw : WS k s v) : ev mMod_hards [vR 120] h = some (some (vI ((hrd s v k 4 : Nat) : Int)), h) := by
  have c1 := q_hardsNow O E hw
  obtain ⟨x12, x13, x14, x15, o⟩ := O
  unfold MoA at o
  rw [ev_Mod_hards]
  simp (disch := omega) only [e_Mod_hards_0, e_Mod_hards_1, e_Mod_hards_4, alk_in, ask_in, blk_in, bsk_in, qlk_in, ack_in, rcv_in, rcA_in, bk_i, bk_l, bk_v, hS_same, hS_ne, hS_hS, hS_2, am_10, am_01, am_00, if_true, if_false, o, c1]
theorem lq_n3 {b : Nat} (hb : b < 64) {sd : Nat} (hs : sd < 5) {x2 x3 x5 : am_V} {j : Nat} (hj : j < 8) : ∀ (d a : Nat), a + d = 4 → gv mMod_next 47 [vR 120, vI (b : Int), x2, x3, vI (sd : Int), x5, vI ((j : Int) - 3), vI (cntA b (sd : Int) ((j : Int) - 3) a), vI (a : Int)] [] h = gv mMod_next 91 [vR 120, vI (b : Int), x2, x3, vI (sd : Int), x5, vI ((j : Int) - 3), vI (cntA b (sd : Int) ((j : Int) - 3) 4), vI 4] [] h := by
  intro d
  induction d with
  | zero =>
    intro a ha
    have : a = 4 := by omega
    subst this
    rw [e_Mod_next_47]
    simp (disch := omega) only [e_Mod_next_49, e_Mod_next_50]
    rw [if_neg (by omega)]
    rfl
  | succ d ih =>
    intro a ha
    have e1 := ih (a + 1) (by omega)
    have cf := c_puts (h := h) (a := (a : Int)) (s := (sd : Int)) (by omega)
    have hf := fig_b (a := (a : Int)) (s := (sd : Int)) (by omega)
    have jb := jbit_s b hb a (by omega)
    have e0 : cntA b (sd : Int) ((j : Int) - 3) (a + 1) = cntA b (sd : Int) ((j : Int) - 3) a + if b.testBit a = true ∧ fig (a : Int) (sd : Int) = (j : Int) - 3 then 1 else 0 := rfl
    rw [e_Mod_next_47, ← e1, e0]
    by_cases q : b.testBit a = true
    · rw [q] at jb
      simp (disch := omega) only [e_Mod_next_0, e_Mod_next_1, e_Mod_next_4, e_Mod_next_5, e_Mod_next_7, e_Mod_next_8, e_Mod_next_10, e_Mod_next_11, e_Mod_next_12, e_Mod_next_16, e_Mod_next_17, e_Mod_next_20, e_Mod_next_21, e_Mod_next_22, e_Mod_next_23, e_Mod_next_24, e_Mod_next_25, e_Mod_next_25b, e_Mod_next_28, e_Mod_next_29, e_Mod_next_31, e_Mod_next_33, e_Mod_next_37, e_Mod_next_38, e_Mod_next_41, e_Mod_next_42, e_Mod_next_44, e_Mod_next_45, e_Mod_next_49, e_Mod_next_50, e_Mod_next_53, e_Mod_next_55, e_Mod_next_56, e_Mod_next_58, e_Mod_next_59, e_Mod_next_60, e_Mod_next_61, e_Mod_next_62, e_Mod_next_65, e_Mod_next_67, e_Mod_next_69, e_Mod_next_72, e_Mod_next_74, e_Mod_next_77, e_Mod_next_78, e_Mod_next_81, e_Mod_next_82, e_Mod_next_83, e_Mod_next_85, e_Mod_next_88, e_Mod_next_93, e_Mod_next_95, e_Mod_next_98, e_Mod_next_100, e_Mod_next_103, e_Mod_next_105, e_Mod_next_107, e_Mod_next_110, e_Mod_next_113, e_Mod_next_115, e_Mod_next_116, e_Mod_next_119, e_Mod_next_121, e_Mod_next_124, e_Mod_next_125, e_Mod_next_126, e_Mod_next_128, e_Mod_next_129, e_Mod_next_132, e_Mod_next_134, e_Mod_next_137, e_Mod_next_138, e_Mod_next_139, e_Mod_next_142, e_Mod_next_145, e_Mod_next_146, alk_in, ask_in, blk_in, bsk_in, qlk_in, ack_in, rcv_in, rcA_in, bk_i, bk_l, bk_v, hS_same, hS_ne, hS_hS, hS_2, am_10, am_01, am_00, if_true, if_false, jb, cf]
      rw [if_pos (by omega)]
      by_cases z : fig (a : Int) (sd : Int) = (j : Int) - 3
      · rw [if_pos z, if_pos ⟨q, z⟩]; rfl
      · rw [if_neg z, if_neg (fun y => z y.2)]; rfl
    · simp only [Bool.not_eq_true] at q
      rw [q] at jb
      simp (disch := omega) only [e_Mod_next_0, e_Mod_next_1, e_Mod_next_4, e_Mod_next_5, e_Mod_next_7, e_Mod_next_8, e_Mod_next_10, e_Mod_next_11, e_Mod_next_12, e_Mod_next_16, e_Mod_next_17, e_Mod_next_20, e_Mod_next_21, e_Mod_next_22, e_Mod_next_23, e_Mod_next_24, e_Mod_next_25, e_Mod_next_25b, e_Mod_next_28, e_Mod_next_29, e_Mod_next_31, e_Mod_next_33, e_Mod_next_37, e_Mod_next_38, e_Mod_next_41, e_Mod_next_42, e_Mod_next_44, e_Mod_next_45, e_Mod_next_49, e_Mod_next_50, e_Mod_next_53, e_Mod_next_55, e_Mod_next_56, e_Mod_next_58, e_Mod_next_59, e_Mod_next_60, e_Mod_next_61, e_Mod_next_62, e_Mod_next_65, e_Mod_next_67, e_Mod_next_69, e_Mod_next_72, e_Mod_next_74, e_Mod_next_77, e_Mod_next_78, e_Mod_next_81, e_Mod_next_82, e_Mod_next_83, e_Mod_next_85, e_Mod_next_88, e_Mod_next_93, e_Mod_next_95, e_Mod_next_98, e_Mod_next_100, e_Mod_next_103, e_Mod_next_105, e_Mod_next_107, e_Mod_next_110, e_Mod_next_113, e_Mod_next_115, e_Mod_next_116, e_Mod_next_119, e_Mod_next_121, e_Mod_next_124, e_Mod_next_125, e_Mod_next_126, e_Mod_next_128, e_Mod_next_129, e_Mod_next_132, e_Mod_next_134, e_Mod_next_137, e_Mod_next_138, e_Mod_next_139, e_Mod_next_142, e_Mod_next_145, e_Mod_next_146, alk_in, ask_in, blk_in, bsk_in, qlk_in, ack_in, rcv_in, rcA_in, bk_i, bk_l, bk_v, hS_same, hS_ne, hS_hS, hS_2, am_10, am_01, am_00, if_true, if_false, jb, Bool.false_eq_true]
      rw [if_pos (by omega), if_neg (by rw [q]; simp)]; rfl
theorem lq_n2 {b : Nat} (hb : b < 64) {sd : Nat} (hs : sd < 5) {x2 x3 : am_V} : ∀ (d j : Nat) (x7 x8 : am_V), j + d = 8 → ∃ y7 y8, gv mMod_next 35 [vR 120, vI (b : Int), x2, x3, vI (sd : Int), vI (gre b (sd : Int) j), vI ((j : Int) - 3), x7, x8] [] h = gv mMod_next 113 [vR 120, vI (b : Int), x2, x3, vI (sd : Int), vI (gre b (sd : Int) 8), vI 5, y7, y8] [] h := by
  intro d
  induction d with
  | zero =>
    intro j x7 x8 hj
    have : j = 8 := by omega
    subst this
    refine ⟨x7, x8, ?_⟩
    rw [e_Mod_next_35]
    simp (disch := omega) only [e_Mod_next_37, e_Mod_next_38]
    rw [if_neg (by omega)]
    rfl
  | succ d ih =>
    intro j x7 x8 hj
    obtain ⟨y7, y8, e1⟩ := ih (j + 1) (vI (cntA b (sd : Int) ((j : Int) - 3) 4)) (vI 4) (by omega)
    refine ⟨y7, y8, ?_⟩
    have e2 := lq_n3 (h := h) hb hs (x2 := x2) (x3 := x3) (x5 := vI (gre b (sd : Int) j)) (j := j) (by omega) 4 0 (by omega)
    have hg := gre_b b (sd : Int) j
    have hcb := cntA_b b (sd : Int) ((j : Int) - 3) 4
    rw [e_Mod_next_35, ← e1]
    simp (disch := omega) only [e_Mod_next_37, e_Mod_next_38, e_Mod_next_41, e_Mod_next_42, e_Mod_next_44, e_Mod_next_45]
    rw [if_pos (by omega)]
    refine Eq.trans e2 ?_
    have e0 : gre b (sd : Int) (j + 1) = if gre b (sd : Int) j < cntA b (sd : Int) ((j : Int) - 3) 4 then cntA b (sd : Int) ((j : Int) - 3) 4 else gre b (sd : Int) j := rfl
    have e3 : (j : Int) - 3 + 1 = ((j + 1 : Nat) : Int) - 3 := by omega
    simp (disch := omega) only [e_Mod_next_0, e_Mod_next_1, e_Mod_next_4, e_Mod_next_5, e_Mod_next_7, e_Mod_next_8, e_Mod_next_10, e_Mod_next_11, e_Mod_next_12, e_Mod_next_16, e_Mod_next_17, e_Mod_next_20, e_Mod_next_21, e_Mod_next_22, e_Mod_next_23, e_Mod_next_24, e_Mod_next_25, e_Mod_next_25b, e_Mod_next_28, e_Mod_next_29, e_Mod_next_31, e_Mod_next_33, e_Mod_next_37, e_Mod_next_38, e_Mod_next_41, e_Mod_next_42, e_Mod_next_44, e_Mod_next_45, e_Mod_next_49, e_Mod_next_50, e_Mod_next_53, e_Mod_next_55, e_Mod_next_56, e_Mod_next_58, e_Mod_next_59, e_Mod_next_60, e_Mod_next_61, e_Mod_next_62, e_Mod_next_65, e_Mod_next_67, e_Mod_next_69, e_Mod_next_72, e_Mod_next_74, e_Mod_next_77, e_Mod_next_78, e_Mod_next_81, e_Mod_next_82, e_Mod_next_83, e_Mod_next_85, e_Mod_next_88, e_Mod_next_91, e_Mod_next_93, e_Mod_next_95, e_Mod_next_98, e_Mod_next_100, e_Mod_next_103, e_Mod_next_105, e_Mod_next_107, e_Mod_next_110, e_Mod_next_113, e_Mod_next_115, e_Mod_next_116, e_Mod_next_119, e_Mod_next_121, e_Mod_next_124, e_Mod_next_125, e_Mod_next_126, e_Mod_next_128, e_Mod_next_129, e_Mod_next_132, e_Mod_next_134, e_Mod_next_137, e_Mod_next_138, e_Mod_next_139, e_Mod_next_142, e_Mod_next_145, e_Mod_next_146, alk_in, ask_in, blk_in, bsk_in, qlk_in, ack_in, rcv_in, rcA_in, bk_i, bk_l, bk_v, hS_same, hS_ne, hS_hS, hS_2, am_10, am_01, am_00, if_true, if_false, e3]
    rw [e0]
    by_cases z : gre b (sd : Int) j < cntA b (sd : Int) ((j : Int) - 3) 4
    · rw [if_pos z, if_pos z]
    · rw [if_neg z, if_neg z]
theorem lq_n1 {b : Nat} (hb : b < 64) (hj : ¬ jand ((b : Nat) : Int) (((b : Nat) : Int) - 1) = 0) : ∀ (d k : Nat) (x5 x6 x7 x8 : am_V), k + d = 5 → gv mMod_next 14 [vR 120, vI (b : Int), vI (trM b k).1, vI (trM b k).2, vI (k : Int), x5, x6, x7, x8] [] h = some (some (vI (trM b 5).1), h) := by
  intro d
  induction d with
  | zero =>
    intro k x5 x6 x7 x8 hk
    have : k = 5 := by omega
    subst this
    rw [e_Mod_next_14]
    simp (disch := omega) only [e_Mod_next_16, e_Mod_next_17, e_Mod_next_145, e_Mod_next_146]
    rw [if_pos (by omega)]
  | succ d ih =>
    intro k x5 x6 x7 x8 hk
    obtain ⟨y7, y8, e2⟩ := lq_n2 (h := h) hb (sd := k) (by omega) (x2 := vI (trM b k).1) (x3 := vI (trM b k).2) 8 0 x7 x8 (by omega)
    have e1 := ih (k + 1) (vI (gre b (k : Int) 8)) (vI 5) y7 y8 (by omega)
    have hg := gre_b b (k : Int) 8
    have ht := trM_b b k
    have hr := am_r32 (Int32.ofInt ((b : Nat) : Int) &&& Int32.ofInt (((b : Nat) : Int) - 1))
    have hr2 : -2147483648 ≤ jand ((b : Nat) : Int) (((b : Nat) : Int) - 1) ∧ jand ((b : Nat) : Int) (((b : Nat) : Int) - 1) < 2147483648 := hr
    rw [e_Mod_next_14, ← e1]
    simp (disch := omega) only [e_Mod_next_0, e_Mod_next_1, e_Mod_next_4, e_Mod_next_5, e_Mod_next_7, e_Mod_next_8, e_Mod_next_10, e_Mod_next_11, e_Mod_next_12, e_Mod_next_16, e_Mod_next_17, e_Mod_next_20, e_Mod_next_21, e_Mod_next_22, e_Mod_next_23, e_Mod_next_24, e_Mod_next_25, e_Mod_next_25b, e_Mod_next_28, e_Mod_next_29, e_Mod_next_31, e_Mod_next_33, e_Mod_next_37, e_Mod_next_38, e_Mod_next_41, e_Mod_next_42, e_Mod_next_44, e_Mod_next_45, e_Mod_next_49, e_Mod_next_50, e_Mod_next_53, e_Mod_next_55, e_Mod_next_56, e_Mod_next_58, e_Mod_next_59, e_Mod_next_60, e_Mod_next_61, e_Mod_next_62, e_Mod_next_65, e_Mod_next_67, e_Mod_next_69, e_Mod_next_72, e_Mod_next_74, e_Mod_next_77, e_Mod_next_78, e_Mod_next_81, e_Mod_next_82, e_Mod_next_83, e_Mod_next_85, e_Mod_next_88, e_Mod_next_91, e_Mod_next_93, e_Mod_next_95, e_Mod_next_98, e_Mod_next_100, e_Mod_next_103, e_Mod_next_105, e_Mod_next_107, e_Mod_next_110, e_Mod_next_113, e_Mod_next_115, e_Mod_next_116, e_Mod_next_119, e_Mod_next_121, e_Mod_next_124, e_Mod_next_125, e_Mod_next_126, e_Mod_next_128, e_Mod_next_129, e_Mod_next_132, e_Mod_next_134, e_Mod_next_137, e_Mod_next_138, e_Mod_next_139, e_Mod_next_142, e_Mod_next_145, e_Mod_next_146]
    rw [if_neg (by omega), if_neg hj]
    refine Eq.trans e2 ?_
    have e0 : trM b (k + 1) = if gre b (k : Int) 8 < (trM b k).2 then ((k : Int), gre b (k : Int) 8) else trM b k := rfl
    simp (disch := omega) only [e_Mod_next_0, e_Mod_next_1, e_Mod_next_4, e_Mod_next_5, e_Mod_next_7, e_Mod_next_8, e_Mod_next_10, e_Mod_next_11, e_Mod_next_12, e_Mod_next_16, e_Mod_next_17, e_Mod_next_20, e_Mod_next_21, e_Mod_next_22, e_Mod_next_23, e_Mod_next_24, e_Mod_next_25, e_Mod_next_25b, e_Mod_next_28, e_Mod_next_29, e_Mod_next_31, e_Mod_next_33, e_Mod_next_37, e_Mod_next_38, e_Mod_next_41, e_Mod_next_42, e_Mod_next_44, e_Mod_next_45, e_Mod_next_49, e_Mod_next_50, e_Mod_next_53, e_Mod_next_55, e_Mod_next_56, e_Mod_next_58, e_Mod_next_59, e_Mod_next_60, e_Mod_next_61, e_Mod_next_62, e_Mod_next_65, e_Mod_next_67, e_Mod_next_69, e_Mod_next_72, e_Mod_next_74, e_Mod_next_77, e_Mod_next_78, e_Mod_next_81, e_Mod_next_82, e_Mod_next_83, e_Mod_next_85, e_Mod_next_88, e_Mod_next_91, e_Mod_next_93, e_Mod_next_95, e_Mod_next_98, e_Mod_next_100, e_Mod_next_103, e_Mod_next_105, e_Mod_next_107, e_Mod_next_110, e_Mod_next_113, e_Mod_next_115, e_Mod_next_116, e_Mod_next_119, e_Mod_next_121, e_Mod_next_124, e_Mod_next_125, e_Mod_next_126, e_Mod_next_128, e_Mod_next_129, e_Mod_next_132, e_Mod_next_134, e_Mod_next_137, e_Mod_next_138, e_Mod_next_139, e_Mod_next_142, e_Mod_next_145, e_Mod_next_146]
    rw [e0]
    by_cases z : gre b (k : Int) 8 < (trM b k).2
    · rw [if_pos z, if_pos z, if_pos z]; rfl
    · rw [if_neg z, if_neg z, if_neg z]; rfl
theorem q_next (O : MO h tr L pc k) (E : MNo h k s v) (hw : WS k s v) : ev mMod_next [vR 120] h = some (some (vI (aNext (hrd s v k 4))), h) := by
  have c1 := q_hardsNow O E hw
  have hb4 := hrd_4 s v k
  rw [← aNext_m _ hb4]
  generalize hrd s v k 4 = b at hb4 c1
  have hb : b < 64 := by omega
  obtain ⟨x12, x13, x14, x15, o⟩ := O
  unfold MoA at o
  have hr2 : -2147483648 ≤ jand ((b : Nat) : Int) (((b : Nat) : Int) - 1) ∧ jand ((b : Nat) : Int) (((b : Nat) : Int) - 1) < 2147483648 := am_r32 _
  rw [ev_Mod_next]
  simp (disch := omega) only [e_Mod_next_0, e_Mod_next_1, e_Mod_next_4, e_Mod_next_5, e_Mod_next_7, e_Mod_next_8, e_Mod_next_10, e_Mod_next_11, e_Mod_next_12, alk_in, ask_in, blk_in, bsk_in, qlk_in, ack_in, rcv_in, rcA_in, bk_i, bk_l, bk_v, hS_same, hS_ne, hS_hS, hS_2, am_10, am_01, am_00, if_true, if_false, o, c1]
  by_cases q : jand ((b : Nat) : Int) (((b : Nat) : Int) - 1) = 0
  · rw [if_pos q, e_Mod_next_14]
    simp (disch := omega) only [e_Mod_next_0, e_Mod_next_1, e_Mod_next_4, e_Mod_next_5, e_Mod_next_7, e_Mod_next_8, e_Mod_next_10, e_Mod_next_11, e_Mod_next_12, e_Mod_next_16, e_Mod_next_17, e_Mod_next_20, e_Mod_next_21, e_Mod_next_22, e_Mod_next_23, e_Mod_next_24, e_Mod_next_25, e_Mod_next_25b, e_Mod_next_28, e_Mod_next_29, e_Mod_next_31, e_Mod_next_33, e_Mod_next_37, e_Mod_next_38, e_Mod_next_41, e_Mod_next_42, e_Mod_next_44, e_Mod_next_45, e_Mod_next_49, e_Mod_next_50, e_Mod_next_53, e_Mod_next_55, e_Mod_next_56, e_Mod_next_58, e_Mod_next_59, e_Mod_next_60, e_Mod_next_61, e_Mod_next_62, e_Mod_next_65, e_Mod_next_67, e_Mod_next_69, e_Mod_next_72, e_Mod_next_74, e_Mod_next_77, e_Mod_next_78, e_Mod_next_81, e_Mod_next_82, e_Mod_next_83, e_Mod_next_85, e_Mod_next_88, e_Mod_next_91, e_Mod_next_93, e_Mod_next_95, e_Mod_next_98, e_Mod_next_100, e_Mod_next_103, e_Mod_next_105, e_Mod_next_107, e_Mod_next_110, e_Mod_next_113, e_Mod_next_115, e_Mod_next_116, e_Mod_next_119, e_Mod_next_121, e_Mod_next_124, e_Mod_next_125, e_Mod_next_126, e_Mod_next_128, e_Mod_next_129, e_Mod_next_132, e_Mod_next_134, e_Mod_next_137, e_Mod_next_138, e_Mod_next_139, e_Mod_next_142, e_Mod_next_145, e_Mod_next_146]
    rw [if_neg (by omega), if_pos q]
  · rw [if_neg q]
    exact lq_n1 hb q 5 0 vU vU vU vU (by omega)
end ModSeen
