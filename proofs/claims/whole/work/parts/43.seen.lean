/-! sees, forget, hards, next: class and model -/
/-- is h the hard by the first k that were seen -/
def hso (s v : Nat → Int) (a : Int) (k : Nat) : Bool := match k with
  | 0 => true
  | k + 1 => hso s v a k && decide (fig a (s k) = v k)
/-- the hards among the first a, as bits -/
def hrd (s v : Nat → Int) (k : Nat) (a : Nat) : Nat := match a with
  | 0 => 0
  | a + 1 => if hso s v (a : Int) k then hrd s v k a ||| 2 ^ a else hrd s v k a
theorem hrd_b (s v : Nat → Int) (k : Nat) {a : Nat} (h : a ≤ 6) : hrd s v k a < 64 := by
  induction a with
  | zero => exact Nat.zero_lt_succ _
  | succ a ih =>
    unfold hrd
    split
    · exact or_b (ih (by omega)) (pw_b (by omega))
    · exact ih (by omega)
theorem hrd_4 (s v : Nat → Int) (k : Nat) : hrd s v k 4 < 16 := by
  have key : ∀ a, a ≤ 4 → hrd s v k a < 2 ^ a := by
    intro a
    induction a with
    | zero => intro _; exact Nat.zero_lt_succ _
    | succ a ih =>
      intro ha
      have := ih (by omega)
      unfold hrd
      split
      · refine Nat.or_lt_two_pow (Nat.lt_of_lt_of_le this (Nat.pow_le_pow_right (by decide) (by omega))) (Nat.pow_lt_pow_right (by decide) (by omega))
      · exact Nat.lt_of_lt_of_le this (Nat.pow_le_pow_right (by decide) (by omega))
  exact key 4 (Nat.le_refl 4)
/-- what was seen is of the kinds that may be told -/
def WS (k : Nat) (s v : Nat → Int) : Prop := k ≤ 6 ∧ ∀ j, j < k → (0 ≤ s j ∧ s j ≤ 4) ∧ -3 ≤ v j ∧ v j ≤ 4
def aSees (k : Nat) (x y : Int) : Int := if (0 ≤ x ∧ x ≤ 4) ∧ -3 ≤ y ∧ y ≤ 4 then (if 6 ≤ k then -3 else (k : Int) + 1) else -1
def nSees (k : Nat) (s v : Nat → Int) (x y : Int) : Nat × (Nat → Int) × (Nat → Int) := if ((0 ≤ x ∧ x ≤ 4) ∧ -3 ≤ y ∧ y ≤ 4) ∧ k < 6 then (k + 1, fun j => if j = k then x else s j, fun j => if j = k then y else v j) else (k, s, v)
theorem k_isSound {h : am_H} {x : Int} (hx : rg32 x) : ev mCell_isSound [vI x] h = some (some (vI (if 0 ≤ x ∧ x ≤ 4 then 1 else 0)), h) := by
  unfold rg32 at hx
  rw [ev_Cell_isSound]
  simp (disch := omega) only [e_Cell_isSound_0, e_Cell_isSound_1, e_Cell_isSound_4, e_Cell_isSound_5, e_Cell_isSound_6, e_Cell_isSound_9, e_Cell_isSound_10, e_Cell_isSound_13, e_Cell_isSound_14]
  by_cases h1 : x < 0 <;> by_cases h2 : x < 5 <;> simp [h1, h2] <;> omega
section Seen
variable {h : am_H} {lo pc : Int} {k : Nat} {s v : Nat → Int}
theorem k_sees (O : CeO h lo pc) (E : CSe h k s v) (hw : WS k s v) {x y : Int} (hx : rg32 x) (hy : rg32 y) : ∃ h', ev mCell_sees [vR 1, vI x, vI y] h = some (some (vI (aSees k x y)), h') ∧ CSe h' (nSees k s v x y).1 (nSees k s v x y).2.1 (nSees k s v x y).2.2 ∧ Fr 25 28 h h' := by
  unfold CeO at O
  have E' := E
  obtain ⟨s', v', E0, E1, E2, E3⟩ := E
  have c1 := k_isSound (h := h) hx
  unfold rg32 at hx hy
  have hk := hw.1
  unfold aSees nSees
  by_cases q : 0 ≤ x ∧ x ≤ 4
  · simp only [q, and_self, if_true] at c1
    by_cases p : -3 ≤ y ∧ y ≤ 4
    · by_cases r : k < 6
      · rw [if_pos ⟨q, p⟩, if_neg (by omega), if_pos ⟨⟨q, p⟩, r⟩]
        have e1 : ev mSeen_add [vR 25, vI x, vI y] h = some (none, hS (hS (hS h 26 (cI 0 6 (fun j => if j = k then x else s' j))) 27 (cI 0 6 (fun j => if j = k then y else v' j))) 25 (cO 6 [vI ((k : Int) + 1), vR 26, vR 27])) := by
          rw [ev_Seen_add]
          simp (disch := omega) only [e_Seen_add_0, e_Seen_add_1, e_Seen_add_4, e_Seen_add_6, e_Seen_add_9, e_Seen_add_10, e_Seen_add_13, e_Seen_add_14, e_Seen_add_17, e_Seen_add_18, e_Seen_add_19, e_Seen_add_20, e_Seen_add_23, e_Seen_add_24, e_Seen_add_27, e_Seen_add_28, e_Seen_add_29, e_Seen_add_30, e_Seen_add_31, e_Seen_add_34, e_Seen_add_35, e_Seen_add_36, e_Seen_add_39, alk_in, ask_in, blk_in, bsk_in, qlk_in, ack_in, rcv_in, rcA_in, bk_i, bk_l, bk_v, hS_same, hS_ne, hS_hS, hS_2, am_10, am_01, am_00, if_true, if_false, gf_6_0, pf_6_0, gf_6_1, pf_6_1, gf_6_2, pf_6_2, E0, E1, E2, Int.toNat_natCast]
          rw [if_pos (by omega)]
        refine ⟨hS (hS (hS h 26 (cI 0 6 (fun j => if j = k then x else s' j))) 27 (cI 0 6 (fun j => if j = k then y else v' j))) 25 (cO 6 [vI ((k : Int) + 1), vR 26, vR 27]), ?_, ⟨fun j => if j = k then x else s' j, fun j => if j = k then y else v' j, hS_same, by simp (disch := omega) only [hS_ne, hS_same], by simp (disch := omega) only [hS_ne, hS_same], fun j hj => ?_⟩, ((Fr.st (by omega)).tr (Fr.st (by omega))).tr (Fr.st (by omega))⟩
        · rw [ev_Cell_sees]
          simp (disch := omega) only [e_Cell_sees_0, e_Cell_sees_1, e_Cell_sees_4, e_Cell_sees_4b, e_Cell_sees_7, e_Cell_sees_8, e_Cell_sees_10, e_Cell_sees_13, e_Cell_sees_14, e_Cell_sees_15, e_Cell_sees_18, e_Cell_sees_19, e_Cell_sees_20, e_Cell_sees_21, e_Cell_sees_24, e_Cell_sees_27, e_Cell_sees_29, e_Cell_sees_32, e_Cell_sees_34, e_Cell_sees_35, e_Cell_sees_36, e_Cell_sees_39, e_Cell_sees_40, e_Cell_sees_41, e_Cell_sees_44, e_Cell_sees_45, e_Cell_sees_48, e_Cell_sees_51, alk_in, ask_in, blk_in, bsk_in, qlk_in, ack_in, rcv_in, rcA_in, bk_i, bk_l, bk_v, hS_same, hS_ne, hS_hS, hS_2, am_10, am_01, am_00, if_true, if_false, gf_6_0, pf_6_0, gf_6_1, pf_6_1, gf_6_2, pf_6_2, gf_11_0, pf_11_0, gf_11_1, pf_11_1, gf_11_2, pf_11_2, gf_11_3, pf_11_3, gf_11_4, pf_11_4, gf_11_5, pf_11_5, gf_11_6, pf_11_6, gf_11_7, pf_11_7, gf_11_8, pf_11_8, gf_11_9, pf_11_9, gf_11_10, pf_11_10, gf_11_11, pf_11_11, O, E0, c1, e1]
          rw [if_neg (by omega), if_neg (by omega), if_pos (by omega)]
        · show (if j = k then x else s' j) = (if j = k then x else s j) ∧ (if j = k then y else v' j) = (if j = k then y else v j)
          by_cases z : j = k
          · simp [z]
          · have w := E3 j (by simp only at hj; omega)
            rw [if_neg z, if_neg z, if_neg z, if_neg z]; exact w
      · rw [if_pos ⟨q, p⟩, if_pos (by omega), if_neg (fun z => r z.2)]
        refine ⟨h, ?_, E', Fr.rf⟩
        rw [ev_Cell_sees]
        simp (disch := omega) only [e_Cell_sees_0, e_Cell_sees_1, e_Cell_sees_4, e_Cell_sees_4b, e_Cell_sees_7, e_Cell_sees_8, e_Cell_sees_10, e_Cell_sees_13, e_Cell_sees_14, e_Cell_sees_15, e_Cell_sees_18, e_Cell_sees_19, e_Cell_sees_20, e_Cell_sees_21, e_Cell_sees_24, e_Cell_sees_27, e_Cell_sees_29, e_Cell_sees_32, e_Cell_sees_34, e_Cell_sees_35, e_Cell_sees_36, e_Cell_sees_39, e_Cell_sees_40, e_Cell_sees_41, e_Cell_sees_44, e_Cell_sees_45, e_Cell_sees_48, e_Cell_sees_51, alk_in, ask_in, blk_in, bsk_in, qlk_in, ack_in, rcv_in, rcA_in, bk_i, bk_l, bk_v, hS_same, hS_ne, hS_hS, hS_2, am_10, am_01, am_00, if_true, if_false, gf_6_0, pf_6_0, gf_6_1, pf_6_1, gf_6_2, pf_6_2, gf_11_0, pf_11_0, gf_11_1, pf_11_1, gf_11_2, pf_11_2, gf_11_3, pf_11_3, gf_11_4, pf_11_4, gf_11_5, pf_11_5, gf_11_6, pf_11_6, gf_11_7, pf_11_7, gf_11_8, pf_11_8, gf_11_9, pf_11_9, gf_11_10, pf_11_10, gf_11_11, pf_11_11, O, E0, c1]
        rw [if_neg (by omega), if_neg (by omega), if_neg (by omega)]
    · rw [if_neg (fun z => p z.2), if_neg (fun z => p z.1.2)]
      refine ⟨h, ?_, E', Fr.rf⟩
      rw [ev_Cell_sees]
      simp (disch := omega) only [e_Cell_sees_0, e_Cell_sees_1, e_Cell_sees_4, e_Cell_sees_4b, e_Cell_sees_7, e_Cell_sees_8, e_Cell_sees_10, e_Cell_sees_13, e_Cell_sees_14, e_Cell_sees_15, e_Cell_sees_18, e_Cell_sees_19, e_Cell_sees_20, e_Cell_sees_21, e_Cell_sees_24, e_Cell_sees_27, e_Cell_sees_29, e_Cell_sees_32, e_Cell_sees_34, e_Cell_sees_35, e_Cell_sees_36, e_Cell_sees_39, e_Cell_sees_40, e_Cell_sees_41, e_Cell_sees_44, e_Cell_sees_45, e_Cell_sees_48, e_Cell_sees_51, alk_in, ask_in, blk_in, bsk_in, qlk_in, ack_in, rcv_in, rcA_in, bk_i, bk_l, bk_v, hS_same, hS_ne, hS_hS, hS_2, am_10, am_01, am_00, if_true, if_false, gf_6_0, pf_6_0, gf_6_1, pf_6_1, gf_6_2, pf_6_2, gf_11_0, pf_11_0, gf_11_1, pf_11_1, gf_11_2, pf_11_2, gf_11_3, pf_11_3, gf_11_4, pf_11_4, gf_11_5, pf_11_5, gf_11_6, pf_11_6, gf_11_7, pf_11_7, gf_11_8, pf_11_8, gf_11_9, pf_11_9, gf_11_10, pf_11_10, gf_11_11, pf_11_11, O, E0, c1]
      by_cases z : y < -3
      · rw [if_pos z]
      · rw [if_neg z, if_pos (by omega)]
  · simp only [q, if_false] at c1
    rw [if_neg (fun z => q z.1), if_neg (fun z => q z.1.1)]
    refine ⟨h, ?_, E', Fr.rf⟩
    rw [ev_Cell_sees]
    simp (disch := omega) only [e_Cell_sees_0, e_Cell_sees_1, e_Cell_sees_4, e_Cell_sees_4b, e_Cell_sees_7, e_Cell_sees_8, e_Cell_sees_10, e_Cell_sees_13, e_Cell_sees_14, e_Cell_sees_15, e_Cell_sees_18, e_Cell_sees_19, e_Cell_sees_20, e_Cell_sees_21, e_Cell_sees_24, e_Cell_sees_27, e_Cell_sees_29, e_Cell_sees_32, e_Cell_sees_34, e_Cell_sees_35, e_Cell_sees_36, e_Cell_sees_39, e_Cell_sees_40, e_Cell_sees_41, e_Cell_sees_44, e_Cell_sees_45, e_Cell_sees_48, e_Cell_sees_51, alk_in, ask_in, blk_in, bsk_in, qlk_in, ack_in, rcv_in, rcA_in, bk_i, bk_l, bk_v, hS_same, hS_ne, hS_hS, hS_2, am_10, am_01, am_00, if_true, if_false, gf_6_0, pf_6_0, gf_6_1, pf_6_1, gf_6_2, pf_6_2, gf_11_0, pf_11_0, gf_11_1, pf_11_1, gf_11_2, pf_11_2, gf_11_3, pf_11_3, gf_11_4, pf_11_4, gf_11_5, pf_11_5, gf_11_6, pf_11_6, gf_11_7, pf_11_7, gf_11_8, pf_11_8, gf_11_9, pf_11_9, gf_11_10, pf_11_10, gf_11_11, pf_11_11, O, E0, c1]
theorem k_forget (O : CeO h lo pc) (E : CSe h k s v) : ∃ h', ev mCell_forget [vR 1] h = some (some (vI (k : Int)), h') ∧ CSe h' 0 s v ∧ Fr 25 28 h h' := by
  unfold CeO at O
  obtain ⟨s', v', E0, E1, E2, E3⟩ := E
  refine ⟨hS h 25 (cO 6 [vI 0, vR 26, vR 27]), ?_, ⟨s', v', hS_same, by rw [hS_ne (by decide)]; exact E1, by rw [hS_ne (by decide)]; exact E2, fun j hj => by omega⟩, Fr.st (by omega)⟩
  rw [ev_Cell_forget]
  simp (disch := omega) only [e_Cell_forget_0, e_Cell_forget_1, e_Cell_forget_4, e_Cell_forget_7, e_Cell_forget_8, e_Cell_forget_9, e_Cell_forget_12, e_Cell_forget_13, e_Cell_forget_16, e_Cell_forget_17, alk_in, ask_in, blk_in, bsk_in, qlk_in, ack_in, rcv_in, rcA_in, bk_i, bk_l, bk_v, hS_same, hS_ne, hS_hS, hS_2, am_10, am_01, am_00, if_true, if_false, gf_6_0, pf_6_0, gf_6_1, pf_6_1, gf_6_2, pf_6_2, gf_11_0, pf_11_0, gf_11_1, pf_11_1, gf_11_2, pf_11_2, gf_11_3, pf_11_3, gf_11_4, pf_11_4, gf_11_5, pf_11_5, gf_11_6, pf_11_6, gf_11_7, pf_11_7, gf_11_8, pf_11_8, gf_11_9, pf_11_9, gf_11_10, pf_11_10, gf_11_11, pf_11_11, O, E0]
theorem l_isSo (E : CSe h k s v) (hw : WS k s v) {a : Int} (ha : 0 ≤ a ∧ a ≤ 3) : ∀ (d i : Nat), i + d = k → hso s v a i = true → gv mSeen_isSo 2 [vR 25, vI a, vI (i : Int)] [] h = some (some (vI (if hso s v a k then 1 else 0)), h) := by
  obtain ⟨s', v', E0, E1, E2, E3⟩ := E
  have hk := hw.1
  intro d
  induction d with
  | zero =>
    intro i hi hs
    have : i = k := by omega
    subst this
    rw [e_Seen_isSo_2]
    simp (disch := omega) only [e_Seen_isSo_0, e_Seen_isSo_1, e_Seen_isSo_3, e_Seen_isSo_4, e_Seen_isSo_7, e_Seen_isSo_10, e_Seen_isSo_11, e_Seen_isSo_12, e_Seen_isSo_15, e_Seen_isSo_16, e_Seen_isSo_17, e_Seen_isSo_20, e_Seen_isSo_21, e_Seen_isSo_24, e_Seen_isSo_25, e_Seen_isSo_26, e_Seen_isSo_29, e_Seen_isSo_30, e_Seen_isSo_31, e_Seen_isSo_34, e_Seen_isSo_37, e_Seen_isSo_38, alk_in, ask_in, blk_in, bsk_in, qlk_in, ack_in, rcv_in, rcA_in, bk_i, bk_l, bk_v, hS_same, hS_ne, hS_hS, hS_2, am_10, am_01, am_00, if_true, if_false, gf_6_0, pf_6_0, gf_6_1, pf_6_1, gf_6_2, pf_6_2, E0]
    rw [if_neg (by omega), hs]
    rfl
  | succ d ih =>
    intro i hi hs
    have hik : i < k := by omega
    have z := E3 i hik
    have w := hw.2 i hik
    have cf := c_figure (h := h) (a := a) (s := s i) (by omega)
    have hf := fig_b (a := a) (s := s i) ha
    rw [e_Seen_isSo_2]
    simp (disch := omega) only [e_Seen_isSo_0, e_Seen_isSo_1, e_Seen_isSo_3, e_Seen_isSo_4, e_Seen_isSo_7, e_Seen_isSo_10, e_Seen_isSo_11, e_Seen_isSo_12, e_Seen_isSo_15, e_Seen_isSo_16, e_Seen_isSo_17, e_Seen_isSo_20, e_Seen_isSo_21, e_Seen_isSo_24, e_Seen_isSo_25, e_Seen_isSo_26, e_Seen_isSo_29, e_Seen_isSo_30, e_Seen_isSo_31, e_Seen_isSo_34, e_Seen_isSo_37, e_Seen_isSo_38, alk_in, ask_in, blk_in, bsk_in, qlk_in, ack_in, rcv_in, rcA_in, bk_i, bk_l, bk_v, hS_same, hS_ne, hS_hS, hS_2, am_10, am_01, am_00, if_true, if_false, gf_6_0, pf_6_0, gf_6_1, pf_6_1, gf_6_2, pf_6_2, E0, E1, E2, Int.toNat_natCast, z.1, z.2, cf]
    rw [if_pos (by omega)]
    by_cases q : fig a (s i) = v i
    · rw [if_pos q]
      exact ih (i + 1) (by omega) (by unfold hso; rw [hs, decide_eq_true q]; rfl)
    · rw [if_neg q]
      have key : ∀ j, i < j → hso s v a j = false := by
        intro j
        induction j with
        | zero => intro h; omega
        | succ j ihj =>
          intro hj
          unfold hso
          by_cases e : j = i
          · subst e; rw [decide_eq_false q]; simp
          · rw [ihj (by omega)]; rfl
      rw [key k hik]
      rfl
theorem k_isSo (E : CSe h k s v) (hw : WS k s v) {a : Int} (ha : 0 ≤ a ∧ a ≤ 3) : ev mSeen_isSo [vR 25, vI a] h = some (some (vI (if hso s v a k then 1 else 0)), h) := by
  rw [ev_Seen_isSo, e_Seen_isSo_0, e_Seen_isSo_1]
  exact l_isSo E hw ha k 0 (by omega) rfl
theorem l_hardBits (E : CSe h k s v) (hw : WS k s v) : ∀ (d a : Nat), a + d = 4 → gv mSeen_hardBits 4 [vR 25, vI ((hrd s v k a : Nat) : Int), vI (a : Int)] [] h = some (some (vI ((hrd s v k 4 : Nat) : Int)), h) := by
  intro d
  induction d with
  | zero =>
    intro a ha
    have : a = 4 := by omega
    subst this
    rw [e_Seen_hardBits_4]
    simp (disch := omega) only [e_Seen_hardBits_0, e_Seen_hardBits_1, e_Seen_hardBits_2, e_Seen_hardBits_3, e_Seen_hardBits_5, e_Seen_hardBits_6, e_Seen_hardBits_9, e_Seen_hardBits_10, e_Seen_hardBits_11, e_Seen_hardBits_14, e_Seen_hardBits_14b, e_Seen_hardBits_17, e_Seen_hardBits_18, e_Seen_hardBits_19, e_Seen_hardBits_20, e_Seen_hardBits_21, e_Seen_hardBits_22, e_Seen_hardBits_23, e_Seen_hardBits_26, e_Seen_hardBits_29, e_Seen_hardBits_30, alk_in, ask_in, blk_in, bsk_in, qlk_in, ack_in, rcv_in, rcA_in, bk_i, bk_l, bk_v, hS_same, hS_ne, hS_hS, hS_2, am_10, am_01, am_00, if_true, if_false]
    rw [if_neg (by omega)]
  | succ d ih =>
    intro a ha
    have e1 := ih (a + 1) (by omega)
    have c1 := k_isSo E hw (a := (a : Int)) (by omega)
    obtain ⟨s', v', E0, E1, E2, E3⟩ := E
    rw [e_Seen_hardBits_4, ← e1]
    by_cases q : hso s v (a : Int) k = true
    · have e2 : hrd s v k (a + 1) = hrd s v k a ||| 2 ^ a := by
        show (if hso s v (a : Int) k then _ else _) = _
        rw [if_pos q]
      rw [q] at c1
      rw [e2]
      simp (disch := omega) only [e_Seen_hardBits_0, e_Seen_hardBits_1, e_Seen_hardBits_2, e_Seen_hardBits_3, e_Seen_hardBits_5, e_Seen_hardBits_6, e_Seen_hardBits_9, e_Seen_hardBits_10, e_Seen_hardBits_11, e_Seen_hardBits_14, e_Seen_hardBits_14b, e_Seen_hardBits_17, e_Seen_hardBits_18, e_Seen_hardBits_19, e_Seen_hardBits_20, e_Seen_hardBits_21, e_Seen_hardBits_22, e_Seen_hardBits_23, e_Seen_hardBits_26, e_Seen_hardBits_29, e_Seen_hardBits_30, alk_in, ask_in, blk_in, bsk_in, qlk_in, ack_in, rcv_in, rcA_in, bk_i, bk_l, bk_v, hS_same, hS_ne, hS_hS, hS_2, am_10, am_01, am_00, if_true, if_false, gf_6_0, pf_6_0, gf_6_1, pf_6_1, gf_6_2, pf_6_2, E0, c1, jshl_s a (by omega), jor_s _ (hrd_b s v k (a := a) (by omega)) _ (pw_b (i := a) (by omega))]
      rw [if_pos (by omega)]; rfl
    · have e2 : hrd s v k (a + 1) = hrd s v k a := by
        show (if hso s v (a : Int) k then _ else _) = _
        rw [if_neg q]
      simp only [Bool.not_eq_true] at q
      rw [q] at c1
      rw [e2]
      simp (disch := omega) only [e_Seen_hardBits_0, e_Seen_hardBits_1, e_Seen_hardBits_2, e_Seen_hardBits_3, e_Seen_hardBits_5, e_Seen_hardBits_6, e_Seen_hardBits_9, e_Seen_hardBits_10, e_Seen_hardBits_11, e_Seen_hardBits_14, e_Seen_hardBits_14b, e_Seen_hardBits_17, e_Seen_hardBits_18, e_Seen_hardBits_19, e_Seen_hardBits_20, e_Seen_hardBits_21, e_Seen_hardBits_22, e_Seen_hardBits_23, e_Seen_hardBits_26, e_Seen_hardBits_29, e_Seen_hardBits_30, alk_in, ask_in, blk_in, bsk_in, qlk_in, ack_in, rcv_in, rcA_in, bk_i, bk_l, bk_v, hS_same, hS_ne, hS_hS, hS_2, am_10, am_01, am_00, if_true, if_false, gf_6_0, pf_6_0, gf_6_1, pf_6_1, gf_6_2, pf_6_2, E0, c1, Bool.false_eq_true]
      rw [if_pos (by omega)]; rfl
theorem k_hardBits (E : CSe h k s v) (hw : WS k s v) : ev mSeen_hardBits [vR 25] h = some (some (vI ((hrd s v k 4 : Nat) : Int)), h) := by
  rw [ev_Seen_hardBits, e_Seen_hardBits_0, e_Seen_hardBits_1, e_Seen_hardBits_2, e_Seen_hardBits_3]
  exact l_hardBits E hw 4 0 (by omega)
theorem k_hards (O : CeO h lo pc) (E : CSe h k s v) (hw : WS k s v) : ev mCell_hards [vR 1] h = some (some (vI ((hrd s v k 4 : Nat) : Int)), h) := by
  have c1 := k_hardBits E hw
  unfold CeO at O
  obtain ⟨s', v', E0, -⟩ := E
  rw [ev_Cell_hards]
  simp (disch := omega) only [e_Cell_hards_0, e_Cell_hards_1, e_Cell_hards_4, e_Cell_hards_7, alk_in, ask_in, blk_in, bsk_in, qlk_in, ack_in, rcv_in, rcA_in, bk_i, bk_l, bk_v, hS_same, hS_ne, hS_hS, hS_2, am_10, am_01, am_00, if_true, if_false, gf_6_0, pf_6_0, gf_6_1, pf_6_1, gf_6_2, pf_6_2, gf_11_0, pf_11_0, gf_11_1, pf_11_1, gf_11_2, pf_11_2, gf_11_3, pf_11_3, gf_11_4, pf_11_4, gf_11_5, pf_11_5, gf_11_6, pf_11_6, gf_11_7, pf_11_7, gf_11_8, pf_11_8, gf_11_9, pf_11_9, gf_11_10, pf_11_10, gf_11_11, pf_11_11, O, E0, c1]
end Seen
