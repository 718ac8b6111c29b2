/-! keep, back: the model -/
section MKeep
variable {h : am_H} {G : Gl} {T : Tm} {im : Nat → Option Tm}
theorem lm_keep {x0 x2 x7 x11 x12 x13 x14 x15 : am_V} {F K : Nat → Int} {i : Nat} (hi : i < 2) : ∀ (d k : Nat) (h : am_H) (A B : Nat → Int), k + d = 19 → MoA h x0 x2 x7 x11 x12 x13 x14 x15 → h.1 124 = cI 0 19 F → h.1 126 = cI 0 38 A → h.1 127 = cI 1 2 K → (∀ j, j < k → A (19 * i + j) = F j) → (∀ j, ¬ (19 * i ≤ j ∧ j < 19 * i + 19) → A j = B j) → ∃ h' A', gv mMod_keep 13 [vR 120, vI (i : Int), vI (k : Int)] [] h = some (some (vI (F 0)), h') ∧ h'.1 126 = cI 0 38 A' ∧ (∀ j, j < 19 → A' (19 * i + j) = F j) ∧ (∀ j, ¬ (19 * i ≤ j ∧ j < 19 * i + 19) → A' j = B j) ∧ h'.1 127 = cI 1 2 (fun j => if j = i then 1 else K j) ∧ FE [126, 127] h h' := by
  intro d
  induction d with
  | zero =>
    intro k h A B hk o b e e7 he hB
    have : k = 19 := by omega
    subst this
    refine ⟨hS h 127 (cI 1 2 (fun j => if j = i then 1 else K j)), A, ?_, (hS_ne (by decide)).trans e, he, hB, hS_same, FE.st (by decide)⟩
    unfold MoA at o
    rw [e_Mod_keep_13]
    simp (disch := omega) only [e_Mod_keep_0, e_Mod_keep_1, e_Mod_keep_2, e_Mod_keep_3, e_Mod_keep_6, e_Mod_keep_6b, e_Mod_keep_9, e_Mod_keep_10, e_Mod_keep_11, e_Mod_keep_12, e_Mod_keep_14, e_Mod_keep_16, e_Mod_keep_19, e_Mod_keep_20, e_Mod_keep_23, e_Mod_keep_25, e_Mod_keep_26, e_Mod_keep_27, e_Mod_keep_28, e_Mod_keep_29, e_Mod_keep_30, e_Mod_keep_33, e_Mod_keep_34, e_Mod_keep_35, e_Mod_keep_36, e_Mod_keep_39, e_Mod_keep_42, e_Mod_keep_43, e_Mod_keep_46, e_Mod_keep_47, e_Mod_keep_48, e_Mod_keep_49, e_Mod_keep_50, e_Mod_keep_53, e_Mod_keep_54, e_Mod_keep_55, alk_in, ask_in, blk_in, bsk_in, qlk_in, ack_in, rcv_in, rcA_in, bk_i, bk_l, bk_v, hS_same, hS_ne, hS_hS, hS_2, am_10, am_01, am_00, if_true, if_false, gf_12_0, pf_12_0, gf_12_1, pf_12_1, gf_12_2, pf_12_2, gf_12_3, pf_12_3, gf_12_4, pf_12_4, gf_12_5, pf_12_5, gf_12_6, pf_12_6, gf_12_7, pf_12_7, gf_12_8, pf_12_8, gf_12_9, pf_12_9, gf_12_10, pf_12_10, gf_12_11, pf_12_11, gf_12_12, pf_12_12, gf_12_13, pf_12_13, gf_12_14, pf_12_14, gf_12_15, pf_12_15, gf_12_16, pf_12_16, gf_12_17, pf_12_17, gf_12_18, pf_12_18, gf_12_19, pf_12_19, gf_12_20, pf_12_20, o, b, e7, Int.toNat_natCast, tl_0]
    rw [if_neg (by omega)]
  | succ d ih =>
    intro k h A B hk o b e e7 he hB
    have fe : FE [126, 127] h (hS h 126 (cI 0 38 (fun j => if j = 19 * i + k then F k else A j))) := FE.st (by decide)
    have fe' : FE [126] h (hS h 126 (cI 0 38 (fun j => if j = 19 * i + k then F k else A j))) := FE.st (by decide)
    obtain ⟨h', A', e1, e2, e3, e4, e5, f1⟩ := ih (k + 1) _ _ B (by omega) (fe.at o (by decide)) (fe.at b (by decide)) hS_same (fe'.at e7 (by decide)) (fun j hj => by
      by_cases q : j = k
      · simp [q]
      · rw [if_neg (by omega)]; exact he j (by omega)) (fun j hj => by rw [if_neg (by omega)]; exact hB j hj)
    refine ⟨h', A', ?_, e2, e3, e4, e5, fe.tr f1⟩
    unfold MoA at o
    rw [e_Mod_keep_13, ← e1]
    have t0 : (19 * (i : Int) + (k : Int)).toNat = 19 * i + k := by omega
    simp (disch := omega) only [e_Mod_keep_0, e_Mod_keep_1, e_Mod_keep_2, e_Mod_keep_3, e_Mod_keep_6, e_Mod_keep_6b, e_Mod_keep_9, e_Mod_keep_10, e_Mod_keep_11, e_Mod_keep_12, e_Mod_keep_14, e_Mod_keep_16, e_Mod_keep_19, e_Mod_keep_20, e_Mod_keep_23, e_Mod_keep_25, e_Mod_keep_26, e_Mod_keep_27, e_Mod_keep_28, e_Mod_keep_29, e_Mod_keep_30, e_Mod_keep_33, e_Mod_keep_34, e_Mod_keep_35, e_Mod_keep_36, e_Mod_keep_39, e_Mod_keep_42, e_Mod_keep_43, e_Mod_keep_46, e_Mod_keep_47, e_Mod_keep_48, e_Mod_keep_49, e_Mod_keep_50, e_Mod_keep_53, e_Mod_keep_54, e_Mod_keep_55, alk_in, ask_in, blk_in, bsk_in, qlk_in, ack_in, rcv_in, rcA_in, bk_i, bk_l, bk_v, hS_same, hS_ne, hS_hS, hS_2, am_10, am_01, am_00, if_true, if_false, gf_12_0, pf_12_0, gf_12_1, pf_12_1, gf_12_2, pf_12_2, gf_12_3, pf_12_3, gf_12_4, pf_12_4, gf_12_5, pf_12_5, gf_12_6, pf_12_6, gf_12_7, pf_12_7, gf_12_8, pf_12_8, gf_12_9, pf_12_9, gf_12_10, pf_12_10, gf_12_11, pf_12_11, gf_12_12, pf_12_12, gf_12_13, pf_12_13, gf_12_14, pf_12_14, gf_12_15, pf_12_15, gf_12_16, pf_12_16, gf_12_17, pf_12_17, gf_12_18, pf_12_18, gf_12_19, pf_12_19, gf_12_20, pf_12_20, o, b, e, t0, Int.toNat_natCast]
    rw [if_pos (by omega)]; rfl
theorem q_keep {tr L pc k : Int} (O : MO h tr L pc k) (S : RM h G T) (hn : G.1 ≤ 6) (I : MIm h G im) {i : Int} (hi : rg32 i) : ∃ h', ev mMod_keep [vR 120, vI i] h = some (some (vI (aKeep T i)), h') ∧ MIm h' G (nKeep im T i) ∧ FE [126, 127] h h' := by
  unfold rg32 at hi
  have c1 := c_min (h := h) (v := i) (x := 0) (y := 1) hi (by omega) (by omega)
  unfold aKeep
  by_cases q : 0 ≤ i ∧ i < 2
  · rw [if_pos (by omega)] at c1
    rw [if_pos q]
    obtain ⟨i, rfl⟩ : ∃ k : Nat, i = (k : Int) := ⟨i.toNat, by omega⟩
    have hk : i < 2 := by omega
    obtain ⟨x0, x2, x7, x11, x12, x13, x14, x15, T', F, o, a, b, r0, r1, r2, r3, r⟩ := S
    obtain ⟨A, K, a1, a2, s⟩ := I
    obtain ⟨h', A', e1, e2, e3, e4, e5, f1⟩ := lm_keep hk 19 0 h A A (by omega) o b a1 a2 (fun j hj => by omega) (fun j hj => rfl)
    refine ⟨h', ?_, ⟨A', _, e2, e5, fun j hj => ?_⟩, f1⟩
    · rw [ev_Mod_keep]
      simp (disch := omega) only [e_Mod_keep_0, e_Mod_keep_1, e_Mod_keep_2, e_Mod_keep_3, e_Mod_keep_6, e_Mod_keep_6b, e_Mod_keep_9, e_Mod_keep_10, e_Mod_keep_11, e_Mod_keep_12, e_Mod_keep_14, e_Mod_keep_16, e_Mod_keep_19, e_Mod_keep_20, e_Mod_keep_23, e_Mod_keep_25, e_Mod_keep_26, e_Mod_keep_27, e_Mod_keep_28, e_Mod_keep_29, e_Mod_keep_30, e_Mod_keep_33, e_Mod_keep_34, e_Mod_keep_35, e_Mod_keep_36, e_Mod_keep_39, e_Mod_keep_42, e_Mod_keep_43, e_Mod_keep_46, e_Mod_keep_47, e_Mod_keep_48, e_Mod_keep_49, e_Mod_keep_50, e_Mod_keep_53, e_Mod_keep_54, e_Mod_keep_55, alk_in, ask_in, blk_in, bsk_in, qlk_in, ack_in, rcv_in, rcA_in, bk_i, bk_l, bk_v, hS_same, hS_ne, hS_hS, hS_2, am_10, am_01, am_00, if_true, if_false, gf_12_0, pf_12_0, gf_12_1, pf_12_1, gf_12_2, pf_12_2, gf_12_3, pf_12_3, gf_12_4, pf_12_4, gf_12_5, pf_12_5, gf_12_6, pf_12_6, gf_12_7, pf_12_7, gf_12_8, pf_12_8, gf_12_9, pf_12_9, gf_12_10, pf_12_10, gf_12_11, pf_12_11, gf_12_12, pf_12_12, gf_12_13, pf_12_13, gf_12_14, pf_12_14, gf_12_15, pf_12_15, gf_12_16, pf_12_16, gf_12_17, pf_12_17, gf_12_18, pf_12_18, gf_12_19, pf_12_19, gf_12_20, pf_12_20, c1]
      rw [← r3]
      exact e1
    · have y := s j hj
      by_cases w : j = i
      · subst w
        have : nKeep im T (j : Int) j = some T := by unfold nKeep; rw [if_pos ⟨q, rfl⟩]
        rw [this]
        refine ⟨if_pos rfl, by rw [show 19 * j = 19 * j + 0 from rfl, e3 0 (by omega)]; exact r3, fun l hl => ?_⟩
        have z := r l hl
        rw [show 19 * j + 1 + l = 19 * j + (1 + l) by omega, show 19 * j + 7 + l = 19 * j + (7 + l) by omega, show 19 * j + 13 + l = 19 * j + (13 + l) by omega, e3 _ (by omega), e3 _ (by omega), e3 _ (by omega)]
        exact z.2
      · have : nKeep im T (i : Int) j = im j := by unfold nKeep; rw [if_neg (by omega)]
        rw [this]
        cases e : im j with
        | none => rw [e] at y; exact (if_neg w).trans y
        | some U =>
          rw [e] at y
          refine ⟨(if_neg w).trans y.1, by rw [e4 _ (by omega)]; exact y.2.1, fun l hl => ?_⟩
          rw [e4 _ (by omega), e4 _ (by omega), e4 _ (by omega)]
          exact y.2.2 l hl
  · rw [if_neg (by omega)] at c1
    rw [if_neg q]
    have : nKeep im T i = im := by
      funext j
      unfold nKeep
      rw [if_neg (fun y => q y.1)]
    rw [this]
    refine ⟨h, ?_, I, FE.rf⟩
    rw [ev_Mod_keep]
    simp (disch := omega) only [e_Mod_keep_0, e_Mod_keep_1, e_Mod_keep_2, e_Mod_keep_3, e_Mod_keep_6, e_Mod_keep_6b, e_Mod_keep_9, e_Mod_keep_10, e_Mod_keep_11, e_Mod_keep_12, e_Mod_keep_14, e_Mod_keep_16, e_Mod_keep_19, e_Mod_keep_20, e_Mod_keep_23, e_Mod_keep_25, e_Mod_keep_26, e_Mod_keep_27, e_Mod_keep_28, e_Mod_keep_29, e_Mod_keep_30, e_Mod_keep_33, e_Mod_keep_34, e_Mod_keep_35, e_Mod_keep_36, e_Mod_keep_39, e_Mod_keep_42, e_Mod_keep_43, e_Mod_keep_46, e_Mod_keep_47, e_Mod_keep_48, e_Mod_keep_49, e_Mod_keep_50, e_Mod_keep_53, e_Mod_keep_54, e_Mod_keep_55, alk_in, ask_in, blk_in, bsk_in, qlk_in, ack_in, rcv_in, rcA_in, bk_i, bk_l, bk_v, hS_same, hS_ne, hS_hS, hS_2, am_10, am_01, am_00, if_true, if_false, gf_12_0, pf_12_0, gf_12_1, pf_12_1, gf_12_2, pf_12_2, gf_12_3, pf_12_3, gf_12_4, pf_12_4, gf_12_5, pf_12_5, gf_12_6, pf_12_6, gf_12_7, pf_12_7, gf_12_8, pf_12_8, gf_12_9, pf_12_9, gf_12_10, pf_12_10, gf_12_11, pf_12_11, gf_12_12, pf_12_12, gf_12_13, pf_12_13, gf_12_14, pf_12_14, gf_12_15, pf_12_15, gf_12_16, pf_12_16, gf_12_17, pf_12_17, gf_12_18, pf_12_18, gf_12_19, pf_12_19, gf_12_20, pf_12_20, c1]
theorem lm_back {x0 x2 x7 x11 x12 x13 x14 x15 : am_V} {A : Nat → Int} {i : Nat} (hi : i < 2) : ∀ (d k : Nat) (h : am_H) (F : Nat → Int), k + d = 19 → MoA h x0 x2 x7 x11 x12 x13 x14 x15 → h.1 124 = cI 0 19 F → h.1 126 = cI 0 38 A → (∀ j, j < k → F j = A (19 * i + j)) → ∃ h' F', gv mMod_back 25 [vR 120, vI (i : Int), vI (k : Int)] [] h = some (some (vI (A (19 * i))), h') ∧ h'.1 124 = cI 0 19 F' ∧ (∀ j, j < 19 → F' j = A (19 * i + j)) ∧ MoA h' x0 x2 (vI 0) x11 x12 x13 x14 x15 ∧ FE [120, 124] h h' := by
  intro d
  induction d with
  | zero =>
    intro k h F hk o b e he
    have : k = 19 := by omega
    subst this
    unfold MoA at o ⊢
    refine ⟨hS h 120 (cO 12 [x0, vR 121, x2, vR 122, vR 123, vR 124, vR 125, vI 0, vR 126, vR 127, vR 128, x11, x12, x13, x14, x15, vR 129, vR 130, vR 131, vR 132, vR 133]), F, ?_, (hS_ne (by decide)).trans b, he, hS_same, FE.st (by decide)⟩
    rw [e_Mod_back_25]
    have z := he 0 (by omega)
    simp (disch := omega) only [e_Mod_back_0, e_Mod_back_1, e_Mod_back_2, e_Mod_back_3, e_Mod_back_6, e_Mod_back_6b, e_Mod_back_9, e_Mod_back_10, e_Mod_back_11, e_Mod_back_12, e_Mod_back_15, e_Mod_back_16, e_Mod_back_17, e_Mod_back_17b, e_Mod_back_20, e_Mod_back_22, e_Mod_back_23, e_Mod_back_24, e_Mod_back_26, e_Mod_back_28, e_Mod_back_31, e_Mod_back_32, e_Mod_back_35, e_Mod_back_36, e_Mod_back_37, e_Mod_back_40, e_Mod_back_42, e_Mod_back_43, e_Mod_back_44, e_Mod_back_45, e_Mod_back_46, e_Mod_back_47, e_Mod_back_48, e_Mod_back_51, e_Mod_back_54, e_Mod_back_55, e_Mod_back_56, e_Mod_back_59, e_Mod_back_60, e_Mod_back_63, e_Mod_back_64, e_Mod_back_65, alk_in, ask_in, blk_in, bsk_in, qlk_in, ack_in, rcv_in, rcA_in, bk_i, bk_l, bk_v, hS_same, hS_ne, hS_hS, hS_2, am_10, am_01, am_00, if_true, if_false, gf_12_0, pf_12_0, gf_12_1, pf_12_1, gf_12_2, pf_12_2, gf_12_3, pf_12_3, gf_12_4, pf_12_4, gf_12_5, pf_12_5, gf_12_6, pf_12_6, gf_12_7, pf_12_7, gf_12_8, pf_12_8, gf_12_9, pf_12_9, gf_12_10, pf_12_10, gf_12_11, pf_12_11, gf_12_12, pf_12_12, gf_12_13, pf_12_13, gf_12_14, pf_12_14, gf_12_15, pf_12_15, gf_12_16, pf_12_16, gf_12_17, pf_12_17, gf_12_18, pf_12_18, gf_12_19, pf_12_19, gf_12_20, pf_12_20, o, b, tl_0, z, Nat.add_zero]
    rw [if_neg (by omega)]
  | succ d ih =>
    intro k h F hk o b e he
    have fe : FE [120, 124] h (hS h 124 (cI 0 19 (fun j => if j = k then A (19 * i + k) else F j))) := FE.st (by decide)
    have fe' : FE [124] h (hS h 124 (cI 0 19 (fun j => if j = k then A (19 * i + k) else F j))) := FE.st (by decide)
    obtain ⟨h', F', e1, e2, e3, e4, f1⟩ := ih (k + 1) _ _ (by omega) (fe'.at o (by decide)) hS_same (fe'.at e (by decide)) (fun j hj => by
      by_cases q : j = k
      · simp [q]
      · rw [if_neg q]; exact he j (by omega))
    refine ⟨h', F', ?_, e2, e3, e4, fe.tr f1⟩
    unfold MoA at o
    rw [e_Mod_back_25, ← e1]
    have t0 : (19 * (i : Int) + (k : Int)).toNat = 19 * i + k := by omega
    simp (disch := omega) only [e_Mod_back_0, e_Mod_back_1, e_Mod_back_2, e_Mod_back_3, e_Mod_back_6, e_Mod_back_6b, e_Mod_back_9, e_Mod_back_10, e_Mod_back_11, e_Mod_back_12, e_Mod_back_15, e_Mod_back_16, e_Mod_back_17, e_Mod_back_17b, e_Mod_back_20, e_Mod_back_22, e_Mod_back_23, e_Mod_back_24, e_Mod_back_26, e_Mod_back_28, e_Mod_back_31, e_Mod_back_32, e_Mod_back_35, e_Mod_back_36, e_Mod_back_37, e_Mod_back_40, e_Mod_back_42, e_Mod_back_43, e_Mod_back_44, e_Mod_back_45, e_Mod_back_46, e_Mod_back_47, e_Mod_back_48, e_Mod_back_51, e_Mod_back_54, e_Mod_back_55, e_Mod_back_56, e_Mod_back_59, e_Mod_back_60, e_Mod_back_63, e_Mod_back_64, e_Mod_back_65, alk_in, ask_in, blk_in, bsk_in, qlk_in, ack_in, rcv_in, rcA_in, bk_i, bk_l, bk_v, hS_same, hS_ne, hS_hS, hS_2, am_10, am_01, am_00, if_true, if_false, gf_12_0, pf_12_0, gf_12_1, pf_12_1, gf_12_2, pf_12_2, gf_12_3, pf_12_3, gf_12_4, pf_12_4, gf_12_5, pf_12_5, gf_12_6, pf_12_6, gf_12_7, pf_12_7, gf_12_8, pf_12_8, gf_12_9, pf_12_9, gf_12_10, pf_12_10, gf_12_11, pf_12_11, gf_12_12, pf_12_12, gf_12_13, pf_12_13, gf_12_14, pf_12_14, gf_12_15, pf_12_15, gf_12_16, pf_12_16, gf_12_17, pf_12_17, gf_12_18, pf_12_18, gf_12_19, pf_12_19, gf_12_20, pf_12_20, o, b, e, t0, Int.toNat_natCast]
    rw [if_pos (by omega)]; rfl
theorem q_back {tr L c : Int} {k : Nat} (O : MO h tr L k c) (S : RM h G T) (hn : G.1 ≤ 6) (I : MIm h G im) {i : Int} (hi : rg32 i) : ∃ h', ev mMod_back [vR 120, vI i] h = some (some (vI (aBack im i)), h') ∧ MO h' tr L (nBackP im k i) c ∧ RM h' G (nBack im T i) ∧ FE [120, 124] h h' := by
  unfold rg32 at hi
  have c1 := c_min (h := h) (v := i) (x := 0) (y := 1) hi (by omega) (by omega)
  unfold aBack nBack nBackP
  by_cases q : 0 ≤ i ∧ i < 2
  · rw [if_pos (by omega)] at c1
    rw [if_pos q, if_pos q, if_pos q]
    obtain ⟨i, rfl⟩ : ∃ k : Nat, i = (k : Int) := ⟨i.toNat, by omega⟩
    have hk : i < 2 := by omega
    have S0 := S
    have O0 := O
    obtain ⟨y0, y2, y7, y11, y12, y13, y14, y15, T', F, o', a, b, r0, r1, r2, r3, r⟩ := S
    obtain ⟨x12, x13, x14, x15, o⟩ := O
    obtain ⟨A, K, a1, a2, s⟩ := I
    have y := s i hk
    rw [Int.toNat_natCast]
    cases e : im i with
    | none =>
      rw [e] at y
      refine ⟨h, ?_, O0, S0, FE.rf⟩
      unfold MoA at o
      rw [ev_Mod_back]
      simp (disch := omega) only [e_Mod_back_0, e_Mod_back_1, e_Mod_back_2, e_Mod_back_3, e_Mod_back_6, e_Mod_back_6b, e_Mod_back_9, e_Mod_back_10, e_Mod_back_11, e_Mod_back_12, e_Mod_back_15, e_Mod_back_16, e_Mod_back_17, e_Mod_back_17b, e_Mod_back_20, e_Mod_back_22, e_Mod_back_23, e_Mod_back_24, e_Mod_back_26, e_Mod_back_28, e_Mod_back_31, e_Mod_back_32, e_Mod_back_35, e_Mod_back_36, e_Mod_back_37, e_Mod_back_40, e_Mod_back_42, e_Mod_back_43, e_Mod_back_44, e_Mod_back_45, e_Mod_back_46, e_Mod_back_47, e_Mod_back_48, e_Mod_back_51, e_Mod_back_54, e_Mod_back_55, e_Mod_back_56, e_Mod_back_59, e_Mod_back_60, e_Mod_back_63, e_Mod_back_64, e_Mod_back_65, alk_in, ask_in, blk_in, bsk_in, qlk_in, ack_in, rcv_in, rcA_in, bk_i, bk_l, bk_v, hS_same, hS_ne, hS_hS, hS_2, am_10, am_01, am_00, if_true, if_false, gf_12_0, pf_12_0, gf_12_1, pf_12_1, gf_12_2, pf_12_2, gf_12_3, pf_12_3, gf_12_4, pf_12_4, gf_12_5, pf_12_5, gf_12_6, pf_12_6, gf_12_7, pf_12_7, gf_12_8, pf_12_8, gf_12_9, pf_12_9, gf_12_10, pf_12_10, gf_12_11, pf_12_11, gf_12_12, pf_12_12, gf_12_13, pf_12_13, gf_12_14, pf_12_14, gf_12_15, pf_12_15, gf_12_16, pf_12_16, gf_12_17, pf_12_17, gf_12_18, pf_12_18, gf_12_19, pf_12_19, gf_12_20, pf_12_20, c1, o, a2, y, Int.toNat_natCast]
    | some U =>
      rw [e] at y
      obtain ⟨h', F', e1, e2, e3, e4, f1⟩ := lm_back hk 19 0 h F (by omega) o b a1 (fun j hj => by omega)
      refine ⟨h', ?_, ⟨_, _, _, _, e4⟩, ⟨_, _, _, _, _, _, _, _, T', F', e4, f1.at a (by decide), e2, r0, r1, r2, by rw [e3 0 (by omega)]; exact y.2.1, fun l hl => ?_⟩, f1⟩
      · unfold MoA at o
        rw [ev_Mod_back]
        simp (disch := omega) only [e_Mod_back_0, e_Mod_back_1, e_Mod_back_2, e_Mod_back_3, e_Mod_back_6, e_Mod_back_6b, e_Mod_back_9, e_Mod_back_10, e_Mod_back_11, e_Mod_back_12, e_Mod_back_15, e_Mod_back_16, e_Mod_back_17, e_Mod_back_17b, e_Mod_back_20, e_Mod_back_22, e_Mod_back_23, e_Mod_back_24, e_Mod_back_26, e_Mod_back_28, e_Mod_back_31, e_Mod_back_32, e_Mod_back_35, e_Mod_back_36, e_Mod_back_37, e_Mod_back_40, e_Mod_back_42, e_Mod_back_43, e_Mod_back_44, e_Mod_back_45, e_Mod_back_46, e_Mod_back_47, e_Mod_back_48, e_Mod_back_51, e_Mod_back_54, e_Mod_back_55, e_Mod_back_56, e_Mod_back_59, e_Mod_back_60, e_Mod_back_63, e_Mod_back_64, e_Mod_back_65, alk_in, ask_in, blk_in, bsk_in, qlk_in, ack_in, rcv_in, rcA_in, bk_i, bk_l, bk_v, hS_same, hS_ne, hS_hS, hS_2, am_10, am_01, am_00, if_true, if_false, gf_12_0, pf_12_0, gf_12_1, pf_12_1, gf_12_2, pf_12_2, gf_12_3, pf_12_3, gf_12_4, pf_12_4, gf_12_5, pf_12_5, gf_12_6, pf_12_6, gf_12_7, pf_12_7, gf_12_8, pf_12_8, gf_12_9, pf_12_9, gf_12_10, pf_12_10, gf_12_11, pf_12_11, gf_12_12, pf_12_12, gf_12_13, pf_12_13, gf_12_14, pf_12_14, gf_12_15, pf_12_15, gf_12_16, pf_12_16, gf_12_17, pf_12_17, gf_12_18, pf_12_18, gf_12_19, pf_12_19, gf_12_20, pf_12_20, c1, o, a2, y.1, Int.toNat_natCast]
        rw [← y.2.1]
        exact e1
      · have z := y.2.2 l hl
        rw [e3 _ (by omega), e3 _ (by omega), e3 _ (by omega), show 19 * i + (1 + l) = 19 * i + 1 + l by omega, show 19 * i + (7 + l) = 19 * i + 7 + l by omega, show 19 * i + (13 + l) = 19 * i + 13 + l by omega]
        exact ⟨(r l hl).1, z⟩
  · rw [if_neg (by omega)] at c1
    rw [if_neg q, if_neg q, if_neg q]
    refine ⟨h, ?_, O, S, FE.rf⟩
    rw [ev_Mod_back]
    simp (disch := omega) only [e_Mod_back_0, e_Mod_back_1, e_Mod_back_2, e_Mod_back_3, e_Mod_back_6, e_Mod_back_6b, e_Mod_back_9, e_Mod_back_10, e_Mod_back_11, e_Mod_back_12, e_Mod_back_15, e_Mod_back_16, e_Mod_back_17, e_Mod_back_17b, e_Mod_back_20, e_Mod_back_22, e_Mod_back_23, e_Mod_back_24, e_Mod_back_26, e_Mod_back_28, e_Mod_back_31, e_Mod_back_32, e_Mod_back_35, e_Mod_back_36, e_Mod_back_37, e_Mod_back_40, e_Mod_back_42, e_Mod_back_43, e_Mod_back_44, e_Mod_back_45, e_Mod_back_46, e_Mod_back_47, e_Mod_back_48, e_Mod_back_51, e_Mod_back_54, e_Mod_back_55, e_Mod_back_56, e_Mod_back_59, e_Mod_back_60, e_Mod_back_63, e_Mod_back_64, e_Mod_back_65, alk_in, ask_in, blk_in, bsk_in, qlk_in, ack_in, rcv_in, rcA_in, bk_i, bk_l, bk_v, hS_same, hS_ne, hS_hS, hS_2, am_10, am_01, am_00, if_true, if_false, gf_12_0, pf_12_0, gf_12_1, pf_12_1, gf_12_2, pf_12_2, gf_12_3, pf_12_3, gf_12_4, pf_12_4, gf_12_5, pf_12_5, gf_12_6, pf_12_6, gf_12_7, pf_12_7, gf_12_8, pf_12_8, gf_12_9, pf_12_9, gf_12_10, pf_12_10, gf_12_11, pf_12_11, gf_12_12, pf_12_12, gf_12_13, pf_12_13, gf_12_14, pf_12_14, gf_12_15, pf_12_15, gf_12_16, pf_12_16, gf_12_17, pf_12_17, gf_12_18, pf_12_18, gf_12_19, pf_12_19, gf_12_20, pf_12_20, c1]
end MKeep
