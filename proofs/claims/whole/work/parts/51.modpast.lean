/-! keeps, undo, month, moves, feigns: the model -/
def MPa (h : am_H) (G : Gl) (k : Nat) (p : Nat → Tm) : Prop := ∃ P, h.1 125 = cI 0 190 P ∧ ∀ i, i < k → Seg P (19 * i) G.1 (p i)
def MZ (h : am_H) (tr L kk : Int) (G : Gl) (Z : St) : Prop := MO h tr L Z.2.1 kk ∧ RM h G Z.1 ∧ MPa h G Z.2.1 Z.2.2 ∧ Sh h 129 6
section MPast
variable {h : am_H} {G : Gl} {tr L kk : Int}
theorem MPa.fe {h' : am_H} {k : Nat} {p : Nat → Tm} {l : List Nat} (S : MPa h G k p) (f : FE l h h') (q : 125 ∉ l) : MPa h' G k p := by
  obtain ⟨P, a, r⟩ := S
  exact ⟨P, f.at a q, r⟩
theorem lm_shift {x0 x2 x7 x11 x12 x13 x14 x15 : am_V} {P : Nat → Int} : ∀ (d k : Nat) (h : am_H) (A : Nat → Int), k + d = 171 → MoA h x0 x2 x7 x11 x12 x13 x14 x15 → h.1 125 = cI 0 190 A → (∀ j, A j = if j < k then P (j + 19) else P j) → ∃ h' A', gv mMod_keeps 11 [vR 120, vI (k : Int)] [] h = gv mMod_keeps 39 [vR 120, vI 171] [] h' ∧ h'.1 125 = cI 0 190 A' ∧ (∀ j, A' j = if j < 171 then P (j + 19) else P j) ∧ FE [125] h h' := by
  intro d
  induction d with
  | zero =>
    intro k h A hk o e he
    have : k = 171 := by omega
    subst this
    refine ⟨h, A, ?_, e, he, FE.rf⟩
    rw [e_Mod_keeps_11]
    simp (disch := omega) only [e_Mod_keeps_0, e_Mod_keeps_1, e_Mod_keeps_4, e_Mod_keeps_6, e_Mod_keeps_9, e_Mod_keeps_10, e_Mod_keeps_12, e_Mod_keeps_15, e_Mod_keeps_18, e_Mod_keeps_19, e_Mod_keeps_22, e_Mod_keeps_23, e_Mod_keeps_24, e_Mod_keeps_27, e_Mod_keeps_28, e_Mod_keeps_30, e_Mod_keeps_31, e_Mod_keeps_32, e_Mod_keeps_33, e_Mod_keeps_36, e_Mod_keeps_40, e_Mod_keeps_41, e_Mod_keeps_44, e_Mod_keeps_45, e_Mod_keeps_46, e_Mod_keeps_49, e_Mod_keeps_50, e_Mod_keeps_51, e_Mod_keeps_52, e_Mod_keeps_54, e_Mod_keeps_57, e_Mod_keeps_58, e_Mod_keeps_61, e_Mod_keeps_63, e_Mod_keeps_64, e_Mod_keeps_67, e_Mod_keeps_68, e_Mod_keeps_69, e_Mod_keeps_70, e_Mod_keeps_71, e_Mod_keeps_74, e_Mod_keeps_75, e_Mod_keeps_76, e_Mod_keeps_77, e_Mod_keeps_80, e_Mod_keeps_83, e_Mod_keeps_84, e_Mod_keeps_85, e_Mod_keeps_88, e_Mod_keeps_89, e_Mod_keeps_90, e_Mod_keeps_93]
    rw [if_neg (by omega)]; rfl
  | succ d ih =>
    intro k h A hk o e he
    have z := he (k + 19)
    rw [if_neg (by omega)] at z
    have fe : FE [125] h (hS h 125 (cI 0 190 (fun j => if j = k then P (k + 19) else A j))) := FE.st (by decide)
    obtain ⟨h', A', e1, e2, e3, f1⟩ := ih (k + 1) _ _ (by omega) (fe.at o (by decide)) hS_same (fun j => by
      by_cases q : j = k
      · rw [if_pos q, if_pos (by omega), q]
      · rw [if_neg q, he j]
        by_cases w : j < k
        · rw [if_pos w, if_pos (by omega)]
        · rw [if_neg w, if_neg (by omega)])
    refine ⟨h', A', ?_, e2, e3, fe.tr f1⟩
    unfold MoA at o
    have t0 : ((k : Int) + 19).toNat = k + 19 := by omega
    rw [e_Mod_keeps_11, ← e1]
    simp (disch := omega) only [e_Mod_keeps_0, e_Mod_keeps_1, e_Mod_keeps_4, e_Mod_keeps_6, e_Mod_keeps_9, e_Mod_keeps_10, e_Mod_keeps_12, e_Mod_keeps_15, e_Mod_keeps_18, e_Mod_keeps_19, e_Mod_keeps_22, e_Mod_keeps_23, e_Mod_keeps_24, e_Mod_keeps_27, e_Mod_keeps_28, e_Mod_keeps_30, e_Mod_keeps_31, e_Mod_keeps_32, e_Mod_keeps_33, e_Mod_keeps_36, e_Mod_keeps_40, e_Mod_keeps_41, e_Mod_keeps_44, e_Mod_keeps_45, e_Mod_keeps_46, e_Mod_keeps_49, e_Mod_keeps_50, e_Mod_keeps_51, e_Mod_keeps_52, e_Mod_keeps_54, e_Mod_keeps_57, e_Mod_keeps_58, e_Mod_keeps_61, e_Mod_keeps_63, e_Mod_keeps_64, e_Mod_keeps_67, e_Mod_keeps_68, e_Mod_keeps_69, e_Mod_keeps_70, e_Mod_keeps_71, e_Mod_keeps_74, e_Mod_keeps_75, e_Mod_keeps_76, e_Mod_keeps_77, e_Mod_keeps_80, e_Mod_keeps_83, e_Mod_keeps_84, e_Mod_keeps_85, e_Mod_keeps_88, e_Mod_keeps_89, e_Mod_keeps_90, e_Mod_keeps_93, alk_in, ask_in, blk_in, bsk_in, qlk_in, ack_in, rcv_in, rcA_in, bk_i, bk_l, bk_v, hS_same, hS_ne, hS_hS, hS_2, am_10, am_01, am_00, if_true, if_false, gf_12_0, pf_12_0, gf_12_1, pf_12_1, gf_12_2, pf_12_2, gf_12_3, pf_12_3, gf_12_4, pf_12_4, gf_12_5, pf_12_5, gf_12_6, pf_12_6, gf_12_7, pf_12_7, gf_12_8, pf_12_8, gf_12_9, pf_12_9, gf_12_10, pf_12_10, gf_12_11, pf_12_11, gf_12_12, pf_12_12, gf_12_13, pf_12_13, gf_12_14, pf_12_14, gf_12_15, pf_12_15, gf_12_16, pf_12_16, gf_12_17, pf_12_17, gf_12_18, pf_12_18, gf_12_19, pf_12_19, gf_12_20, pf_12_20, o, e, t0, z, Int.toNat_natCast]
    rw [if_pos (by omega)]; rfl
theorem lm_store {x0 x2 x11 x12 x13 x14 x15 : am_V} {F : Nat → Int} {i : Nat} (hi : i < 10) : ∀ (d k : Nat) (h : am_H) (A B : Nat → Int), k + d = 19 → MoA h x0 x2 (vI (i : Int)) x11 x12 x13 x14 x15 → h.1 124 = cI 0 19 F → h.1 125 = cI 0 190 A → (∀ j, j < k → A (19 * i + j) = F j) → (∀ j, ¬ (19 * i ≤ j ∧ j < 19 * i + 19) → A j = B j) → ∃ h' A', gv mMod_keeps 51 [vR 120, vI (k : Int)] [] h = some (none, h') ∧ h'.1 125 = cI 0 190 A' ∧ (∀ j, j < 19 → A' (19 * i + j) = F j) ∧ (∀ j, ¬ (19 * i ≤ j ∧ j < 19 * i + 19) → A' j = B j) ∧ MoA h' x0 x2 (vI ((i : Int) + 1)) x11 x12 x13 x14 x15 ∧ FE [120, 125] h h' := by
  intro d
  induction d with
  | zero =>
    intro k h A B hk o b e he hB
    have : k = 19 := by omega
    subst this
    unfold MoA at o ⊢
    refine ⟨hS h 120 (cO 12 [x0, vR 121, x2, vR 122, vR 123, vR 124, vR 125, vI ((i : Int) + 1), vR 126, vR 127, vR 128, x11, x12, x13, x14, x15, vR 129, vR 130, vR 131, vR 132, vR 133]), A, ?_, (hS_ne (by decide)).trans e, he, hB, hS_same, FE.st (by decide)⟩
    rw [e_Mod_keeps_51]
    simp (disch := omega) only [e_Mod_keeps_0, e_Mod_keeps_1, e_Mod_keeps_4, e_Mod_keeps_6, e_Mod_keeps_9, e_Mod_keeps_10, e_Mod_keeps_11, e_Mod_keeps_12, e_Mod_keeps_15, e_Mod_keeps_18, e_Mod_keeps_19, e_Mod_keeps_22, e_Mod_keeps_23, e_Mod_keeps_24, e_Mod_keeps_27, e_Mod_keeps_28, e_Mod_keeps_30, e_Mod_keeps_31, e_Mod_keeps_32, e_Mod_keeps_33, e_Mod_keeps_36, e_Mod_keeps_39, e_Mod_keeps_40, e_Mod_keeps_41, e_Mod_keeps_44, e_Mod_keeps_45, e_Mod_keeps_46, e_Mod_keeps_49, e_Mod_keeps_50, e_Mod_keeps_52, e_Mod_keeps_54, e_Mod_keeps_57, e_Mod_keeps_58, e_Mod_keeps_61, e_Mod_keeps_63, e_Mod_keeps_64, e_Mod_keeps_67, e_Mod_keeps_68, e_Mod_keeps_69, e_Mod_keeps_70, e_Mod_keeps_71, e_Mod_keeps_74, e_Mod_keeps_75, e_Mod_keeps_76, e_Mod_keeps_77, e_Mod_keeps_80, e_Mod_keeps_83, e_Mod_keeps_84, e_Mod_keeps_85, e_Mod_keeps_88, e_Mod_keeps_89, e_Mod_keeps_90, e_Mod_keeps_93, alk_in, ask_in, blk_in, bsk_in, qlk_in, ack_in, rcv_in, rcA_in, bk_i, bk_l, bk_v, hS_same, hS_ne, hS_hS, hS_2, am_10, am_01, am_00, if_true, if_false, gf_12_0, pf_12_0, gf_12_1, pf_12_1, gf_12_2, pf_12_2, gf_12_3, pf_12_3, gf_12_4, pf_12_4, gf_12_5, pf_12_5, gf_12_6, pf_12_6, gf_12_7, pf_12_7, gf_12_8, pf_12_8, gf_12_9, pf_12_9, gf_12_10, pf_12_10, gf_12_11, pf_12_11, gf_12_12, pf_12_12, gf_12_13, pf_12_13, gf_12_14, pf_12_14, gf_12_15, pf_12_15, gf_12_16, pf_12_16, gf_12_17, pf_12_17, gf_12_18, pf_12_18, gf_12_19, pf_12_19, gf_12_20, pf_12_20, o]
    rw [if_neg (by omega)]
  | succ d ih =>
    intro k h A B hk o b e he hB
    have fe : FE [120, 125] h (hS h 125 (cI 0 190 (fun j => if j = 19 * i + k then F k else A j))) := FE.st (by decide)
    have fe' : FE [125] h (hS h 125 (cI 0 190 (fun j => if j = 19 * i + k then F k else A j))) := FE.st (by decide)
    obtain ⟨h', A', e1, e2, e3, e4, e5, f1⟩ := ih (k + 1) _ _ B (by omega) (fe'.at o (by decide)) (fe.at b (by decide)) hS_same (fun j hj => by
      by_cases q : j = k
      · simp [q]
      · rw [if_neg (by omega)]; exact he j (by omega)) (fun j hj => by rw [if_neg (by omega)]; exact hB j hj)
    refine ⟨h', A', ?_, e2, e3, e4, e5, fe.tr f1⟩
    unfold MoA at o
    rw [e_Mod_keeps_51, ← e1]
    have t0 : (19 * (i : Int) + (k : Int)).toNat = 19 * i + k := by omega
    simp (disch := omega) only [e_Mod_keeps_0, e_Mod_keeps_1, e_Mod_keeps_4, e_Mod_keeps_6, e_Mod_keeps_9, e_Mod_keeps_10, e_Mod_keeps_11, e_Mod_keeps_12, e_Mod_keeps_15, e_Mod_keeps_18, e_Mod_keeps_19, e_Mod_keeps_22, e_Mod_keeps_23, e_Mod_keeps_24, e_Mod_keeps_27, e_Mod_keeps_28, e_Mod_keeps_30, e_Mod_keeps_31, e_Mod_keeps_32, e_Mod_keeps_33, e_Mod_keeps_36, e_Mod_keeps_39, e_Mod_keeps_40, e_Mod_keeps_41, e_Mod_keeps_44, e_Mod_keeps_45, e_Mod_keeps_46, e_Mod_keeps_49, e_Mod_keeps_50, e_Mod_keeps_52, e_Mod_keeps_54, e_Mod_keeps_57, e_Mod_keeps_58, e_Mod_keeps_61, e_Mod_keeps_63, e_Mod_keeps_64, e_Mod_keeps_67, e_Mod_keeps_68, e_Mod_keeps_69, e_Mod_keeps_70, e_Mod_keeps_71, e_Mod_keeps_74, e_Mod_keeps_75, e_Mod_keeps_76, e_Mod_keeps_77, e_Mod_keeps_80, e_Mod_keeps_83, e_Mod_keeps_84, e_Mod_keeps_85, e_Mod_keeps_88, e_Mod_keeps_89, e_Mod_keeps_90, e_Mod_keeps_93, alk_in, ask_in, blk_in, bsk_in, qlk_in, ack_in, rcv_in, rcA_in, bk_i, bk_l, bk_v, hS_same, hS_ne, hS_hS, hS_2, am_10, am_01, am_00, if_true, if_false, gf_12_0, pf_12_0, gf_12_1, pf_12_1, gf_12_2, pf_12_2, gf_12_3, pf_12_3, gf_12_4, pf_12_4, gf_12_5, pf_12_5, gf_12_6, pf_12_6, gf_12_7, pf_12_7, gf_12_8, pf_12_8, gf_12_9, pf_12_9, gf_12_10, pf_12_10, gf_12_11, pf_12_11, gf_12_12, pf_12_12, gf_12_13, pf_12_13, gf_12_14, pf_12_14, gf_12_15, pf_12_15, gf_12_16, pf_12_16, gf_12_17, pf_12_17, gf_12_18, pf_12_18, gf_12_19, pf_12_19, gf_12_20, pf_12_20, o, b, e, t0, Int.toNat_natCast]
    rw [if_pos (by omega)]; rfl
theorem lm_put {Z : St} (C : MZ h tr L kk G Z) (hn : G.1 ≤ 6) (hk : Z.2.1 < 10) : ∃ h', gv mMod_keeps 51 [vR 120, vI 0] [] h = some (none, h') ∧ MZ h' tr L kk G (Z.1, Z.2.1 + 1, fun j => if j = Z.2.1 then Z.1 else Z.2.2 j) ∧ FE [120, 125] h h' := by
  obtain ⟨T, k, p⟩ := Z
  obtain ⟨O, S, ⟨P, a, r⟩, s⟩ := C
  simp only at O S a r hk ⊢
  obtain ⟨y0, y2, y7, y11, y12, y13, y14, y15, T', F, o', ta, b, r0, r1, r2, r3, rr⟩ := S
  obtain ⟨x12, x13, x14, x15, o⟩ := O
  obtain ⟨h', A', e1, e2, e3, e4, e5, f1⟩ := lm_store hk 19 0 h P P (by omega) o b a (fun j hj => by omega) (fun j hj => rfl)
  refine ⟨h', e1, ⟨⟨_, _, _, _, e5⟩, ⟨_, _, _, _, _, _, _, _, T', F, e5, f1.at ta (by decide), f1.at b (by decide), r0, r1, r2, r3, rr⟩, ⟨A', e2, ?_⟩, s.fe f1 (by decide)⟩, f1⟩
  intro i hi
  simp only at hi ⊢
  by_cases w : i = k
  · subst w
    rw [if_pos rfl]
    refine ⟨by rw [show 19 * i = 19 * i + 0 from rfl, e3 0 (by omega)]; exact r3, fun l hl => ?_⟩
    rw [show 19 * i + 1 + l = 19 * i + (1 + l) by omega, show 19 * i + 7 + l = 19 * i + (7 + l) by omega, show 19 * i + 13 + l = 19 * i + (13 + l) by omega, e3 _ (by omega), e3 _ (by omega), e3 _ (by omega)]
    exact (rr l hl).2
  · rw [if_neg w]
    have y := r i (by omega)
    refine ⟨by rw [e4 _ (by omega)]; exact y.1, fun l hl => ?_⟩
    rw [e4 _ (by omega), e4 _ (by omega), e4 _ (by omega)]
    exact y.2 l hl
theorem q_keeps {Z : St} (C : MZ h tr L kk G Z) (hn : G.1 ≤ 6) (hk : Z.2.1 ≤ 10) : ∃ h', ev mMod_keeps [vR 120] h = some (none, h') ∧ MZ h' tr L kk G (doP Z Z.1) ∧ FE [120, 125] h h' := by
  obtain ⟨T, k, p⟩ := Z
  simp only at hk
  unfold doP pushP
  simp only
  by_cases q : k < 10
  · rw [if_neg (by omega)]
    obtain ⟨h', e1, C1, f1⟩ := lm_put C hn q
    refine ⟨h', ?_, C1, f1⟩
    obtain ⟨⟨x12, x13, x14, x15, o⟩, -⟩ := C
    unfold MoA at o
    simp only at o
    rw [ev_Mod_keeps, ← e1]
    simp (disch := omega) only [e_Mod_keeps_0, e_Mod_keeps_1, e_Mod_keeps_4, e_Mod_keeps_6, e_Mod_keeps_9, e_Mod_keeps_10, e_Mod_keeps_12, e_Mod_keeps_15, e_Mod_keeps_18, e_Mod_keeps_19, e_Mod_keeps_22, e_Mod_keeps_23, e_Mod_keeps_24, e_Mod_keeps_27, e_Mod_keeps_28, e_Mod_keeps_30, e_Mod_keeps_31, e_Mod_keeps_32, e_Mod_keeps_33, e_Mod_keeps_36, e_Mod_keeps_40, e_Mod_keeps_41, e_Mod_keeps_44, e_Mod_keeps_45, e_Mod_keeps_46, e_Mod_keeps_49, e_Mod_keeps_50, e_Mod_keeps_52, e_Mod_keeps_54, e_Mod_keeps_57, e_Mod_keeps_58, e_Mod_keeps_61, e_Mod_keeps_63, e_Mod_keeps_64, e_Mod_keeps_67, e_Mod_keeps_68, e_Mod_keeps_69, e_Mod_keeps_70, e_Mod_keeps_71, e_Mod_keeps_74, e_Mod_keeps_75, e_Mod_keeps_76, e_Mod_keeps_77, e_Mod_keeps_80, e_Mod_keeps_83, e_Mod_keeps_84, e_Mod_keeps_85, e_Mod_keeps_88, e_Mod_keeps_89, e_Mod_keeps_90, e_Mod_keeps_93, alk_in, ask_in, blk_in, bsk_in, qlk_in, ack_in, rcv_in, rcA_in, bk_i, bk_l, bk_v, hS_same, hS_ne, hS_hS, hS_2, am_10, am_01, am_00, if_true, if_false, gf_12_0, pf_12_0, gf_12_1, pf_12_1, gf_12_2, pf_12_2, gf_12_3, pf_12_3, gf_12_4, pf_12_4, gf_12_5, pf_12_5, gf_12_6, pf_12_6, gf_12_7, pf_12_7, gf_12_8, pf_12_8, gf_12_9, pf_12_9, gf_12_10, pf_12_10, gf_12_11, pf_12_11, gf_12_12, pf_12_12, gf_12_13, pf_12_13, gf_12_14, pf_12_14, gf_12_15, pf_12_15, gf_12_16, pf_12_16, gf_12_17, pf_12_17, gf_12_18, pf_12_18, gf_12_19, pf_12_19, gf_12_20, pf_12_20, o]
    rw [if_neg (by omega)]
  · have : k = 10 := by omega
    subst this
    rw [if_pos (by omega)]
    obtain ⟨⟨x12, x13, x14, x15, o⟩, S, ⟨P, a, r⟩, s⟩ := C
    simp only at o S a r
    obtain ⟨h1, A, e1, a1, a2, f1⟩ := lm_shift (P := P) 171 0 h P (by omega) o a (fun j => by rw [if_neg (by omega)])
    have o1 := f1.at o (by decide)
    let h2 := hS h1 120 (cO 12 [vL tr, vR 121, vI L, vR 122, vR 123, vR 124, vR 125, vI 9, vR 126, vR 127, vR 128, vI kk, x12, x13, x14, x15, vR 129, vR 130, vR 131, vR 132, vR 133])
    have f2 : FE [120, 125] h1 h2 := FE.st (by decide)
    have f2' : FE [120] h1 h2 := FE.st (by decide)
    have C2 : MZ h2 tr L kk G (T, 9, fun j => p (j + 1)) := by
      refine ⟨⟨x12, x13, x14, x15, hS_same⟩, RM.obj (S.fe f1 (by decide)) _ _ _ _ _ _ _ _, ⟨A, f2'.at a1 (by decide), ?_⟩, (s.fe f1 (by decide)).fe f2 (by decide)⟩
      intro i hi
      simp only at hi ⊢
      have y := r (i + 1) (by omega)
      refine ⟨by rw [a2, if_pos (by omega), show 19 * i + 19 = 19 * (i + 1) by omega]; exact y.1, fun l hl => ?_⟩
      rw [a2, a2, a2, if_pos (by omega), if_pos (by omega), if_pos (by omega), show 19 * i + 1 + l + 19 = 19 * (i + 1) + 1 + l by omega, show 19 * i + 7 + l + 19 = 19 * (i + 1) + 7 + l by omega, show 19 * i + 13 + l + 19 = 19 * (i + 1) + 13 + l by omega]
      exact y.2 l hl
    obtain ⟨h', e3, C3, f3⟩ := lm_put C2 hn (by show 9 < 10; omega)
    refine ⟨h', ?_, C3, ((f1.wd (by decide)).tr f2).tr f3⟩
    unfold MoA at o o1
    rw [ev_Mod_keeps, ← e3]
    simp (disch := omega) only [e_Mod_keeps_0, e_Mod_keeps_1, e_Mod_keeps_4, e_Mod_keeps_6, e_Mod_keeps_9, e_Mod_keeps_10, e_Mod_keeps_12, e_Mod_keeps_15, e_Mod_keeps_18, e_Mod_keeps_19, e_Mod_keeps_22, e_Mod_keeps_23, e_Mod_keeps_24, e_Mod_keeps_27, e_Mod_keeps_28, e_Mod_keeps_30, e_Mod_keeps_31, e_Mod_keeps_32, e_Mod_keeps_33, e_Mod_keeps_36, e_Mod_keeps_40, e_Mod_keeps_41, e_Mod_keeps_44, e_Mod_keeps_45, e_Mod_keeps_46, e_Mod_keeps_49, e_Mod_keeps_50, e_Mod_keeps_52, e_Mod_keeps_54, e_Mod_keeps_57, e_Mod_keeps_58, e_Mod_keeps_61, e_Mod_keeps_63, e_Mod_keeps_64, e_Mod_keeps_67, e_Mod_keeps_68, e_Mod_keeps_69, e_Mod_keeps_70, e_Mod_keeps_71, e_Mod_keeps_74, e_Mod_keeps_75, e_Mod_keeps_76, e_Mod_keeps_77, e_Mod_keeps_80, e_Mod_keeps_83, e_Mod_keeps_84, e_Mod_keeps_85, e_Mod_keeps_88, e_Mod_keeps_89, e_Mod_keeps_90, e_Mod_keeps_93, alk_in, ask_in, blk_in, bsk_in, qlk_in, ack_in, rcv_in, rcA_in, bk_i, bk_l, bk_v, hS_same, hS_ne, hS_hS, hS_2, am_10, am_01, am_00, if_true, if_false, gf_12_0, pf_12_0, gf_12_1, pf_12_1, gf_12_2, pf_12_2, gf_12_3, pf_12_3, gf_12_4, pf_12_4, gf_12_5, pf_12_5, gf_12_6, pf_12_6, gf_12_7, pf_12_7, gf_12_8, pf_12_8, gf_12_9, pf_12_9, gf_12_10, pf_12_10, gf_12_11, pf_12_11, gf_12_12, pf_12_12, gf_12_13, pf_12_13, gf_12_14, pf_12_14, gf_12_15, pf_12_15, gf_12_16, pf_12_16, gf_12_17, pf_12_17, gf_12_18, pf_12_18, gf_12_19, pf_12_19, gf_12_20, pf_12_20, o]
    rw [if_pos (by omega)]
    have e1' := e1
    simp only [show ((0 : Nat) : Int) = 0 from rfl] at e1'
    rw [e1']
    simp (disch := omega) only [e_Mod_keeps_0, e_Mod_keeps_1, e_Mod_keeps_4, e_Mod_keeps_6, e_Mod_keeps_9, e_Mod_keeps_10, e_Mod_keeps_12, e_Mod_keeps_15, e_Mod_keeps_18, e_Mod_keeps_19, e_Mod_keeps_22, e_Mod_keeps_23, e_Mod_keeps_24, e_Mod_keeps_27, e_Mod_keeps_28, e_Mod_keeps_30, e_Mod_keeps_31, e_Mod_keeps_32, e_Mod_keeps_33, e_Mod_keeps_36, e_Mod_keeps_39, e_Mod_keeps_40, e_Mod_keeps_41, e_Mod_keeps_44, e_Mod_keeps_45, e_Mod_keeps_46, e_Mod_keeps_49, e_Mod_keeps_50, e_Mod_keeps_52, e_Mod_keeps_54, e_Mod_keeps_57, e_Mod_keeps_58, e_Mod_keeps_61, e_Mod_keeps_63, e_Mod_keeps_64, e_Mod_keeps_67, e_Mod_keeps_68, e_Mod_keeps_69, e_Mod_keeps_70, e_Mod_keeps_71, e_Mod_keeps_74, e_Mod_keeps_75, e_Mod_keeps_76, e_Mod_keeps_77, e_Mod_keeps_80, e_Mod_keeps_83, e_Mod_keeps_84, e_Mod_keeps_85, e_Mod_keeps_88, e_Mod_keeps_89, e_Mod_keeps_90, e_Mod_keeps_93, alk_in, ask_in, blk_in, bsk_in, qlk_in, ack_in, rcv_in, rcA_in, bk_i, bk_l, bk_v, hS_same, hS_ne, hS_hS, hS_2, am_10, am_01, am_00, if_true, if_false, gf_12_0, pf_12_0, gf_12_1, pf_12_1, gf_12_2, pf_12_2, gf_12_3, pf_12_3, gf_12_4, pf_12_4, gf_12_5, pf_12_5, gf_12_6, pf_12_6, gf_12_7, pf_12_7, gf_12_8, pf_12_8, gf_12_9, pf_12_9, gf_12_10, pf_12_10, gf_12_11, pf_12_11, gf_12_12, pf_12_12, gf_12_13, pf_12_13, gf_12_14, pf_12_14, gf_12_15, pf_12_15, gf_12_16, pf_12_16, gf_12_17, pf_12_17, gf_12_18, pf_12_18, gf_12_19, pf_12_19, gf_12_20, pf_12_20, o1]
    rfl
theorem lm_undo {x0 x2 x11 x12 x13 x14 x15 : am_V} {A : Nat → Int} {i : Nat} (hi : i < 10) : ∀ (d k : Nat) (h : am_H) (F : Nat → Int), k + d = 19 → MoA h x0 x2 (vI (i : Int)) x11 x12 x13 x14 x15 → h.1 124 = cI 0 19 F → h.1 125 = cI 0 190 A → (∀ j, j < k → F j = A (19 * i + j)) → ∃ h' F', gv mMod_undo 22 [vR 120, vI (k : Int)] [] h = some (some (vI (i : Int)), h') ∧ h'.1 124 = cI 0 19 F' ∧ (∀ j, j < 19 → F' j = A (19 * i + j)) ∧ FE [124] h h' := by
  intro d
  induction d with
  | zero =>
    intro k h F hk o b e he
    have : k = 19 := by omega
    subst this
    unfold MoA at o
    refine ⟨h, F, ?_, b, he, FE.rf⟩
    rw [e_Mod_undo_22]
    simp (disch := omega) only [e_Mod_undo_0, e_Mod_undo_1, e_Mod_undo_4, e_Mod_undo_4b, e_Mod_undo_7, e_Mod_undo_9, e_Mod_undo_10, e_Mod_undo_11, e_Mod_undo_12, e_Mod_undo_15, e_Mod_undo_16, e_Mod_undo_17, e_Mod_undo_20, e_Mod_undo_21, e_Mod_undo_23, e_Mod_undo_25, e_Mod_undo_28, e_Mod_undo_29, e_Mod_undo_32, e_Mod_undo_33, e_Mod_undo_34, e_Mod_undo_37, e_Mod_undo_39, e_Mod_undo_40, e_Mod_undo_43, e_Mod_undo_44, e_Mod_undo_45, e_Mod_undo_46, e_Mod_undo_47, e_Mod_undo_48, e_Mod_undo_51, e_Mod_undo_54, e_Mod_undo_55, e_Mod_undo_58, alk_in, ask_in, blk_in, bsk_in, qlk_in, ack_in, rcv_in, rcA_in, bk_i, bk_l, bk_v, hS_same, hS_ne, hS_hS, hS_2, am_10, am_01, am_00, if_true, if_false, gf_12_0, pf_12_0, gf_12_1, pf_12_1, gf_12_2, pf_12_2, gf_12_3, pf_12_3, gf_12_4, pf_12_4, gf_12_5, pf_12_5, gf_12_6, pf_12_6, gf_12_7, pf_12_7, gf_12_8, pf_12_8, gf_12_9, pf_12_9, gf_12_10, pf_12_10, gf_12_11, pf_12_11, gf_12_12, pf_12_12, gf_12_13, pf_12_13, gf_12_14, pf_12_14, gf_12_15, pf_12_15, gf_12_16, pf_12_16, gf_12_17, pf_12_17, gf_12_18, pf_12_18, gf_12_19, pf_12_19, gf_12_20, pf_12_20, o]
    rw [if_neg (by omega)]
  | succ d ih =>
    intro k h F hk o b e he
    have fe : FE [124] h (hS h 124 (cI 0 19 (fun j => if j = k then A (19 * i + k) else F j))) := FE.st (by decide)
    obtain ⟨h', F', e1, e2, e3, f1⟩ := ih (k + 1) _ _ (by omega) (fe.at o (by decide)) hS_same (fe.at e (by decide)) (fun j hj => by
      by_cases q : j = k
      · simp [q]
      · rw [if_neg q]; exact he j (by omega))
    refine ⟨h', F', ?_, e2, e3, fe.tr f1⟩
    unfold MoA at o
    rw [e_Mod_undo_22, ← e1]
    have t0 : (19 * (i : Int) + (k : Int)).toNat = 19 * i + k := by omega
    simp (disch := omega) only [e_Mod_undo_0, e_Mod_undo_1, e_Mod_undo_4, e_Mod_undo_4b, e_Mod_undo_7, e_Mod_undo_9, e_Mod_undo_10, e_Mod_undo_11, e_Mod_undo_12, e_Mod_undo_15, e_Mod_undo_16, e_Mod_undo_17, e_Mod_undo_20, e_Mod_undo_21, e_Mod_undo_23, e_Mod_undo_25, e_Mod_undo_28, e_Mod_undo_29, e_Mod_undo_32, e_Mod_undo_33, e_Mod_undo_34, e_Mod_undo_37, e_Mod_undo_39, e_Mod_undo_40, e_Mod_undo_43, e_Mod_undo_44, e_Mod_undo_45, e_Mod_undo_46, e_Mod_undo_47, e_Mod_undo_48, e_Mod_undo_51, e_Mod_undo_54, e_Mod_undo_55, e_Mod_undo_58, alk_in, ask_in, blk_in, bsk_in, qlk_in, ack_in, rcv_in, rcA_in, bk_i, bk_l, bk_v, hS_same, hS_ne, hS_hS, hS_2, am_10, am_01, am_00, if_true, if_false, gf_12_0, pf_12_0, gf_12_1, pf_12_1, gf_12_2, pf_12_2, gf_12_3, pf_12_3, gf_12_4, pf_12_4, gf_12_5, pf_12_5, gf_12_6, pf_12_6, gf_12_7, pf_12_7, gf_12_8, pf_12_8, gf_12_9, pf_12_9, gf_12_10, pf_12_10, gf_12_11, pf_12_11, gf_12_12, pf_12_12, gf_12_13, pf_12_13, gf_12_14, pf_12_14, gf_12_15, pf_12_15, gf_12_16, pf_12_16, gf_12_17, pf_12_17, gf_12_18, pf_12_18, gf_12_19, pf_12_19, gf_12_20, pf_12_20, o, b, e, t0, Int.toNat_natCast]
    rw [if_pos (by omega)]; rfl
theorem q_undo {Z : St} (C : MZ h tr L kk G Z) (hn : G.1 ≤ 6) (hk : Z.2.1 ≤ 10) : ∃ h', ev mMod_undo [vR 120] h = some (some (vI (aUnd Z)), h') ∧ MZ h' tr L kk G (nUnd Z) ∧ FE [120, 124] h h' := by
  have C0 := C
  obtain ⟨T, k, p⟩ := Z
  obtain ⟨⟨x12, x13, x14, x15, o⟩, S, ⟨P, a, r⟩, s⟩ := C
  simp only at o S a r hk
  unfold aUnd nUnd
  simp only
  by_cases q : k = 0
  · rw [if_pos q, if_pos q]
    refine ⟨h, ?_, C0, FE.rf⟩
    unfold MoA at o
    rw [ev_Mod_undo]
    simp (disch := omega) only [e_Mod_undo_0, e_Mod_undo_1, e_Mod_undo_4, e_Mod_undo_4b, e_Mod_undo_7, e_Mod_undo_9, e_Mod_undo_10, e_Mod_undo_11, e_Mod_undo_12, e_Mod_undo_15, e_Mod_undo_16, e_Mod_undo_17, e_Mod_undo_20, e_Mod_undo_21, e_Mod_undo_23, e_Mod_undo_25, e_Mod_undo_28, e_Mod_undo_29, e_Mod_undo_32, e_Mod_undo_33, e_Mod_undo_34, e_Mod_undo_37, e_Mod_undo_39, e_Mod_undo_40, e_Mod_undo_43, e_Mod_undo_44, e_Mod_undo_45, e_Mod_undo_46, e_Mod_undo_47, e_Mod_undo_48, e_Mod_undo_51, e_Mod_undo_54, e_Mod_undo_55, e_Mod_undo_58, alk_in, ask_in, blk_in, bsk_in, qlk_in, ack_in, rcv_in, rcA_in, bk_i, bk_l, bk_v, hS_same, hS_ne, hS_hS, hS_2, am_10, am_01, am_00, if_true, if_false, gf_12_0, pf_12_0, gf_12_1, pf_12_1, gf_12_2, pf_12_2, gf_12_3, pf_12_3, gf_12_4, pf_12_4, gf_12_5, pf_12_5, gf_12_6, pf_12_6, gf_12_7, pf_12_7, gf_12_8, pf_12_8, gf_12_9, pf_12_9, gf_12_10, pf_12_10, gf_12_11, pf_12_11, gf_12_12, pf_12_12, gf_12_13, pf_12_13, gf_12_14, pf_12_14, gf_12_15, pf_12_15, gf_12_16, pf_12_16, gf_12_17, pf_12_17, gf_12_18, pf_12_18, gf_12_19, pf_12_19, gf_12_20, pf_12_20, o]
    rw [if_pos (by omega)]
  · rw [if_neg q, if_neg q]
    obtain ⟨k, rfl⟩ : ∃ j, k = j + 1 := ⟨k - 1, by omega⟩
    simp only [Nat.add_sub_cancel]
    let h1 := hS h 120 (cO 12 [vL tr, vR 121, vI L, vR 122, vR 123, vR 124, vR 125, vI (k : Int), vR 126, vR 127, vR 128, vI kk, x12, x13, x14, x15, vR 129, vR 130, vR 131, vR 132, vR 133])
    have f1 : FE [120, 124] h h1 := FE.st (by decide)
    have f1' : FE [120] h h1 := FE.st (by decide)
    obtain ⟨y0, y2, y7, y11, y12, y13, y14, y15, T', F, o', ta, b, r0, r1, r2, r3, rr⟩ := S
    obtain ⟨h2, F', e2, b2, e3, f2⟩ := lm_undo (show k < 10 by omega) 19 0 h1 F (by omega) hS_same (f1'.at b (by decide)) (f1'.at a (by decide)) (fun j hj => by omega)
    have o2 : MoA h2 (vL tr) (vI L) (vI (k : Int)) (vI kk) x12 x13 x14 x15 := f2.at (x := 120) hS_same (by decide)
    have y := r k (by omega)
    refine ⟨h2, ?_, ⟨⟨_, _, _, _, o2⟩, ⟨_, _, _, _, _, _, _, _, T', F', o2, f2.at (f1'.at ta (by decide)) (by decide), b2, r0, r1, r2, by rw [e3 0 (by omega)]; exact y.1, fun l hl => ?_⟩, ⟨P, f2.at (f1'.at a (by decide)) (by decide), fun i hi => r i (by simp only at hi; omega)⟩, (s.fe f1 (by decide)).fe f2 (by decide)⟩, f1.tr (f2.wd (by decide))⟩
    · have t : ((k + 1 : Nat) : Int) - 1 = (k : Int) := by omega
      unfold MoA at o
      rw [ev_Mod_undo]
      simp (disch := omega) only [e_Mod_undo_0, e_Mod_undo_1, e_Mod_undo_4, e_Mod_undo_4b, e_Mod_undo_7, e_Mod_undo_9, e_Mod_undo_10, e_Mod_undo_11, e_Mod_undo_12, e_Mod_undo_15, e_Mod_undo_16, e_Mod_undo_17, e_Mod_undo_20, e_Mod_undo_21, e_Mod_undo_23, e_Mod_undo_25, e_Mod_undo_28, e_Mod_undo_29, e_Mod_undo_32, e_Mod_undo_33, e_Mod_undo_34, e_Mod_undo_37, e_Mod_undo_39, e_Mod_undo_40, e_Mod_undo_43, e_Mod_undo_44, e_Mod_undo_45, e_Mod_undo_46, e_Mod_undo_47, e_Mod_undo_48, e_Mod_undo_51, e_Mod_undo_54, e_Mod_undo_55, e_Mod_undo_58, alk_in, ask_in, blk_in, bsk_in, qlk_in, ack_in, rcv_in, rcA_in, bk_i, bk_l, bk_v, hS_same, hS_ne, hS_hS, hS_2, am_10, am_01, am_00, if_true, if_false, gf_12_0, pf_12_0, gf_12_1, pf_12_1, gf_12_2, pf_12_2, gf_12_3, pf_12_3, gf_12_4, pf_12_4, gf_12_5, pf_12_5, gf_12_6, pf_12_6, gf_12_7, pf_12_7, gf_12_8, pf_12_8, gf_12_9, pf_12_9, gf_12_10, pf_12_10, gf_12_11, pf_12_11, gf_12_12, pf_12_12, gf_12_13, pf_12_13, gf_12_14, pf_12_14, gf_12_15, pf_12_15, gf_12_16, pf_12_16, gf_12_17, pf_12_17, gf_12_18, pf_12_18, gf_12_19, pf_12_19, gf_12_20, pf_12_20, o, t]
      rw [if_neg (by omega)]
      exact e2
    · have z := y.2 l hl
      rw [e3 _ (by omega), e3 _ (by omega), e3 _ (by omega), show 19 * k + (1 + l) = 19 * k + 1 + l by omega, show 19 * k + (7 + l) = 19 * k + 7 + l by omega, show 19 * k + (13 + l) = 19 * k + 13 + l by omega]
      exact ⟨(rr l hl).1, z⟩
end MPast
