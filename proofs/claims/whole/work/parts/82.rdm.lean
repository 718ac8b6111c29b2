/-! the text: the model reads -/
def TkM (L : Nat) (g : Nat → Int) (x0 x7 x11 : am_V) (tE tS : Nat → Nat) (tC tN : Nat → Int) : Prop := ∀ (h : am_H) (p : Nat) (x13 x14 x15 : am_V), p ≤ L → MoA h x0 (vI (L : Int)) x7 x11 (vI (p : Int)) x13 x14 x15 → h.1 121 = cI 0 120 g → ∃ h' s v, ev mMod_token [vR 120] h = some (none, h') ∧ MoA h' x0 (vI (L : Int)) x7 x11 (vI (tE p : Int)) (vI s) (vI (tS p : Int)) (vI v) ∧ MTk (tC p) (tN p) s v ∧ FE [120] h h'
def MxG (L : Nat) (g : Nat → Int) (x0 x7 x11 : am_V) (tE tS : Nat → Nat) (tC tN : Nat → Int) : Prop := L ≤ 120 ∧ TkO L tE tS tC tN ∧ TkM L g x0 x7 x11 tE tS tC tN
theorem tk_mod {L : Nat} {f g : Nat → Int} {x0 x7 x11 : am_V} (hL : L ≤ 120) (hg : EqB L g f) (hf : ∀ j, j < L → 0 ≤ f j ∧ f j ≤ 255) : TkM L g x0 x7 x11 (tkE L f) (tkS L f) (tkC L f) (tkN L f) := fun _ _ _ _ _ hp o G => m_token hL hg hf hp o G
def MDa (A : Nat → Int) (D : Dr) : Prop := A 0 = (D.1.2.1 : Int) ∧ A 1 = (D.1.1 : Int) ∧ A 2 = D.1.2.2.1 ∧ A 3 = (D.2.2.2 : Int) ∧ A 4 = (D.2.2.1 : Int) ∧ ∀ j, j < D.1.1 → A (5 + j) = D.1.2.2.2 j ∧ A (11 + j) = D.2.1.2.1 j ∧ A (17 + j) = D.2.1.2.2.1 j ∧ A (23 + j) = D.2.1.2.2.2 j
theorem tn_11 (m : Nat) : (11 + (m : Int)).toNat = 11 + m := by omega
theorem tn_17 (m : Nat) : (17 + (m : Int)).toNat = 17 + m := by omega
theorem tn_23 (m : Nat) : (23 + (m : Int)).toNat = 23 + m := by omega
section RdM
variable {h : am_H} {L p : Nat} {g : Nat → Int} {x0 x7 x11 x13 x14 x15 : am_V} {tE tS : Nat → Nat} {tC tN : Nat → Int} {A : Nat → Int}
theorem MTk.fit {s v : Int} (m : MTk (tC p) (tN p) s v) {a b : Int} (hab : 0 ≤ a ∧ b ≤ 99) : (fit tC tN p a b → s = 2 ∧ v = tN p) ∧ (¬ fit tC tN p a b → ¬ (s = 2 ∧ a ≤ v ∧ v ≤ b)) := by
  obtain ⟨m1, m2⟩ := m
  refine ⟨fun q => ?_, fun q z => q ?_⟩
  · have := q.1
    omega
  · rcases m2 with m | m | m | m | m
    · omega
    · exact ⟨m.1, by omega, by omega⟩
    · omega
    · omega
    · omega
theorem m_number1 {P : Nat} {a b : Int} (X : MxG L g x0 x7 x11 tE tS tC tN) (hp : p ≤ L) (o : MoA h x0 (vI (L : Int)) x7 x11 (vI (p : Int)) x13 x14 x15) (G : h.1 121 = cI 0 120 g) (A1 : h.1 123 = cI 0 29 A) (hP : P < 29) (hab : (0 ≤ a ∧ a ≤ 99) ∧ -5 ≤ b ∧ b ≤ 99) (hf : fit tC tN p a b) : ∃ h' s v, ev mMod_number [vR 120, vI (P : Int), vI a, vI b] h = some (some (vI 1), h') ∧ MoA h' x0 (vI (L : Int)) x7 x11 (vI (tE p : Int)) (vI s) (vI (tS p : Int)) (vI v) ∧ h'.1 123 = cI 0 29 (fun j => if j = P then tN p else A j) ∧ FE [120, 123] h h' := by
  obtain ⟨h1, s, v, e1, o1, m1, f1⟩ := X.2.2 h p x13 x14 x15 hp o G
  have mf := (m1.fit (a := a) (b := b) (by omega)).1 hf
  have mr := m1.1
  have c1 := c_min (h := hS h1 123 (cI 0 29 (fun j => if j = P then v else A j))) (v := v) (x := a) (y := b) (by omega) (by omega) (by omega)
  rw [if_pos (by have := hf.2; omega)] at c1
  refine ⟨hS h1 123 (cI 0 29 (fun j => if j = P then v else A j)), s, v, ?_, by unfold MoA; rw [hS_ne (by omega)]; exact o1, by rw [hS_same, mf.2], (f1.wd (by decide)).tr (FE.st (by decide))⟩
  have A2 := f1.at A1 (by decide)
  unfold MoA at o o1
  have s2 := mf.1
  subst s2
  rw [ev_Mod_number]
  simp (disch := omega) only [e_Mod_number_0, e_Mod_number_1, e_Mod_number_4, e_Mod_number_5, e_Mod_number_8, e_Mod_number_9, e_Mod_number_10, e_Mod_number_13, e_Mod_number_14, e_Mod_number_15, e_Mod_number_18, e_Mod_number_19, e_Mod_number_22, e_Mod_number_23, e_Mod_number_26, e_Mod_number_27, e_Mod_number_28, e_Mod_number_31, e_Mod_number_31b, e_Mod_number_34, e_Mod_number_35, e_Mod_number_38, e_Mod_number_39, alk_in, ask_in, blk_in, bsk_in, qlk_in, ack_in, rcv_in, rcA_in, bk_i, bk_l, bk_v, hS_same, hS_ne, hS_hS, hS_2, am_10, am_01, am_00, if_true, if_false, gf_12_0, pf_12_0, gf_12_1, pf_12_1, gf_12_2, pf_12_2, gf_12_3, pf_12_3, gf_12_4, pf_12_4, gf_12_5, pf_12_5, gf_12_6, pf_12_6, gf_12_7, pf_12_7, gf_12_8, pf_12_8, gf_12_9, pf_12_9, gf_12_10, pf_12_10, gf_12_11, pf_12_11, gf_12_12, pf_12_12, gf_12_13, pf_12_13, gf_12_14, pf_12_14, gf_12_15, pf_12_15, gf_12_16, pf_12_16, gf_12_17, pf_12_17, gf_12_18, pf_12_18, gf_12_19, pf_12_19, gf_12_20, pf_12_20, o, e1, o1, A2, Int.toNat_natCast, c1]
theorem m_number0 {P : Nat} {a b : Int} (X : MxG L g x0 x7 x11 tE tS tC tN) (hp : p ≤ L) (o : MoA h x0 (vI (L : Int)) x7 x11 (vI (p : Int)) x13 x14 x15) (G : h.1 121 = cI 0 120 g) (A1 : h.1 123 = cI 0 29 A) (hP : P < 29) (hab : (0 ≤ a ∧ a ≤ 99) ∧ -5 ≤ b ∧ b ≤ 99) (hf : ¬ fit tC tN p a b) : ∃ h' s v, ev mMod_number [vR 120, vI (P : Int), vI a, vI b] h = some (some (vI 0), h') ∧ MoA h' x0 (vI (L : Int)) x7 x11 (vI (tE p : Int)) (vI s) (vI (tS p : Int)) (vI v) ∧ h'.1 123 = cI 0 29 (fun j => if j = P then v else A j) ∧ FE [120, 123] h h' := by
  obtain ⟨h1, s, v, e1, o1, m1, f1⟩ := X.2.2 h p x13 x14 x15 hp o G
  have mf := (m1.fit (a := a) (b := b) (by omega)).2 hf
  have mr := m1.1
  have ms : 0 ≤ s ∧ s ≤ 4 := by have := m1.2; omega
  have c1 := c_min (h := hS h1 123 (cI 0 29 (fun j => if j = P then v else A j))) (v := v) (x := a) (y := b) (by omega) (by omega) (by omega)
  refine ⟨hS h1 123 (cI 0 29 (fun j => if j = P then v else A j)), s, v, ?_, by unfold MoA; rw [hS_ne (by omega)]; exact o1, hS_same, (f1.wd (by decide)).tr (FE.st (by decide))⟩
  have A2 := f1.at A1 (by decide)
  unfold MoA at o o1
  rw [ev_Mod_number]
  by_cases s2 : s = 2
  · subst s2
    rw [if_neg (by omega)] at c1
    simp (disch := omega) only [e_Mod_number_0, e_Mod_number_1, e_Mod_number_4, e_Mod_number_5, e_Mod_number_8, e_Mod_number_9, e_Mod_number_10, e_Mod_number_13, e_Mod_number_14, e_Mod_number_15, e_Mod_number_18, e_Mod_number_19, e_Mod_number_22, e_Mod_number_23, e_Mod_number_26, e_Mod_number_27, e_Mod_number_28, e_Mod_number_31, e_Mod_number_31b, e_Mod_number_34, e_Mod_number_35, e_Mod_number_38, e_Mod_number_39, alk_in, ask_in, blk_in, bsk_in, qlk_in, ack_in, rcv_in, rcA_in, bk_i, bk_l, bk_v, hS_same, hS_ne, hS_hS, hS_2, am_10, am_01, am_00, if_true, if_false, gf_12_0, pf_12_0, gf_12_1, pf_12_1, gf_12_2, pf_12_2, gf_12_3, pf_12_3, gf_12_4, pf_12_4, gf_12_5, pf_12_5, gf_12_6, pf_12_6, gf_12_7, pf_12_7, gf_12_8, pf_12_8, gf_12_9, pf_12_9, gf_12_10, pf_12_10, gf_12_11, pf_12_11, gf_12_12, pf_12_12, gf_12_13, pf_12_13, gf_12_14, pf_12_14, gf_12_15, pf_12_15, gf_12_16, pf_12_16, gf_12_17, pf_12_17, gf_12_18, pf_12_18, gf_12_19, pf_12_19, gf_12_20, pf_12_20, o, e1, o1, A2, Int.toNat_natCast, c1]
  · simp (disch := omega) only [e_Mod_number_0, e_Mod_number_1, e_Mod_number_4, e_Mod_number_5, e_Mod_number_8, e_Mod_number_9, e_Mod_number_10, e_Mod_number_13, e_Mod_number_14, e_Mod_number_15, e_Mod_number_18, e_Mod_number_19, e_Mod_number_23, e_Mod_number_26, e_Mod_number_27, e_Mod_number_28, e_Mod_number_31, e_Mod_number_31b, e_Mod_number_34, e_Mod_number_35, e_Mod_number_38, e_Mod_number_39, alk_in, ask_in, blk_in, bsk_in, qlk_in, ack_in, rcv_in, rcA_in, bk_i, bk_l, bk_v, hS_same, hS_ne, hS_hS, hS_2, am_10, am_01, am_00, if_true, if_false, gf_12_0, pf_12_0, gf_12_1, pf_12_1, gf_12_2, pf_12_2, gf_12_3, pf_12_3, gf_12_4, pf_12_4, gf_12_5, pf_12_5, gf_12_6, pf_12_6, gf_12_7, pf_12_7, gf_12_8, pf_12_8, gf_12_9, pf_12_9, gf_12_10, pf_12_10, gf_12_11, pf_12_11, gf_12_12, pf_12_12, gf_12_13, pf_12_13, gf_12_14, pf_12_14, gf_12_15, pf_12_15, gf_12_16, pf_12_16, gf_12_17, pf_12_17, gf_12_18, pf_12_18, gf_12_19, pf_12_19, gf_12_20, pf_12_20, o, e1, o1, A2, Int.toNat_natCast]
    rw [if_neg s2]
theorem lm_dup {n : Nat} {ce : Nat → Int} {x : Int} {x2 x12 : am_V} (hn : n < 6) (o : MoA h x0 x2 x7 x11 x12 x13 x14 x15) (A1 : h.1 123 = cI 0 29 A) (hx : A (11 + n) = x) (hxr : 0 ≤ x ∧ x ≤ 99) (hc : ∀ j, j < n → A (11 + j) = ce j ∧ -9 ≤ ce j ∧ ce j ≤ 99) : ∀ d k : Nat, k + d = n → ((∀ j, k ≤ j → j < n → ¬ ce j = x) → gv mMod_readsMan 37 [vR 120, vI (n : Int), vI (k : Int)] [] h = gv mMod_readsMan 71 [vR 120, vI (n : Int), vI (n : Int)] [] h) ∧ (∀ j, k ≤ j → j < n → ce j = x → gv mMod_readsMan 37 [vR 120, vI (n : Int), vI (k : Int)] [] h = some (some (vI 0), h)) := by
  unfold MoA at o
  intro d
  induction d with
  | zero =>
    intro k hk
    have : k = n := by omega
    subst this
    refine ⟨fun _ => ?_, fun j h1 h2 => by omega⟩
    rw [e_Mod_readsMan_37]
    simp (disch := omega) only [e_Mod_readsMan_0, e_Mod_readsMan_1, e_Mod_readsMan_4, e_Mod_readsMan_5, e_Mod_readsMan_6, e_Mod_readsMan_7, e_Mod_readsMan_8, e_Mod_readsMan_10, e_Mod_readsMan_13, e_Mod_readsMan_14, e_Mod_readsMan_16, e_Mod_readsMan_17, e_Mod_readsMan_18, e_Mod_readsMan_19, e_Mod_readsMan_20, e_Mod_readsMan_23, e_Mod_readsMan_24, e_Mod_readsMan_25, e_Mod_readsMan_26, e_Mod_readsMan_27, e_Mod_readsMan_30, e_Mod_readsMan_30b, e_Mod_readsMan_33, e_Mod_readsMan_34, e_Mod_readsMan_35, e_Mod_readsMan_36, e_Mod_readsMan_38, e_Mod_readsMan_39, e_Mod_readsMan_42, e_Mod_readsMan_43, e_Mod_readsMan_46, e_Mod_readsMan_48, e_Mod_readsMan_49, e_Mod_readsMan_50, e_Mod_readsMan_51, e_Mod_readsMan_52, e_Mod_readsMan_55, e_Mod_readsMan_57, e_Mod_readsMan_58, e_Mod_readsMan_59, e_Mod_readsMan_60, e_Mod_readsMan_63, e_Mod_readsMan_64, e_Mod_readsMan_65, e_Mod_readsMan_68, e_Mod_readsMan_72, e_Mod_readsMan_74, e_Mod_readsMan_75, e_Mod_readsMan_76, e_Mod_readsMan_77, e_Mod_readsMan_78, e_Mod_readsMan_81, e_Mod_readsMan_81b, e_Mod_readsMan_84, e_Mod_readsMan_85, e_Mod_readsMan_86, e_Mod_readsMan_87, e_Mod_readsMan_88, e_Mod_readsMan_89, e_Mod_readsMan_90, e_Mod_readsMan_93, e_Mod_readsMan_93b, e_Mod_readsMan_96, e_Mod_readsMan_97, e_Mod_readsMan_99, e_Mod_readsMan_100, e_Mod_readsMan_101, e_Mod_readsMan_102, e_Mod_readsMan_104, e_Mod_readsMan_107, e_Mod_readsMan_107b, e_Mod_readsMan_110, e_Mod_readsMan_111, e_Mod_readsMan_112, e_Mod_readsMan_113, e_Mod_readsMan_116, e_Mod_readsMan_117, e_Mod_readsMan_118, e_Mod_readsMan_119, e_Mod_readsMan_120, e_Mod_readsMan_121, e_Mod_readsMan_122, e_Mod_readsMan_123, alk_in, ask_in, blk_in, bsk_in, qlk_in, ack_in, rcv_in, rcA_in, bk_i, bk_l, bk_v, hS_same, hS_ne, hS_hS, hS_2, am_10, am_01, am_00, if_true, if_false]
    rw [if_neg (by omega)]
  | succ d ih =>
    intro k hk
    have a := hc k (by omega)
    have e := ih (k + 1) (by omega)
    by_cases q : ce k = x
    · have z : gv mMod_readsMan 37 [vR 120, vI (n : Int), vI (k : Int)] [] h = some (some (vI 0), h) := by
        rw [e_Mod_readsMan_37]
        simp (disch := omega) only [e_Mod_readsMan_0, e_Mod_readsMan_1, e_Mod_readsMan_4, e_Mod_readsMan_5, e_Mod_readsMan_6, e_Mod_readsMan_7, e_Mod_readsMan_8, e_Mod_readsMan_10, e_Mod_readsMan_13, e_Mod_readsMan_14, e_Mod_readsMan_16, e_Mod_readsMan_17, e_Mod_readsMan_18, e_Mod_readsMan_19, e_Mod_readsMan_20, e_Mod_readsMan_23, e_Mod_readsMan_24, e_Mod_readsMan_25, e_Mod_readsMan_26, e_Mod_readsMan_27, e_Mod_readsMan_30, e_Mod_readsMan_30b, e_Mod_readsMan_33, e_Mod_readsMan_34, e_Mod_readsMan_35, e_Mod_readsMan_36, e_Mod_readsMan_38, e_Mod_readsMan_39, e_Mod_readsMan_42, e_Mod_readsMan_43, e_Mod_readsMan_46, e_Mod_readsMan_48, e_Mod_readsMan_49, e_Mod_readsMan_50, e_Mod_readsMan_51, e_Mod_readsMan_52, e_Mod_readsMan_55, e_Mod_readsMan_57, e_Mod_readsMan_58, e_Mod_readsMan_59, e_Mod_readsMan_60, e_Mod_readsMan_63, e_Mod_readsMan_64, e_Mod_readsMan_65, e_Mod_readsMan_68, e_Mod_readsMan_72, e_Mod_readsMan_74, e_Mod_readsMan_75, e_Mod_readsMan_76, e_Mod_readsMan_77, e_Mod_readsMan_78, e_Mod_readsMan_81, e_Mod_readsMan_81b, e_Mod_readsMan_84, e_Mod_readsMan_85, e_Mod_readsMan_86, e_Mod_readsMan_87, e_Mod_readsMan_88, e_Mod_readsMan_89, e_Mod_readsMan_90, e_Mod_readsMan_93, e_Mod_readsMan_93b, e_Mod_readsMan_96, e_Mod_readsMan_97, e_Mod_readsMan_99, e_Mod_readsMan_100, e_Mod_readsMan_101, e_Mod_readsMan_102, e_Mod_readsMan_104, e_Mod_readsMan_107, e_Mod_readsMan_107b, e_Mod_readsMan_110, e_Mod_readsMan_111, e_Mod_readsMan_112, e_Mod_readsMan_113, e_Mod_readsMan_116, e_Mod_readsMan_117, e_Mod_readsMan_118, e_Mod_readsMan_119, e_Mod_readsMan_120, e_Mod_readsMan_121, e_Mod_readsMan_122, e_Mod_readsMan_123, alk_in, ask_in, blk_in, bsk_in, qlk_in, ack_in, rcv_in, rcA_in, bk_i, bk_l, bk_v, hS_same, hS_ne, hS_hS, hS_2, am_10, am_01, am_00, if_true, if_false, gf_12_0, pf_12_0, gf_12_1, pf_12_1, gf_12_2, pf_12_2, gf_12_3, pf_12_3, gf_12_4, pf_12_4, gf_12_5, pf_12_5, gf_12_6, pf_12_6, gf_12_7, pf_12_7, gf_12_8, pf_12_8, gf_12_9, pf_12_9, gf_12_10, pf_12_10, gf_12_11, pf_12_11, gf_12_12, pf_12_12, gf_12_13, pf_12_13, gf_12_14, pf_12_14, gf_12_15, pf_12_15, gf_12_16, pf_12_16, gf_12_17, pf_12_17, gf_12_18, pf_12_18, gf_12_19, pf_12_19, gf_12_20, pf_12_20, o, A1, tn_11, a.1, hx, q]
        rw [if_pos (by omega)]
      exact ⟨fun H => absurd q (H k (Nat.le_refl k) (by omega)), fun _ _ _ _ => z⟩
    · have z : gv mMod_readsMan 37 [vR 120, vI (n : Int), vI (k : Int)] [] h = gv mMod_readsMan 37 [vR 120, vI (n : Int), vI ((k + 1 : Nat) : Int)] [] h := by
        rw [e_Mod_readsMan_37]
        simp (disch := omega) only [e_Mod_readsMan_0, e_Mod_readsMan_1, e_Mod_readsMan_4, e_Mod_readsMan_5, e_Mod_readsMan_6, e_Mod_readsMan_7, e_Mod_readsMan_8, e_Mod_readsMan_10, e_Mod_readsMan_13, e_Mod_readsMan_14, e_Mod_readsMan_16, e_Mod_readsMan_17, e_Mod_readsMan_18, e_Mod_readsMan_19, e_Mod_readsMan_20, e_Mod_readsMan_23, e_Mod_readsMan_24, e_Mod_readsMan_25, e_Mod_readsMan_26, e_Mod_readsMan_27, e_Mod_readsMan_30, e_Mod_readsMan_30b, e_Mod_readsMan_33, e_Mod_readsMan_34, e_Mod_readsMan_35, e_Mod_readsMan_36, e_Mod_readsMan_38, e_Mod_readsMan_39, e_Mod_readsMan_42, e_Mod_readsMan_43, e_Mod_readsMan_46, e_Mod_readsMan_48, e_Mod_readsMan_49, e_Mod_readsMan_50, e_Mod_readsMan_51, e_Mod_readsMan_52, e_Mod_readsMan_55, e_Mod_readsMan_57, e_Mod_readsMan_58, e_Mod_readsMan_59, e_Mod_readsMan_60, e_Mod_readsMan_63, e_Mod_readsMan_64, e_Mod_readsMan_65, e_Mod_readsMan_68, e_Mod_readsMan_72, e_Mod_readsMan_74, e_Mod_readsMan_75, e_Mod_readsMan_76, e_Mod_readsMan_77, e_Mod_readsMan_78, e_Mod_readsMan_81, e_Mod_readsMan_81b, e_Mod_readsMan_84, e_Mod_readsMan_85, e_Mod_readsMan_86, e_Mod_readsMan_87, e_Mod_readsMan_88, e_Mod_readsMan_89, e_Mod_readsMan_90, e_Mod_readsMan_93, e_Mod_readsMan_93b, e_Mod_readsMan_96, e_Mod_readsMan_97, e_Mod_readsMan_99, e_Mod_readsMan_100, e_Mod_readsMan_101, e_Mod_readsMan_102, e_Mod_readsMan_104, e_Mod_readsMan_107, e_Mod_readsMan_107b, e_Mod_readsMan_110, e_Mod_readsMan_111, e_Mod_readsMan_112, e_Mod_readsMan_113, e_Mod_readsMan_116, e_Mod_readsMan_117, e_Mod_readsMan_118, e_Mod_readsMan_119, e_Mod_readsMan_120, e_Mod_readsMan_121, e_Mod_readsMan_122, e_Mod_readsMan_123, alk_in, ask_in, blk_in, bsk_in, qlk_in, ack_in, rcv_in, rcA_in, bk_i, bk_l, bk_v, hS_same, hS_ne, hS_hS, hS_2, am_10, am_01, am_00, if_true, if_false, gf_12_0, pf_12_0, gf_12_1, pf_12_1, gf_12_2, pf_12_2, gf_12_3, pf_12_3, gf_12_4, pf_12_4, gf_12_5, pf_12_5, gf_12_6, pf_12_6, gf_12_7, pf_12_7, gf_12_8, pf_12_8, gf_12_9, pf_12_9, gf_12_10, pf_12_10, gf_12_11, pf_12_11, gf_12_12, pf_12_12, gf_12_13, pf_12_13, gf_12_14, pf_12_14, gf_12_15, pf_12_15, gf_12_16, pf_12_16, gf_12_17, pf_12_17, gf_12_18, pf_12_18, gf_12_19, pf_12_19, gf_12_20, pf_12_20, o, A1, tn_11, a.1, hx]
        rw [if_pos (by omega), if_neg q]; rfl
      rw [z]
      refine ⟨fun H => e.1 (fun j h1 h2 => H j (by omega) h2), fun j h1 h2 h3 => e.2 j ?_ h2 h3⟩
      by_cases w : j = k
      · subst w; exact absurd h3 q
      · omega
theorem m_readsMan {G : Gl} {T : Tm} {lt it : Nat} (X : MxG L g x0 x7 x11 tE tS tC tN) (hp : p ≤ L) (o : MoA h x0 (vI (L : Int)) x7 x11 (vI (p : Int)) x13 x14 x15) (Gg : h.1 121 = cI 0 120 g) (A1 : h.1 123 = cI 0 29 A) (hA : MDa A (G, T, lt, it)) (hw : WT G T) (hn : G.1 < 6) : match rdN tE tS tC tN G T p with
    | .inl q => ∃ h' x12 x13 x15 A', ev mMod_readsMan [vR 120] h = some (some (vI 0), h') ∧ MoA h' x0 (vI (L : Int)) x7 x11 x12 x13 (vI (q : Int)) x15 ∧ h'.1 123 = cI 0 29 A' ∧ FE [120, 123] h h'
    | .inr r => ∃ h' x13 x14 x15 A', ev mMod_readsMan [vR 120] h = some (some (vI 1), h') ∧ MoA h' x0 (vI (L : Int)) x7 x11 (vI (r.2 : Int)) x13 x14 x15 ∧ h'.1 123 = cI 0 29 A' ∧ MDa A' (r.1.1, r.1.2, lt, it) ∧ FE [120, 123] h h' := by
  obtain ⟨n, c, lq, ha⟩ := G
  obtain ⟨t, ce, so, ye⟩ := T
  unfold WT at hw
  obtain ⟨a0, a1, a2, a3, a4, a5⟩ := hA
  simp only at hw hn a0 a1 a2 a3 a4 a5
  have hc2 := hw.2.1
  have hc9 := hw.2.2.1
  have p1 := (X.2.1 p hp).2.1
  have p2 := (X.2.1 _ p1.2).2.1
  have p3 := (X.2.1 _ p2.2).2.1
  have o0 := o
  unfold MoA at o0
  have k11 : ((11 + n : Nat) : Int) = 11 + (n : Int) := by omega
  have k17 : ((17 + n : Nat) : Int) = 17 + (n : Int) := by omega
  have k5 : ((5 + n : Nat) : Int) = 5 + (n : Int) := by omega
  have k23 : ((23 + n : Nat) : Int) = 23 + (n : Int) := by omega
  unfold rdN
  simp only
  by_cases q0 : fit tC tN p 0 ((c : Int) - 1)
  · obtain ⟨h1, s1, v1, e1, o1, A11, f1⟩ := m_number1 (P := 11 + n) X hp o Gg A1 (by omega) (by omega) q0
    rw [k11] at e1
    have o1' := o1
    unfold MoA at o1'
    have hq := q0.2
    have dup := lm_dup (n := n) (ce := ce) (x := tN p) hn o1 A11 (if_pos rfl) (by omega) (fun j hj => by
      have w := (hw.2.2.2.1 j hj).1
      refine ⟨?_, by omega, by omega⟩
      rw [if_neg (by omega)]
      exact (a5 j hj).2.1) n 0 (by omega)
    have st : ev mMod_readsMan [vR 120] h = gv mMod_readsMan 37 [vR 120, vI (n : Int), vI ((0 : Nat) : Int)] [] h1 := by
      rw [ev_Mod_readsMan]
      simp (disch := omega) only [e_Mod_readsMan_0, e_Mod_readsMan_1, e_Mod_readsMan_4, e_Mod_readsMan_5, e_Mod_readsMan_6, e_Mod_readsMan_7, e_Mod_readsMan_8, e_Mod_readsMan_10, e_Mod_readsMan_13, e_Mod_readsMan_14, e_Mod_readsMan_16, e_Mod_readsMan_17, e_Mod_readsMan_18, e_Mod_readsMan_19, e_Mod_readsMan_20, e_Mod_readsMan_23, e_Mod_readsMan_24, e_Mod_readsMan_25, e_Mod_readsMan_26, e_Mod_readsMan_27, e_Mod_readsMan_30, e_Mod_readsMan_30b, e_Mod_readsMan_33, e_Mod_readsMan_34, e_Mod_readsMan_35, e_Mod_readsMan_36, alk_in, ask_in, blk_in, bsk_in, qlk_in, ack_in, rcv_in, rcA_in, bk_i, bk_l, bk_v, hS_same, hS_ne, hS_hS, hS_2, am_10, am_01, am_00, if_true, if_false, gf_12_0, pf_12_0, gf_12_1, pf_12_1, gf_12_2, pf_12_2, gf_12_3, pf_12_3, gf_12_4, pf_12_4, gf_12_5, pf_12_5, gf_12_6, pf_12_6, gf_12_7, pf_12_7, gf_12_8, pf_12_8, gf_12_9, pf_12_9, gf_12_10, pf_12_10, gf_12_11, pf_12_11, gf_12_12, pf_12_12, gf_12_13, pf_12_13, gf_12_14, pf_12_14, gf_12_15, pf_12_15, gf_12_16, pf_12_16, gf_12_17, pf_12_17, gf_12_18, pf_12_18, gf_12_19, pf_12_19, gf_12_20, pf_12_20, o0, A1, tl_0, tl_1, a0, a1, e1]
      rw [if_neg (by omega)]; rfl
    rcases who_range n ce (tN p) with ⟨w1, w2⟩ | ⟨j, w1, w2, w3⟩
    · rw [if_pos ⟨q0, w1⟩]
      have st2 := st.trans (dup.1 (fun j _ hj => w2 j hj))
      by_cases q1 : fit tC tN (tE p) 0 4
      · rw [if_pos q1]
        obtain ⟨h2, s2, v2, e2, o2, A12, f2⟩ := m_number1 (P := 17 + n) X p1.2 o1 (f1.at Gg (by decide)) A11 (by omega) (by omega) q1
        rw [k17] at e2
        have o2' := o2
        unfold MoA at o2'
        by_cases q2 : fit tC tN (tE (tE p)) 0 3
        · rw [if_pos q2]
          obtain ⟨h3, s3, v3, e3, o3, A13, f3⟩ := m_number1 (P := 5 + n) X p2.2 o2 (f2.at (f1.at Gg (by decide)) (by decide)) A12 (by omega) (by omega) q2
          rw [k5] at e3
          have o3' := o3
          unfold MoA at o3'
          by_cases q3 : fit tC tN (tE (tE (tE p))) 1 60
          · rw [if_pos q3]
            obtain ⟨h4, s4, v4, e4, o4, A14, f4⟩ := m_number1 (P := 23 + n) X p3.2 o3 (f3.at (f2.at (f1.at Gg (by decide)) (by decide)) (by decide)) A13 (by omega) (by omega) q3
            rw [k23] at e4
            have o4' := o4
            unfold MoA at o4'
            refine ⟨hS h4 123 (cI 0 29 (fun j => if j = 1 then (n : Int) + 1 else if j = 23 + n then tN (tE (tE (tE p))) else if j = 5 + n then tN (tE (tE p)) else if j = 17 + n then tN (tE p) else if j = 11 + n then tN p else A j)), _, _, _, _, ?_, by unfold MoA; rw [hS_ne (by omega)]; exact o4, hS_same, ⟨?_, ?_, ?_, ?_, ?_, fun j hj => ?_⟩, (((f1.tr f2).tr f3).tr f4).tr (FE.st (by decide))⟩
            · rw [st2]
              have g1 : (if (1 : Nat) = 23 + n then tN (tE (tE (tE p))) else if (1 : Nat) = 5 + n then tN (tE (tE p)) else if (1 : Nat) = 17 + n then tN (tE p) else if (1 : Nat) = 11 + n then tN p else A 1) = (n : Int) := by
                rw [if_neg (by omega), if_neg (by omega), if_neg (by omega), if_neg (by omega), a1]
              simp (disch := omega) only [e_Mod_readsMan_71, e_Mod_readsMan_72, e_Mod_readsMan_74, e_Mod_readsMan_75, e_Mod_readsMan_76, e_Mod_readsMan_77, e_Mod_readsMan_78, e_Mod_readsMan_81, e_Mod_readsMan_81b, e_Mod_readsMan_84, e_Mod_readsMan_85, e_Mod_readsMan_86, e_Mod_readsMan_87, e_Mod_readsMan_88, e_Mod_readsMan_89, e_Mod_readsMan_90, e_Mod_readsMan_93, e_Mod_readsMan_93b, e_Mod_readsMan_96, e_Mod_readsMan_97, e_Mod_readsMan_99, e_Mod_readsMan_100, e_Mod_readsMan_101, e_Mod_readsMan_102, e_Mod_readsMan_104, e_Mod_readsMan_107, e_Mod_readsMan_107b, e_Mod_readsMan_110, e_Mod_readsMan_111, e_Mod_readsMan_112, e_Mod_readsMan_113, e_Mod_readsMan_116, e_Mod_readsMan_117, e_Mod_readsMan_118, e_Mod_readsMan_119, e_Mod_readsMan_120, e_Mod_readsMan_121, e_Mod_readsMan_122, e_Mod_readsMan_123, alk_in, ask_in, blk_in, bsk_in, qlk_in, ack_in, rcv_in, rcA_in, bk_i, bk_l, bk_v, hS_same, hS_ne, hS_hS, hS_2, am_10, am_01, am_00, if_true, if_false, gf_12_0, pf_12_0, gf_12_1, pf_12_1, gf_12_2, pf_12_2, gf_12_3, pf_12_3, gf_12_4, pf_12_4, gf_12_5, pf_12_5, gf_12_6, pf_12_6, gf_12_7, pf_12_7, gf_12_8, pf_12_8, gf_12_9, pf_12_9, gf_12_10, pf_12_10, gf_12_11, pf_12_11, gf_12_12, pf_12_12, gf_12_13, pf_12_13, gf_12_14, pf_12_14, gf_12_15, pf_12_15, gf_12_16, pf_12_16, gf_12_17, pf_12_17, gf_12_18, pf_12_18, gf_12_19, pf_12_19, gf_12_20, pf_12_20, o1', e2, o2', e3, o3', e4, o4', A14, tl_1, g1]
            · show (if (0 : Nat) = 1 then _ else _) = _
              rw [if_neg (by omega), if_neg (by omega), if_neg (by omega), if_neg (by omega), if_neg (by omega)]; exact a0
            · show (if (1 : Nat) = 1 then (n : Int) + 1 else _) = _
              rw [if_pos rfl]; rfl
            · show (if (2 : Nat) = 1 then _ else _) = _
              rw [if_neg (by omega), if_neg (by omega), if_neg (by omega), if_neg (by omega), if_neg (by omega)]; exact a2
            · show (if (3 : Nat) = 1 then _ else _) = _
              rw [if_neg (by omega), if_neg (by omega), if_neg (by omega), if_neg (by omega), if_neg (by omega)]; exact a3
            · show (if (4 : Nat) = 1 then _ else _) = _
              rw [if_neg (by omega), if_neg (by omega), if_neg (by omega), if_neg (by omega), if_neg (by omega)]; exact a4
            · simp only [addM] at hj ⊢
              by_cases z : j = n
              · subst z
                refine ⟨?_, ?_, ?_, ?_⟩
                · rw [if_neg (by omega), if_neg (by omega), if_pos rfl, if_pos rfl]
                · rw [if_neg (by omega), if_neg (by omega), if_neg (by omega), if_neg (by omega), if_pos rfl, if_pos rfl]
                · rw [if_neg (by omega), if_neg (by omega), if_neg (by omega), if_pos rfl, if_pos rfl]
                · rw [if_neg (by omega), if_pos rfl, if_pos rfl]
              · have b := a5 j (by omega)
                refine ⟨?_, ?_, ?_, ?_⟩
                · rw [if_neg (by omega), if_neg (by omega), if_neg (by omega), if_neg (by omega), if_neg (by omega), if_neg z]; exact b.1
                · rw [if_neg (by omega), if_neg (by omega), if_neg (by omega), if_neg (by omega), if_neg (by omega), if_neg z]; exact b.2.1
                · rw [if_neg (by omega), if_neg (by omega), if_neg (by omega), if_neg (by omega), if_neg (by omega), if_neg z]; exact b.2.2.1
                · rw [if_neg (by omega), if_neg (by omega), if_neg (by omega), if_neg (by omega), if_neg (by omega), if_neg z]; exact b.2.2.2
          · rw [if_neg q3]
            obtain ⟨h4, s4, v4, e4, o4, A14, f4⟩ := m_number0 (P := 23 + n) X p3.2 o3 (f3.at (f2.at (f1.at Gg (by decide)) (by decide)) (by decide)) A13 (by omega) (by omega) q3
            rw [k23] at e4
            refine ⟨h4, _, _, _, _, ?_, o4, A14, ((f1.tr f2).tr f3).tr f4⟩
            rw [st2]
            simp (disch := omega) only [e_Mod_readsMan_71, e_Mod_readsMan_72, e_Mod_readsMan_74, e_Mod_readsMan_75, e_Mod_readsMan_76, e_Mod_readsMan_77, e_Mod_readsMan_78, e_Mod_readsMan_81, e_Mod_readsMan_81b, e_Mod_readsMan_84, e_Mod_readsMan_85, e_Mod_readsMan_86, e_Mod_readsMan_87, e_Mod_readsMan_88, e_Mod_readsMan_89, e_Mod_readsMan_90, e_Mod_readsMan_93, e_Mod_readsMan_93b, e_Mod_readsMan_96, e_Mod_readsMan_97, e_Mod_readsMan_99, e_Mod_readsMan_100, e_Mod_readsMan_101, e_Mod_readsMan_102, e_Mod_readsMan_104, e_Mod_readsMan_107, e_Mod_readsMan_107b, e_Mod_readsMan_110, e_Mod_readsMan_111, alk_in, ask_in, blk_in, bsk_in, qlk_in, ack_in, rcv_in, rcA_in, bk_i, bk_l, bk_v, hS_same, hS_ne, hS_hS, hS_2, am_10, am_01, am_00, if_true, if_false, gf_12_0, pf_12_0, gf_12_1, pf_12_1, gf_12_2, pf_12_2, gf_12_3, pf_12_3, gf_12_4, pf_12_4, gf_12_5, pf_12_5, gf_12_6, pf_12_6, gf_12_7, pf_12_7, gf_12_8, pf_12_8, gf_12_9, pf_12_9, gf_12_10, pf_12_10, gf_12_11, pf_12_11, gf_12_12, pf_12_12, gf_12_13, pf_12_13, gf_12_14, pf_12_14, gf_12_15, pf_12_15, gf_12_16, pf_12_16, gf_12_17, pf_12_17, gf_12_18, pf_12_18, gf_12_19, pf_12_19, gf_12_20, pf_12_20, o1', e2, o2', e3, o3', e4]
        · rw [if_neg q2]
          obtain ⟨h3, s3, v3, e3, o3, A13, f3⟩ := m_number0 (P := 5 + n) X p2.2 o2 (f2.at (f1.at Gg (by decide)) (by decide)) A12 (by omega) (by omega) q2
          rw [k5] at e3
          refine ⟨h3, _, _, _, _, ?_, o3, A13, (f1.tr f2).tr f3⟩
          rw [st2]
          simp (disch := omega) only [e_Mod_readsMan_71, e_Mod_readsMan_72, e_Mod_readsMan_74, e_Mod_readsMan_75, e_Mod_readsMan_76, e_Mod_readsMan_77, e_Mod_readsMan_78, e_Mod_readsMan_81, e_Mod_readsMan_81b, e_Mod_readsMan_84, e_Mod_readsMan_85, e_Mod_readsMan_86, e_Mod_readsMan_87, e_Mod_readsMan_88, e_Mod_readsMan_89, e_Mod_readsMan_90, e_Mod_readsMan_93, e_Mod_readsMan_93b, e_Mod_readsMan_96, e_Mod_readsMan_97, e_Mod_readsMan_99, e_Mod_readsMan_100, e_Mod_readsMan_101, e_Mod_readsMan_102, e_Mod_readsMan_104, e_Mod_readsMan_107, e_Mod_readsMan_107b, e_Mod_readsMan_110, e_Mod_readsMan_111, alk_in, ask_in, blk_in, bsk_in, qlk_in, ack_in, rcv_in, rcA_in, bk_i, bk_l, bk_v, hS_same, hS_ne, hS_hS, hS_2, am_10, am_01, am_00, if_true, if_false, gf_12_0, pf_12_0, gf_12_1, pf_12_1, gf_12_2, pf_12_2, gf_12_3, pf_12_3, gf_12_4, pf_12_4, gf_12_5, pf_12_5, gf_12_6, pf_12_6, gf_12_7, pf_12_7, gf_12_8, pf_12_8, gf_12_9, pf_12_9, gf_12_10, pf_12_10, gf_12_11, pf_12_11, gf_12_12, pf_12_12, gf_12_13, pf_12_13, gf_12_14, pf_12_14, gf_12_15, pf_12_15, gf_12_16, pf_12_16, gf_12_17, pf_12_17, gf_12_18, pf_12_18, gf_12_19, pf_12_19, gf_12_20, pf_12_20, o1', e2, o2', e3]
      · rw [if_neg q1]
        obtain ⟨h2, s2, v2, e2, o2, A12, f2⟩ := m_number0 (P := 17 + n) X p1.2 o1 (f1.at Gg (by decide)) A11 (by omega) (by omega) q1
        rw [k17] at e2
        refine ⟨h2, _, _, _, _, ?_, o2, A12, f1.tr f2⟩
        rw [st2]
        simp (disch := omega) only [e_Mod_readsMan_71, e_Mod_readsMan_72, e_Mod_readsMan_74, e_Mod_readsMan_75, e_Mod_readsMan_76, e_Mod_readsMan_77, e_Mod_readsMan_78, e_Mod_readsMan_81, e_Mod_readsMan_81b, e_Mod_readsMan_84, e_Mod_readsMan_85, e_Mod_readsMan_86, e_Mod_readsMan_87, e_Mod_readsMan_88, e_Mod_readsMan_89, e_Mod_readsMan_90, e_Mod_readsMan_93, e_Mod_readsMan_93b, e_Mod_readsMan_96, e_Mod_readsMan_97, e_Mod_readsMan_99, e_Mod_readsMan_100, e_Mod_readsMan_101, e_Mod_readsMan_102, e_Mod_readsMan_104, e_Mod_readsMan_107, e_Mod_readsMan_107b, e_Mod_readsMan_110, e_Mod_readsMan_111, alk_in, ask_in, blk_in, bsk_in, qlk_in, ack_in, rcv_in, rcA_in, bk_i, bk_l, bk_v, hS_same, hS_ne, hS_hS, hS_2, am_10, am_01, am_00, if_true, if_false, gf_12_0, pf_12_0, gf_12_1, pf_12_1, gf_12_2, pf_12_2, gf_12_3, pf_12_3, gf_12_4, pf_12_4, gf_12_5, pf_12_5, gf_12_6, pf_12_6, gf_12_7, pf_12_7, gf_12_8, pf_12_8, gf_12_9, pf_12_9, gf_12_10, pf_12_10, gf_12_11, pf_12_11, gf_12_12, pf_12_12, gf_12_13, pf_12_13, gf_12_14, pf_12_14, gf_12_15, pf_12_15, gf_12_16, pf_12_16, gf_12_17, pf_12_17, gf_12_18, pf_12_18, gf_12_19, pf_12_19, gf_12_20, pf_12_20, o1', e2]
    · rw [if_neg (by omega)]
      exact ⟨h1, _, _, _, _, st.trans (dup.2 j (by omega) w1 w3), o1, A11, f1⟩
  · rw [if_neg (fun z => q0 z.1)]
    obtain ⟨h1, s1, v1, e1, o1, A11, f1⟩ := m_number0 (P := 11 + n) X hp o Gg A1 (by omega) (by omega) q0
    rw [k11] at e1
    refine ⟨h1, _, _, _, _, ?_, o1, A11, f1⟩
    rw [ev_Mod_readsMan]
    simp (disch := omega) only [e_Mod_readsMan_0, e_Mod_readsMan_1, e_Mod_readsMan_4, e_Mod_readsMan_5, e_Mod_readsMan_6, e_Mod_readsMan_7, e_Mod_readsMan_8, e_Mod_readsMan_10, e_Mod_readsMan_13, e_Mod_readsMan_14, e_Mod_readsMan_16, e_Mod_readsMan_17, e_Mod_readsMan_18, e_Mod_readsMan_19, e_Mod_readsMan_20, e_Mod_readsMan_23, e_Mod_readsMan_24, e_Mod_readsMan_25, e_Mod_readsMan_26, e_Mod_readsMan_27, e_Mod_readsMan_30, e_Mod_readsMan_30b, e_Mod_readsMan_33, e_Mod_readsMan_34, e_Mod_readsMan_35, e_Mod_readsMan_36, alk_in, ask_in, blk_in, bsk_in, qlk_in, ack_in, rcv_in, rcA_in, bk_i, bk_l, bk_v, hS_same, hS_ne, hS_hS, hS_2, am_10, am_01, am_00, if_true, if_false, gf_12_0, pf_12_0, gf_12_1, pf_12_1, gf_12_2, pf_12_2, gf_12_3, pf_12_3, gf_12_4, pf_12_4, gf_12_5, pf_12_5, gf_12_6, pf_12_6, gf_12_7, pf_12_7, gf_12_8, pf_12_8, gf_12_9, pf_12_9, gf_12_10, pf_12_10, gf_12_11, pf_12_11, gf_12_12, pf_12_12, gf_12_13, pf_12_13, gf_12_14, pf_12_14, gf_12_15, pf_12_15, gf_12_16, pf_12_16, gf_12_17, pf_12_17, gf_12_18, pf_12_18, gf_12_19, pf_12_19, gf_12_20, pf_12_20, o0, A1, tl_0, tl_1, a0, a1, e1]
    rw [if_neg (by omega)]
end RdM
