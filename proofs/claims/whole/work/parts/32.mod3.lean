/-! The model: aside, out, soonest -/
def AsM (h : am_H) (n : Nat) (t : Int) (ce so ye : Nat → Int) : Prop := ∃ A, h.1 130 = cI 0 19 A ∧ A 0 = t ∧ ∀ j, j < n → A (1 + j) = ce j ∧ A (7 + j) = so j ∧ A (13 + j) = ye j
theorem AsM.fe {h h' : am_H} {n : Nat} {t : Int} {ce so ye : Nat → Int} {l : List Nat} (S : AsM h n t ce so ye) (f : FE l h h') (q : 130 ∉ l) : AsM h' n t ce so ye := by
  obtain ⟨A, a, r⟩ := S
  exact ⟨A, f.at a q, r⟩
theorem AsM.sh {h : am_H} {n : Nat} {t : Int} {ce so ye : Nat → Int} (S : AsM h n t ce so ye) : Sh h 130 19 := by
  obtain ⟨A, a, r⟩ := S
  exact ⟨A, a⟩
section Mod3
variable {n c : Nat} {lo : Int} {so ha : Nat → Int}
theorem lm_holds {x0 x2 x7 x11 x12 x13 x14 x15 : am_V} {F : Nat → Int} : ∀ (d k : Nat) (h : am_H) (A : Nat → Int), k + d = 19 → MoA h x0 x2 x7 x11 x12 x13 x14 x15 → h.1 124 = cI 0 19 F → h.1 130 = cI 0 19 A → (∀ j, j < k → A j = F j) → ∃ h' A', gv mMod_holds 2 [vR 120, vI (k : Int)] [] h = some (none, h') ∧ h'.1 130 = cI 0 19 A' ∧ (∀ j, j < 19 → A' j = F j) ∧ FE [130] h h' := by
  intro d
  induction d with
  | zero =>
    intro k h A hk o b e he
    have : k = 19 := by omega
    subst this
    refine ⟨h, A, ?_, e, he, FE.rf⟩
    rw [e_Mod_holds_2]
    simp (disch := omega) only [e_Mod_holds_0, e_Mod_holds_1, e_Mod_holds_3, e_Mod_holds_5, e_Mod_holds_8, e_Mod_holds_9, e_Mod_holds_12, e_Mod_holds_13, e_Mod_holds_14, e_Mod_holds_17, e_Mod_holds_18, e_Mod_holds_19, e_Mod_holds_20, e_Mod_holds_23, e_Mod_holds_26]
    rw [if_neg (by omega)]
  | succ d ih =>
    intro k h A hk o b e he
    have fe : FE [130] h (hS h 130 (cI 0 19 (fun j => if j = k then F k else A j))) := FE.st (by decide)
    obtain ⟨h', A', e1, e2, e3, f1⟩ := ih (k + 1) _ _ (by omega) (fe.at o (by decide)) (fe.at b (by decide)) hS_same (fun j hj => by
      by_cases q : j = k
      · simp [q]
      · rw [if_neg q]; exact he j (by omega))
    refine ⟨h', A', ?_, e2, e3, fe.tr f1⟩
    unfold MoA at o
    rw [e_Mod_holds_2, ← e1]
    simp (disch := omega) only [e_Mod_holds_0, e_Mod_holds_1, e_Mod_holds_3, e_Mod_holds_5, e_Mod_holds_8, e_Mod_holds_9, e_Mod_holds_12, e_Mod_holds_13, e_Mod_holds_14, e_Mod_holds_17, e_Mod_holds_18, e_Mod_holds_19, e_Mod_holds_20, e_Mod_holds_23, e_Mod_holds_26, alk_in, ask_in, blk_in, bsk_in, qlk_in, ack_in, rcv_in, rcA_in, bk_i, bk_l, bk_v, hS_same, hS_ne, hS_hS, hS_2, am_10, am_01, am_00, if_true, if_false, gf_12_0, pf_12_0, gf_12_1, pf_12_1, gf_12_2, pf_12_2, gf_12_3, pf_12_3, gf_12_4, pf_12_4, gf_12_5, pf_12_5, gf_12_6, pf_12_6, gf_12_7, pf_12_7, gf_12_8, pf_12_8, gf_12_9, pf_12_9, gf_12_10, pf_12_10, gf_12_11, pf_12_11, gf_12_12, pf_12_12, gf_12_13, pf_12_13, gf_12_14, pf_12_14, gf_12_15, pf_12_15, gf_12_16, pf_12_16, gf_12_17, pf_12_17, gf_12_18, pf_12_18, gf_12_19, pf_12_19, gf_12_20, pf_12_20, o, b, e, Int.toNat_natCast]
    rw [if_pos (by omega)]; rfl
theorem m_holds {h : am_H} {t : Int} {ce ye : Nat → Int} (S : RepM h n c lo t ce so ha ye) (hn : n ≤ 6) (hs : Sh h 130 19) : ∃ h', ev mMod_holds [vR 120] h = some (none, h') ∧ RepM h' n c lo t ce so ha ye ∧ AsM h' n t ce so ye ∧ FE [130] h h' := by
  have S0 := S
  obtain ⟨x0, x2, x7, x11, x12, x13, x14, x15, T, F, o, a, b, r0, r1, r2, r3, r⟩ := S
  obtain ⟨A, e⟩ := hs
  obtain ⟨h', A', e1, e2, e3, f1⟩ := lm_holds 19 0 h A (by omega) o b e (fun j hj => by omega)
  refine ⟨h', ?_, S0.fe f1 (by decide), ⟨A', e2, by rw [e3 0 (by omega)]; exact r3, fun j hj => ?_⟩, f1⟩
  · rw [ev_Mod_holds, e_Mod_holds_0, e_Mod_holds_1]
    exact e1
  · have z := r j hj
    rw [e3 _ (by omega), e3 _ (by omega), e3 _ (by omega)]
    exact z.2
theorem lm_lets {x0 x2 x7 x11 x12 x13 x14 x15 : am_V} {A : Nat → Int} : ∀ (d k : Nat) (h : am_H) (F : Nat → Int), k + d = 19 → MoA h x0 x2 x7 x11 x12 x13 x14 x15 → h.1 124 = cI 0 19 F → h.1 130 = cI 0 19 A → (∀ j, j < k → F j = A j) → ∃ h' F', gv mMod_lets 2 [vR 120, vI (k : Int)] [] h = some (none, h') ∧ h'.1 124 = cI 0 19 F' ∧ (∀ j, j < 19 → F' j = A j) ∧ FE [124] h h' := by
  intro d
  induction d with
  | zero =>
    intro k h F hk o b e he
    have : k = 19 := by omega
    subst this
    refine ⟨h, F, ?_, b, he, FE.rf⟩
    rw [e_Mod_lets_2]
    simp (disch := omega) only [e_Mod_lets_0, e_Mod_lets_1, e_Mod_lets_3, e_Mod_lets_5, e_Mod_lets_8, e_Mod_lets_9, e_Mod_lets_12, e_Mod_lets_13, e_Mod_lets_14, e_Mod_lets_17, e_Mod_lets_18, e_Mod_lets_19, e_Mod_lets_20, e_Mod_lets_23, e_Mod_lets_26]
    rw [if_neg (by omega)]
  | succ d ih =>
    intro k h F hk o b e he
    have fe : FE [124] h (hS h 124 (cI 0 19 (fun j => if j = k then A k else F j))) := FE.st (by decide)
    obtain ⟨h', F', e1, e2, e3, f1⟩ := ih (k + 1) _ _ (by omega) (fe.at o (by decide)) hS_same (fe.at e (by decide)) (fun j hj => by
      by_cases q : j = k
      · simp [q]
      · rw [if_neg q]; exact he j (by omega))
    refine ⟨h', F', ?_, e2, e3, fe.tr f1⟩
    unfold MoA at o
    rw [e_Mod_lets_2, ← e1]
    simp (disch := omega) only [e_Mod_lets_0, e_Mod_lets_1, e_Mod_lets_3, e_Mod_lets_5, e_Mod_lets_8, e_Mod_lets_9, e_Mod_lets_12, e_Mod_lets_13, e_Mod_lets_14, e_Mod_lets_17, e_Mod_lets_18, e_Mod_lets_19, e_Mod_lets_20, e_Mod_lets_23, e_Mod_lets_26, alk_in, ask_in, blk_in, bsk_in, qlk_in, ack_in, rcv_in, rcA_in, bk_i, bk_l, bk_v, hS_same, hS_ne, hS_hS, hS_2, am_10, am_01, am_00, if_true, if_false, gf_12_0, pf_12_0, gf_12_1, pf_12_1, gf_12_2, pf_12_2, gf_12_3, pf_12_3, gf_12_4, pf_12_4, gf_12_5, pf_12_5, gf_12_6, pf_12_6, gf_12_7, pf_12_7, gf_12_8, pf_12_8, gf_12_9, pf_12_9, gf_12_10, pf_12_10, gf_12_11, pf_12_11, gf_12_12, pf_12_12, gf_12_13, pf_12_13, gf_12_14, pf_12_14, gf_12_15, pf_12_15, gf_12_16, pf_12_16, gf_12_17, pf_12_17, gf_12_18, pf_12_18, gf_12_19, pf_12_19, gf_12_20, pf_12_20, o, b, e, Int.toNat_natCast]
    rw [if_pos (by omega)]; rfl
theorem m_lets {h : am_H} {t t1 : Int} {ce ye ce1 so1 ye1 : Nat → Int} (S : RepM h n c lo t1 ce1 so1 ha ye1) (hn : n ≤ 6) (hs : AsM h n t ce so ye) : ∃ h', ev mMod_lets [vR 120] h = some (none, h') ∧ RepM h' n c lo t ce so ha ye ∧ AsM h' n t ce so ye ∧ FE [124] h h' := by
  have hs0 := hs
  obtain ⟨x0, x2, x7, x11, x12, x13, x14, x15, T, F, o, a, b, r0, r1, r2, r3, r⟩ := S
  obtain ⟨A, e, g0, g⟩ := hs
  obtain ⟨h', F', e1, e2, e3, f1⟩ := lm_lets 19 0 h F (by omega) o b e (fun j hj => by omega)
  refine ⟨h', ?_, ⟨x0, x2, x7, x11, x12, x13, x14, x15, T, F', f1.at o (by decide), f1.at a (by decide), e2, r0, r1, r2, by rw [e3 0 (by omega)]; exact g0, fun j hj => ?_⟩, hs0.fe f1 (by decide), f1⟩
  · rw [ev_Mod_lets, e_Mod_lets_0, e_Mod_lets_1]
    exact e1
  · have z := r j hj
    have y := g j hj
    rw [e3 _ (by omega), e3 _ (by omega), e3 _ (by omega)]
    exact ⟨z.1, y⟩
theorem lm_out {m : Nat} (hm : m < n) : ∀ (d : Nat) (h : am_H) (t : Int) (ce ye : Nat → Int), d ≤ 61 → RepM h n c lo t ce so ha ye → Wf n c ce so ha ye → Sh h 129 6 → ∃ h', gv mMod_outIn 2 [vR 120, vI (m : Int), vI (61 - (d : Int))] [] h = some (some (vI (outF n so ha m d (61 - (d : Int)) ce ye)), h') ∧ (∃ t1 ce1 ye1, RepM h' n c lo t1 ce1 so ha ye1) ∧ Sh h' 129 6 ∧ FE [124, 129] h h' := by
  intro d
  induction d with
  | zero =>
    intro h t ce ye hd S hw hs
    refine ⟨h, ?_, ⟨t, ce, ye, S⟩, hs, FE.rf⟩
    rw [e_Mod_outIn_2]
    simp (disch := omega) only [e_Mod_outIn_0, e_Mod_outIn_1, e_Mod_outIn_3, e_Mod_outIn_5, e_Mod_outIn_8, e_Mod_outIn_9, e_Mod_outIn_10, e_Mod_outIn_13, e_Mod_outIn_13b, e_Mod_outIn_16, e_Mod_outIn_17, e_Mod_outIn_20, e_Mod_outIn_21, e_Mod_outIn_24, e_Mod_outIn_27, e_Mod_outIn_28, e_Mod_outIn_30, e_Mod_outIn_33, e_Mod_outIn_35, e_Mod_outIn_38, e_Mod_outIn_39, alk_in, ask_in, blk_in, bsk_in, qlk_in, ack_in, rcv_in, rcA_in, bk_i, bk_l, bk_v, hS_same, hS_ne, hS_hS, hS_2, am_10, am_01, am_00, if_true, if_false]
    rw [if_pos (by omega)]
    rfl
  | succ d ih =>
    intro h t ce ye hd S hw hs
    have c1 := m_isIn S hw hm
    have S0 := S
    obtain ⟨x0, x2, x7, x11, x12, x13, x14, x15, T, F, o, a, b, r0, r1, r2, r3, r⟩ := S
    unfold MoA at o
    by_cases hin : ce m = -9
    · refine ⟨h, ?_, ⟨t, ce, ye, S0⟩, hs, FE.rf⟩
      rw [e_Mod_outIn_2]
      unfold outF
      simp (disch := omega) only [e_Mod_outIn_0, e_Mod_outIn_1, e_Mod_outIn_3, e_Mod_outIn_5, e_Mod_outIn_8, e_Mod_outIn_9, e_Mod_outIn_10, e_Mod_outIn_13, e_Mod_outIn_13b, e_Mod_outIn_16, e_Mod_outIn_17, e_Mod_outIn_20, e_Mod_outIn_21, e_Mod_outIn_24, e_Mod_outIn_27, e_Mod_outIn_28, e_Mod_outIn_30, e_Mod_outIn_33, e_Mod_outIn_35, e_Mod_outIn_38, e_Mod_outIn_39, alk_in, ask_in, blk_in, bsk_in, qlk_in, ack_in, rcv_in, rcA_in, bk_i, bk_l, bk_v, hS_same, hS_ne, hS_hS, hS_2, am_10, am_01, am_00, if_true, if_false, o, c1, hin]
      rw [if_neg (by omega), if_neg (by omega)]
    · obtain ⟨h1, e1, S1, s1, f1⟩ := m_passes S0 hw hs
      obtain ⟨h2, e2, S2, s2, f2⟩ := ih h1 (t + 1) _ _ (by omega) S1 hw.pass s1
      refine ⟨h2, ?_, S2, s2, f1.tr f2⟩
      rw [e_Mod_outIn_2]
      unfold outF
      have e3 : (61 : Int) - ((d + 1 : Nat) : Int) + 1 = 61 - (d : Int) := by omega
      rw [if_neg hin, e3, ← e2]
      simp (disch := omega) only [e_Mod_outIn_0, e_Mod_outIn_1, e_Mod_outIn_3, e_Mod_outIn_5, e_Mod_outIn_8, e_Mod_outIn_9, e_Mod_outIn_10, e_Mod_outIn_13, e_Mod_outIn_13b, e_Mod_outIn_16, e_Mod_outIn_17, e_Mod_outIn_20, e_Mod_outIn_21, e_Mod_outIn_24, e_Mod_outIn_27, e_Mod_outIn_28, e_Mod_outIn_30, e_Mod_outIn_33, e_Mod_outIn_35, e_Mod_outIn_38, e_Mod_outIn_39, alk_in, ask_in, blk_in, bsk_in, qlk_in, ack_in, rcv_in, rcA_in, bk_i, bk_l, bk_v, hS_same, hS_ne, hS_hS, hS_2, am_10, am_01, am_00, if_true, if_false, o, c1, e1, hin, e3]
      rw [if_neg (by omega)]
theorem m_out {h : am_H} {t : Int} {ce ye : Nat → Int} {m : Nat} (hm : m < n) (S : RepM h n c lo t ce so ha ye) (hw : Wf n c ce so ha ye) (hs : Sh h 129 6) : ∃ h', ev mMod_outIn [vR 120, vI (m : Int)] h = some (some (vI (outF n so ha m 61 0 ce ye)), h') ∧ (∃ t1 ce1 ye1, RepM h' n c lo t1 ce1 so ha ye1) ∧ Sh h' 129 6 ∧ FE [124, 129] h h' := by
  obtain ⟨h', e1, r⟩ := lm_out hm 61 h t ce ye (by omega) S hw hs
  refine ⟨h', ?_, r⟩
  rw [ev_Mod_outIn, e_Mod_outIn_0, e_Mod_outIn_1]
  exact e1
theorem lm_allIn {h : am_H} {t : Int} {ce ye : Nat → Int} (S : RepM h n c lo t ce so ha ye) (hw : Wf n c ce so ha ye) : ∀ (d k : Nat), k + d = n → gv mMod_allIn 4 [vR 120, vI ((btn ce k : Nat) : Int), vI (k : Int)] [] h = some (some (vI ((btn ce n : Nat) : Int)), h) := by
  have hn := hw.1
  have S0 := S
  obtain ⟨x0, x2, x7, x11, x12, x13, x14, x15, T, F, o, a, b, r0, r1, r2, r3, r⟩ := S
  unfold MoA at o
  intro d
  induction d with
  | zero =>
    intro k hk
    have : k = n := by omega
    subst this
    rw [e_Mod_allIn_4]
    simp (disch := omega) only [e_Mod_allIn_0, e_Mod_allIn_1, e_Mod_allIn_2, e_Mod_allIn_3, e_Mod_allIn_5, e_Mod_allIn_6, e_Mod_allIn_9, e_Mod_allIn_10, e_Mod_allIn_11, e_Mod_allIn_17, e_Mod_allIn_20, e_Mod_allIn_20b, e_Mod_allIn_23, e_Mod_allIn_24, e_Mod_allIn_25, e_Mod_allIn_26, e_Mod_allIn_29, e_Mod_allIn_30, e_Mod_allIn_31, e_Mod_allIn_32, e_Mod_allIn_35, e_Mod_allIn_38, e_Mod_allIn_39, alk_in, ask_in, blk_in, bsk_in, qlk_in, ack_in, rcv_in, rcA_in, bk_i, bk_l, bk_v, hS_same, hS_ne, hS_hS, hS_2, am_10, am_01, am_00, if_true, if_false, gf_12_0, pf_12_0, gf_12_1, pf_12_1, gf_12_2, pf_12_2, gf_12_3, pf_12_3, gf_12_4, pf_12_4, gf_12_5, pf_12_5, gf_12_6, pf_12_6, gf_12_7, pf_12_7, gf_12_8, pf_12_8, gf_12_9, pf_12_9, gf_12_10, pf_12_10, gf_12_11, pf_12_11, gf_12_12, pf_12_12, gf_12_13, pf_12_13, gf_12_14, pf_12_14, gf_12_15, pf_12_15, gf_12_16, pf_12_16, gf_12_17, pf_12_17, gf_12_18, pf_12_18, gf_12_19, pf_12_19, gf_12_20, pf_12_20, o, a, tl_1, r1]
    rw [if_neg (by omega)]
  | succ d ih =>
    intro k hk
    have hkn : k < n := by omega
    have c1 := m_isIn S0 hw hkn
    have e1 := ih (k + 1) (by omega)
    rw [e_Mod_allIn_4, ← e1]
    have j2 : jor ((btn ce k : Nat) : Int) 0 = ((btn ce k : Nat) : Int) := by
      have := jor_s (btn ce k) (btn_b ce (by omega)) 0 (by omega)
      rw [Nat.or_zero] at this
      exact this
    by_cases hin : ce k = -9
    · have e2 : btn ce (k + 1) = btn ce k := by
        show (if ce k = -9 then _ else _) = _
        rw [if_pos hin]
      rw [e2]
      simp (disch := omega) only [e_Mod_allIn_0, e_Mod_allIn_1, e_Mod_allIn_2, e_Mod_allIn_3, e_Mod_allIn_5, e_Mod_allIn_6, e_Mod_allIn_9, e_Mod_allIn_10, e_Mod_allIn_11, e_Mod_allIn_14, e_Mod_allIn_15, e_Mod_allIn_16, e_Mod_allIn_17, e_Mod_allIn_20, e_Mod_allIn_20b, e_Mod_allIn_23, e_Mod_allIn_24, e_Mod_allIn_25, e_Mod_allIn_26, e_Mod_allIn_29, e_Mod_allIn_30, e_Mod_allIn_31, e_Mod_allIn_32, e_Mod_allIn_35, e_Mod_allIn_38, e_Mod_allIn_39, alk_in, ask_in, blk_in, bsk_in, qlk_in, ack_in, rcv_in, rcA_in, bk_i, bk_l, bk_v, hS_same, hS_ne, hS_hS, hS_2, am_10, am_01, am_00, if_true, if_false, gf_12_0, pf_12_0, gf_12_1, pf_12_1, gf_12_2, pf_12_2, gf_12_3, pf_12_3, gf_12_4, pf_12_4, gf_12_5, pf_12_5, gf_12_6, pf_12_6, gf_12_7, pf_12_7, gf_12_8, pf_12_8, gf_12_9, pf_12_9, gf_12_10, pf_12_10, gf_12_11, pf_12_11, gf_12_12, pf_12_12, gf_12_13, pf_12_13, gf_12_14, pf_12_14, gf_12_15, pf_12_15, gf_12_16, pf_12_16, gf_12_17, pf_12_17, gf_12_18, pf_12_18, gf_12_19, pf_12_19, gf_12_20, pf_12_20, o, a, tl_1, r1, c1, hin, j2]
      rw [if_pos (by omega)]
      rfl
    · have e2 : btn ce (k + 1) = btn ce k ||| 2 ^ k := by
        show (if ce k = -9 then _ else _) = _
        rw [if_neg hin]
      rw [e2]
      simp (disch := omega) only [e_Mod_allIn_0, e_Mod_allIn_1, e_Mod_allIn_2, e_Mod_allIn_3, e_Mod_allIn_5, e_Mod_allIn_6, e_Mod_allIn_9, e_Mod_allIn_10, e_Mod_allIn_11, e_Mod_allIn_14, e_Mod_allIn_15, e_Mod_allIn_16, e_Mod_allIn_17, e_Mod_allIn_20, e_Mod_allIn_20b, e_Mod_allIn_23, e_Mod_allIn_24, e_Mod_allIn_25, e_Mod_allIn_26, e_Mod_allIn_29, e_Mod_allIn_30, e_Mod_allIn_31, e_Mod_allIn_32, e_Mod_allIn_35, e_Mod_allIn_38, e_Mod_allIn_39, alk_in, ask_in, blk_in, bsk_in, qlk_in, ack_in, rcv_in, rcA_in, bk_i, bk_l, bk_v, hS_same, hS_ne, hS_hS, hS_2, am_10, am_01, am_00, if_true, if_false, gf_12_0, pf_12_0, gf_12_1, pf_12_1, gf_12_2, pf_12_2, gf_12_3, pf_12_3, gf_12_4, pf_12_4, gf_12_5, pf_12_5, gf_12_6, pf_12_6, gf_12_7, pf_12_7, gf_12_8, pf_12_8, gf_12_9, pf_12_9, gf_12_10, pf_12_10, gf_12_11, pf_12_11, gf_12_12, pf_12_12, gf_12_13, pf_12_13, gf_12_14, pf_12_14, gf_12_15, pf_12_15, gf_12_16, pf_12_16, gf_12_17, pf_12_17, gf_12_18, pf_12_18, gf_12_19, pf_12_19, gf_12_20, pf_12_20, o, a, tl_1, r1, c1, hin, jshl_s k (by omega), jor_s (btn ce k) (btn_b ce (by omega)) (2 ^ k) (pw_b (by omega))]
      rw [if_pos (by omega)]
      rfl
theorem m_allIn {h : am_H} {t : Int} {ce ye : Nat → Int} (S : RepM h n c lo t ce so ha ye) (hw : Wf n c ce so ha ye) : ev mMod_allIn [vR 120] h = some (some (vI ((btn ce n : Nat) : Int)), h) := by
  rw [ev_Mod_allIn, e_Mod_allIn_0, e_Mod_allIn_1, e_Mod_allIn_2, e_Mod_allIn_3]
  exact lm_allIn S hw n 0 (by omega)
theorem lm_allYears {h : am_H} {t : Int} {ce ye : Nat → Int} (S : RepM h n c lo t ce so ha ye) (hw : Wf n c ce so ha ye) : ∀ (d k : Nat), k + d = n → gv mMod_allYears 4 [vR 120, vI (sye ye k), vI (k : Int)] [] h = some (some (vI (sye ye n)), h) := by
  have hn := hw.1
  obtain ⟨x0, x2, x7, x11, x12, x13, x14, x15, T, F, o, a, b, r0, r1, r2, r3, r⟩ := S
  unfold MoA at o
  intro d
  induction d with
  | zero =>
    intro k hk
    have : k = n := by omega
    subst this
    rw [e_Mod_allYears_4]
    simp (disch := omega) only [e_Mod_allYears_0, e_Mod_allYears_1, e_Mod_allYears_2, e_Mod_allYears_3, e_Mod_allYears_5, e_Mod_allYears_6, e_Mod_allYears_9, e_Mod_allYears_10, e_Mod_allYears_11, e_Mod_allYears_19, e_Mod_allYears_21, e_Mod_allYears_22, e_Mod_allYears_23, e_Mod_allYears_24, e_Mod_allYears_25, e_Mod_allYears_26, e_Mod_allYears_29, e_Mod_allYears_32, e_Mod_allYears_33, alk_in, ask_in, blk_in, bsk_in, qlk_in, ack_in, rcv_in, rcA_in, bk_i, bk_l, bk_v, hS_same, hS_ne, hS_hS, hS_2, am_10, am_01, am_00, if_true, if_false, gf_12_0, pf_12_0, gf_12_1, pf_12_1, gf_12_2, pf_12_2, gf_12_3, pf_12_3, gf_12_4, pf_12_4, gf_12_5, pf_12_5, gf_12_6, pf_12_6, gf_12_7, pf_12_7, gf_12_8, pf_12_8, gf_12_9, pf_12_9, gf_12_10, pf_12_10, gf_12_11, pf_12_11, gf_12_12, pf_12_12, gf_12_13, pf_12_13, gf_12_14, pf_12_14, gf_12_15, pf_12_15, gf_12_16, pf_12_16, gf_12_17, pf_12_17, gf_12_18, pf_12_18, gf_12_19, pf_12_19, gf_12_20, pf_12_20, o, a, tl_1, r1]
    rw [if_neg (by omega)]
  | succ d ih =>
    intro k hk
    have hkn : k < n := by omega
    have e1 := ih (k + 1) (by omega)
    rw [e_Mod_allYears_4, ← e1]
    simp (disch := omega) only [e_Mod_allYears_0, e_Mod_allYears_1, e_Mod_allYears_2, e_Mod_allYears_3, e_Mod_allYears_5, e_Mod_allYears_6, e_Mod_allYears_9, e_Mod_allYears_10, e_Mod_allYears_11, e_Mod_allYears_14, e_Mod_allYears_15, e_Mod_allYears_16, e_Mod_allYears_19, e_Mod_allYears_21, e_Mod_allYears_22, e_Mod_allYears_23, e_Mod_allYears_24, e_Mod_allYears_25, e_Mod_allYears_26, e_Mod_allYears_29, e_Mod_allYears_32, e_Mod_allYears_33, alk_in, ask_in, blk_in, bsk_in, qlk_in, ack_in, rcv_in, rcA_in, bk_i, bk_l, bk_v, hS_same, hS_ne, hS_hS, hS_2, am_10, am_01, am_00, if_true, if_false, gf_12_0, pf_12_0, gf_12_1, pf_12_1, gf_12_2, pf_12_2, gf_12_3, pf_12_3, gf_12_4, pf_12_4, gf_12_5, pf_12_5, gf_12_6, pf_12_6, gf_12_7, pf_12_7, gf_12_8, pf_12_8, gf_12_9, pf_12_9, gf_12_10, pf_12_10, gf_12_11, pf_12_11, gf_12_12, pf_12_12, gf_12_13, pf_12_13, gf_12_14, pf_12_14, gf_12_15, pf_12_15, gf_12_16, pf_12_16, gf_12_17, pf_12_17, gf_12_18, pf_12_18, gf_12_19, pf_12_19, gf_12_20, pf_12_20, o, a, b, tl_1, r1, tn_13, (r k hkn).2.2.2]
    rw [if_pos (by omega)]
    rfl
theorem m_allYears {h : am_H} {t : Int} {ce ye : Nat → Int} (S : RepM h n c lo t ce so ha ye) (hw : Wf n c ce so ha ye) : ev mMod_allYears [vR 120] h = some (some (vI (sye ye n)), h) := by
  rw [ev_Mod_allYears, e_Mod_allYears_0, e_Mod_allYears_1, e_Mod_allYears_2, e_Mod_allYears_3]
  exact lm_allYears S hw n 0 (by omega)
end Mod3
