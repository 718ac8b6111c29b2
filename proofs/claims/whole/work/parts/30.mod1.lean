/-! The model: a gaol in its rows; its small methods -/
def FE (l : List Nat) (h h' : am_H) : Prop := h'.2 = h.2 ∧ ∀ x, x ∉ l → h'.1 x = h.1 x
theorem FE.rf {l : List Nat} {h : am_H} : FE l h h := ⟨rfl, fun _ _ => rfl⟩
theorem FE.tr {l : List Nat} {h h1 h2 : am_H} (a : FE l h h1) (c : FE l h1 h2) : FE l h h2 := ⟨c.1.trans a.1, fun x hx => (c.2 x hx).trans (a.2 x hx)⟩
theorem FE.st {l : List Nat} {h : am_H} {a : Nat} {c : am_C} (ha : a ∈ l) : FE l h (hS h a c) := ⟨rfl, fun x hx => hS_ne (fun e => hx (by rw [e]; exact ha))⟩
theorem FE.wd {l l' : List Nat} {h h' : am_H} (f : FE l h h') (q : ∀ x ∈ l, x ∈ l') : FE l' h h' := ⟨f.1, fun x hx => f.2 x (fun z => hx (q x z))⟩
theorem FE.at {l : List Nat} {h h' : am_H} (f : FE l h h') {x : Nat} {c : am_C} (e : h.1 x = c) (q : x ∉ l) : h'.1 x = c := (f.2 x q).trans e
def MoA (h : am_H) (x0 x2 x7 x11 x12 x13 x14 x15 : am_V) : Prop := h.1 120 = cO 12 [x0, vR 121, x2, vR 122, vR 123, vR 124, vR 125, x7, vR 126, vR 127, vR 128, x11, x12, x13, x14, x15, vR 129, vR 130, vR 131, vR 132, vR 133]
def RepM (h : am_H) (n c : Nat) (lo t : Int) (ce so ha ye : Nat → Int) : Prop := ∃ x0 x2 x7 x11 x12 x13 x14 x15 T F, MoA h x0 x2 x7 x11 x12 x13 x14 x15 ∧ h.1 122 = cI 0 29 T ∧ h.1 124 = cI 0 19 F ∧ T 0 = (c : Int) ∧ T 1 = (n : Int) ∧ T 2 = lo ∧ F 0 = t ∧ ∀ j, j < n → T (5 + j) = ha j ∧ F (1 + j) = ce j ∧ F (7 + j) = so j ∧ F (13 + j) = ye j
theorem RepM.co {h : am_H} {n c : Nat} {lo t : Int} {ce so ha ye ce1 so1 ha1 ye1 : Nat → Int} (S : RepM h n c lo t ce so ha ye) (e : ∀ j, j < n → ce j = ce1 j ∧ so j = so1 j ∧ ha j = ha1 j ∧ ye j = ye1 j) : RepM h n c lo t ce1 so1 ha1 ye1 := by
  obtain ⟨x0, x2, x7, x11, x12, x13, x14, x15, T, F, o, a, b, r0, r1, r2, r3, r⟩ := S
  refine ⟨x0, x2, x7, x11, x12, x13, x14, x15, T, F, o, a, b, r0, r1, r2, r3, fun j hj => ?_⟩
  have z := r j hj; have y := e j hj
  exact ⟨z.1.trans y.2.2.1, z.2.1.trans y.1, z.2.2.1.trans y.2.1, z.2.2.2.trans y.2.2.2⟩
theorem tn_1 (m : Nat) : (1 + (m : Int)).toNat = 1 + m := by omega
theorem tn_5 (m : Nat) : (5 + (m : Int)).toNat = 5 + m := by omega
theorem tn_7 (m : Nat) : (7 + (m : Int)).toNat = 7 + m := by omega
theorem tn_13 (m : Nat) : (13 + (m : Int)).toNat = 13 + m := by omega
theorem tl_0 : (0 : Int).toNat = 0 := rfl
theorem tl_1 : (1 : Int).toNat = 1 := rfl
theorem tl_2 : (2 : Int).toNat = 2 := rfl
theorem tl_3 : (3 : Int).toNat = 3 := rfl
theorem tl_4 : (4 : Int).toNat = 4 := rfl
theorem c_min {h : am_H} {v x y : Int} (hv : -2147483648 ≤ v ∧ v < 2147483648) (hx : -2147483648 ≤ x ∧ x < 2147483648) (hy : -2147483648 ≤ y ∧ y < 2147483648) : ev mMod_in [vI v, vI x, vI y] h = some (some (vI (if x ≤ v ∧ v ≤ y then 1 else 0)), h) := by
  rw [ev_Mod_in]
  simp (disch := omega) only [e_Mod_in_0, e_Mod_in_1, e_Mod_in_2, e_Mod_in_5, e_Mod_in_6, e_Mod_in_7, e_Mod_in_10, e_Mod_in_11, e_Mod_in_14, e_Mod_in_15]
  by_cases h1 : v < x <;> by_cases h2 : y < v <;> simp [h1, h2] <;> omega
theorem c_puts {h : am_H} {a s : Int} (hs : -2147483648 ≤ s ∧ s < 2147483648) : ev mMod_puts [vI a, vI s] h = some (some (vI (fig a s)), h) := by
  rw [ev_Mod_puts]
  unfold fig
  by_cases h0 : s = 0
  · subst h0; simp (disch := omega) only [e_Mod_puts_0, e_Mod_puts_1c0, e_Mod_puts_1c1, e_Mod_puts_1c2, e_Mod_puts_1c3, e_Mod_puts_1d, e_Mod_puts_32, e_Mod_puts_33, e_Mod_puts_34, e_Mod_puts_35, e_Mod_puts_36, e_Mod_puts_37, e_Mod_puts_38, e_Mod_puts_39, e_Mod_puts_40, e_Mod_puts_41, e_Mod_puts_42, e_Mod_puts_43, e_Mod_puts_44, e_Mod_puts_45, e_Mod_puts_46, e_Mod_puts_47, if_true]
  by_cases h1 : s = 1
  · subst h1; simp (disch := omega) only [e_Mod_puts_0, e_Mod_puts_1c0, e_Mod_puts_1c1, e_Mod_puts_1c2, e_Mod_puts_1c3, e_Mod_puts_1d, e_Mod_puts_32, e_Mod_puts_33, e_Mod_puts_34, e_Mod_puts_35, e_Mod_puts_36, e_Mod_puts_37, e_Mod_puts_38, e_Mod_puts_39, e_Mod_puts_40, e_Mod_puts_41, e_Mod_puts_42, e_Mod_puts_43, e_Mod_puts_44, e_Mod_puts_45, e_Mod_puts_46, e_Mod_puts_47, if_true, h0, if_false]
  by_cases h2 : s = 2
  · subst h2; simp (disch := omega) only [e_Mod_puts_0, e_Mod_puts_1c0, e_Mod_puts_1c1, e_Mod_puts_1c2, e_Mod_puts_1c3, e_Mod_puts_1d, e_Mod_puts_32, e_Mod_puts_33, e_Mod_puts_34, e_Mod_puts_35, e_Mod_puts_36, e_Mod_puts_37, e_Mod_puts_38, e_Mod_puts_39, e_Mod_puts_40, e_Mod_puts_41, e_Mod_puts_42, e_Mod_puts_43, e_Mod_puts_44, e_Mod_puts_45, e_Mod_puts_46, e_Mod_puts_47, if_true, h0, h1, if_false]
  by_cases h3 : s = 3
  · subst h3; simp (disch := omega) only [e_Mod_puts_0, e_Mod_puts_1c0, e_Mod_puts_1c1, e_Mod_puts_1c2, e_Mod_puts_1c3, e_Mod_puts_1d, e_Mod_puts_32, e_Mod_puts_33, e_Mod_puts_34, e_Mod_puts_35, e_Mod_puts_36, e_Mod_puts_37, e_Mod_puts_38, e_Mod_puts_39, e_Mod_puts_40, e_Mod_puts_41, e_Mod_puts_42, e_Mod_puts_43, e_Mod_puts_44, e_Mod_puts_45, e_Mod_puts_46, e_Mod_puts_47, if_true, h0, h1, h2, if_false]
  · simp (disch := omega) only [e_Mod_puts_0, e_Mod_puts_1c0, e_Mod_puts_1c1, e_Mod_puts_1c2, e_Mod_puts_1c3, e_Mod_puts_1d, e_Mod_puts_32, e_Mod_puts_33, e_Mod_puts_34, e_Mod_puts_35, e_Mod_puts_36, e_Mod_puts_37, e_Mod_puts_38, e_Mod_puts_39, e_Mod_puts_40, e_Mod_puts_41, e_Mod_puts_42, e_Mod_puts_43, e_Mod_puts_44, e_Mod_puts_45, e_Mod_puts_46, e_Mod_puts_47, h0, h1, h2, h3, if_false]
section Mod1
variable {h : am_H} {n c : Nat} {lo t : Int} {ce so ha ye : Nat → Int}
theorem m_isMan (S : RepM h n c lo t ce so ha ye) (hn : n ≤ 6) {x : Int} (hx : -2147483648 ≤ x ∧ x < 2147483648) : ev mMod_isMan [vR 120, vI x] h = some (some (vI (if 0 ≤ x ∧ x < n then 1 else 0)), h) := by
  obtain ⟨x0, x2, x7, x11, x12, x13, x14, x15, T, F, o, a, b, r0, r1, r2, r3, r⟩ := S
  unfold MoA at o
  have c1 := c_min (h := h) (v := x) (x := 0) (y := (n : Int) - 1) hx (by omega) (by omega)
  rw [ev_Mod_isMan]
  simp (disch := omega) only [e_Mod_isMan_0, e_Mod_isMan_1, e_Mod_isMan_2, e_Mod_isMan_3, e_Mod_isMan_6, e_Mod_isMan_7, e_Mod_isMan_8, e_Mod_isMan_9, e_Mod_isMan_10, e_Mod_isMan_13, alk_in, ask_in, blk_in, bsk_in, qlk_in, ack_in, rcv_in, rcA_in, bk_i, bk_l, bk_v, hS_same, hS_ne, hS_hS, hS_2, am_10, am_01, am_00, if_true, if_false, gf_12_0, pf_12_0, gf_12_1, pf_12_1, gf_12_2, pf_12_2, gf_12_3, pf_12_3, gf_12_4, pf_12_4, gf_12_5, pf_12_5, gf_12_6, pf_12_6, gf_12_7, pf_12_7, gf_12_8, pf_12_8, gf_12_9, pf_12_9, gf_12_10, pf_12_10, gf_12_11, pf_12_11, gf_12_12, pf_12_12, gf_12_13, pf_12_13, gf_12_14, pf_12_14, gf_12_15, pf_12_15, gf_12_16, pf_12_16, gf_12_17, pf_12_17, gf_12_18, pf_12_18, gf_12_19, pf_12_19, gf_12_20, pf_12_20, o, a, tl_1, r1, c1]
  refine am_ans ?_
  by_cases q : 0 ≤ x ∧ x < n
  · rw [if_pos q, if_pos (by omega)]
  · rw [if_neg q, if_neg (by omega)]
theorem m_isCell (S : RepM h n c lo t ce so ha ye) (hc : c ≤ 9) {x : Int} (hx : -2147483648 ≤ x ∧ x < 2147483648) : ev mMod_isCell [vR 120, vI x] h = some (some (vI (if 0 ≤ x ∧ x < c then 1 else 0)), h) := by
  obtain ⟨x0, x2, x7, x11, x12, x13, x14, x15, T, F, o, a, b, r0, r1, r2, r3, r⟩ := S
  unfold MoA at o
  have c1 := c_min (h := h) (v := x) (x := 0) (y := (c : Int) - 1) hx (by omega) (by omega)
  rw [ev_Mod_isCell]
  simp (disch := omega) only [e_Mod_isCell_0, e_Mod_isCell_1, e_Mod_isCell_2, e_Mod_isCell_3, e_Mod_isCell_6, e_Mod_isCell_7, e_Mod_isCell_8, e_Mod_isCell_9, e_Mod_isCell_10, e_Mod_isCell_13, alk_in, ask_in, blk_in, bsk_in, qlk_in, ack_in, rcv_in, rcA_in, bk_i, bk_l, bk_v, hS_same, hS_ne, hS_hS, hS_2, am_10, am_01, am_00, if_true, if_false, gf_12_0, pf_12_0, gf_12_1, pf_12_1, gf_12_2, pf_12_2, gf_12_3, pf_12_3, gf_12_4, pf_12_4, gf_12_5, pf_12_5, gf_12_6, pf_12_6, gf_12_7, pf_12_7, gf_12_8, pf_12_8, gf_12_9, pf_12_9, gf_12_10, pf_12_10, gf_12_11, pf_12_11, gf_12_12, pf_12_12, gf_12_13, pf_12_13, gf_12_14, pf_12_14, gf_12_15, pf_12_15, gf_12_16, pf_12_16, gf_12_17, pf_12_17, gf_12_18, pf_12_18, gf_12_19, pf_12_19, gf_12_20, pf_12_20, o, a, tl_0, r0, c1]
  refine am_ans ?_
  by_cases q : 0 ≤ x ∧ x < c
  · rw [if_pos q, if_pos (by omega)]
  · rw [if_neg q, if_neg (by omega)]
theorem m_isIn (S : RepM h n c lo t ce so ha ye) (hw : Wf n c ce so ha ye) {m : Nat} (hm : m < n) : ev mMod_isIn [vR 120, vI (m : Int)] h = some (some (vI (if ce m = -9 then 0 else 1)), h) := by
  obtain ⟨x0, x2, x7, x11, x12, x13, x14, x15, T, F, o, a, b, r0, r1, r2, r3, r⟩ := S
  unfold MoA at o
  have h1 := hw.2.2.2.1 m hm
  have h2 := hw.1
  have h3 := hw.2.2.1
  rw [ev_Mod_isIn]
  simp (disch := omega) only [e_Mod_isIn_0, e_Mod_isIn_1, e_Mod_isIn_4, e_Mod_isIn_5, e_Mod_isIn_6, e_Mod_isIn_7, e_Mod_isIn_8, e_Mod_isIn_10, e_Mod_isIn_13, e_Mod_isIn_14, e_Mod_isIn_17, e_Mod_isIn_18, alk_in, ask_in, blk_in, bsk_in, qlk_in, ack_in, rcv_in, rcA_in, bk_i, bk_l, bk_v, hS_same, hS_ne, hS_hS, hS_2, am_10, am_01, am_00, if_true, if_false, gf_12_0, pf_12_0, gf_12_1, pf_12_1, gf_12_2, pf_12_2, gf_12_3, pf_12_3, gf_12_4, pf_12_4, gf_12_5, pf_12_5, gf_12_6, pf_12_6, gf_12_7, pf_12_7, gf_12_8, pf_12_8, gf_12_9, pf_12_9, gf_12_10, pf_12_10, gf_12_11, pf_12_11, gf_12_12, pf_12_12, gf_12_13, pf_12_13, gf_12_14, pf_12_14, gf_12_15, pf_12_15, gf_12_16, pf_12_16, gf_12_17, pf_12_17, gf_12_18, pf_12_18, gf_12_19, pf_12_19, gf_12_20, pf_12_20, o, b, tn_1, (r m hm).2.1]
  by_cases q : ce m = -9 <;> simp [q]
theorem lm_whoIn (S : RepM h n c lo t ce so ha ye) (hw : Wf n c ce so ha ye) {x : Int} (hx : -2147483648 ≤ x ∧ x < 2147483648) : ∀ (d k : Nat), k + d = n → gv mMod_whoIn 5 [vR 120, vI x, vI (who k ce x), vI (k : Int)] [] h = some (some (vI (who n ce x)), h) := by
  have hn := hw.1
  have hc9 := hw.2.2.1
  obtain ⟨x0, x2, x7, x11, x12, x13, x14, x15, T, F, o, a, b, r0, r1, r2, r3, r⟩ := S
  unfold MoA at o
  intro d
  induction d with
  | zero =>
    intro k hk
    have : k = n := by omega
    subst this
    rw [e_Mod_whoIn_5]
    simp (disch := omega) only [e_Mod_whoIn_6, e_Mod_whoIn_7, e_Mod_whoIn_10, e_Mod_whoIn_11, e_Mod_whoIn_12, e_Mod_whoIn_39, e_Mod_whoIn_40, alk_in, ask_in, blk_in, bsk_in, qlk_in, ack_in, rcv_in, rcA_in, bk_i, bk_l, bk_v, hS_same, hS_ne, hS_hS, hS_2, am_10, am_01, am_00, if_true, if_false, gf_12_0, pf_12_0, gf_12_1, pf_12_1, gf_12_2, pf_12_2, gf_12_3, pf_12_3, gf_12_4, pf_12_4, gf_12_5, pf_12_5, gf_12_6, pf_12_6, gf_12_7, pf_12_7, gf_12_8, pf_12_8, gf_12_9, pf_12_9, gf_12_10, pf_12_10, gf_12_11, pf_12_11, gf_12_12, pf_12_12, gf_12_13, pf_12_13, gf_12_14, pf_12_14, gf_12_15, pf_12_15, gf_12_16, pf_12_16, gf_12_17, pf_12_17, gf_12_18, pf_12_18, gf_12_19, pf_12_19, gf_12_20, pf_12_20, o, a, tl_1, r1]
    rw [if_neg (by omega)]
  | succ d ih =>
    intro k hk
    have hkn : k < n := by omega
    have h1 := hw.2.2.2.1 k hkn
    have e1 := ih (k + 1) (by omega)
    rw [e_Mod_whoIn_5, ← e1]
    have e2 : who (k + 1) ce x = if ce k = x then (k : Int) else who k ce x := rfl
    rw [e2]
    simp (disch := omega) only [e_Mod_whoIn_0, e_Mod_whoIn_2, e_Mod_whoIn_3, e_Mod_whoIn_4, e_Mod_whoIn_6, e_Mod_whoIn_7, e_Mod_whoIn_10, e_Mod_whoIn_11, e_Mod_whoIn_12, e_Mod_whoIn_15, e_Mod_whoIn_16, e_Mod_whoIn_19, e_Mod_whoIn_20, e_Mod_whoIn_21, e_Mod_whoIn_22, e_Mod_whoIn_23, e_Mod_whoIn_24, e_Mod_whoIn_27, e_Mod_whoIn_28, e_Mod_whoIn_31, e_Mod_whoIn_32, e_Mod_whoIn_33, e_Mod_whoIn_36, e_Mod_whoIn_39, e_Mod_whoIn_40, alk_in, ask_in, blk_in, bsk_in, qlk_in, ack_in, rcv_in, rcA_in, bk_i, bk_l, bk_v, hS_same, hS_ne, hS_hS, hS_2, am_10, am_01, am_00, if_true, if_false, gf_12_0, pf_12_0, gf_12_1, pf_12_1, gf_12_2, pf_12_2, gf_12_3, pf_12_3, gf_12_4, pf_12_4, gf_12_5, pf_12_5, gf_12_6, pf_12_6, gf_12_7, pf_12_7, gf_12_8, pf_12_8, gf_12_9, pf_12_9, gf_12_10, pf_12_10, gf_12_11, pf_12_11, gf_12_12, pf_12_12, gf_12_13, pf_12_13, gf_12_14, pf_12_14, gf_12_15, pf_12_15, gf_12_16, pf_12_16, gf_12_17, pf_12_17, gf_12_18, pf_12_18, gf_12_19, pf_12_19, gf_12_20, pf_12_20, o, a, b, tl_1, r1, tn_1, (r k hkn).2.1]
    rw [if_pos (by omega)]
    by_cases q : ce k = x
    · rw [if_pos q, if_pos q]; rfl
    · rw [if_neg q, if_neg q]; rfl
theorem m_whoIn (S : RepM h n c lo t ce so ha ye) (hw : Wf n c ce so ha ye) {x : Int} (hx : -2147483648 ≤ x ∧ x < 2147483648) : ev mMod_whoIn [vR 120, vI x] h = some (some (vI (who n ce x)), h) := by
  rw [ev_Mod_whoIn, e_Mod_whoIn_0, e_Mod_whoIn_2, e_Mod_whoIn_3, e_Mod_whoIn_4]
  exact lm_whoIn S hw hx n 0 (by omega)
theorem lm_beside (S : RepM h n c lo t ce so ha ye) (hw : Wf n c ce so ha ye) {m : Nat} (hm : m < n) : ∀ (d k : Nat) (x : am_V), k + d = n → gv mMod_beside 4 [vR 120, vI (m : Int), vI ((nbk ce m k : Nat) : Int), vI (k : Int), x] [] h = some (some (vI ((nbk ce m n : Nat) : Int)), h) := by
  have hn := hw.1
  have hc9 := hw.2.2.1
  have h0 := hw.2.2.2.1 m hm
  have cm := m_isIn S hw hm
  have S0 := S
  obtain ⟨x0, x2, x7, x11, x12, x13, x14, x15, T, F, o, a, b, r0, r1, r2, r3, r⟩ := S
  unfold MoA at o
  intro d
  induction d with
  | zero =>
    intro k x hk
    have : k = n := by omega
    subst this
    rw [e_Mod_beside_4]
    simp (disch := omega) only [e_Mod_beside_5, e_Mod_beside_6, e_Mod_beside_9, e_Mod_beside_10, e_Mod_beside_11, e_Mod_beside_77, e_Mod_beside_78, alk_in, ask_in, blk_in, bsk_in, qlk_in, ack_in, rcv_in, rcA_in, bk_i, bk_l, bk_v, hS_same, hS_ne, hS_hS, hS_2, am_10, am_01, am_00, if_true, if_false, gf_12_0, pf_12_0, gf_12_1, pf_12_1, gf_12_2, pf_12_2, gf_12_3, pf_12_3, gf_12_4, pf_12_4, gf_12_5, pf_12_5, gf_12_6, pf_12_6, gf_12_7, pf_12_7, gf_12_8, pf_12_8, gf_12_9, pf_12_9, gf_12_10, pf_12_10, gf_12_11, pf_12_11, gf_12_12, pf_12_12, gf_12_13, pf_12_13, gf_12_14, pf_12_14, gf_12_15, pf_12_15, gf_12_16, pf_12_16, gf_12_17, pf_12_17, gf_12_18, pf_12_18, gf_12_19, pf_12_19, gf_12_20, pf_12_20, o, a, tl_1, r1]
    rw [if_neg (by omega)]
  | succ d ih =>
    intro k x hk
    have hkn : k < n := by omega
    have h1 := hw.2.2.2.1 k hkn
    have ck := m_isIn S0 hw hkn
    have e1 := ih (k + 1) (vI (ce k - ce m)) (by omega)
    have j1 := jor_s (nbk ce m k) (nbk_b ce m (by omega)) (2 ^ k) (pw_b (by omega))
    have j2 : jor ((nbk ce m k : Nat) : Int) 0 = ((nbk ce m k : Nat) : Int) := by
      have := jor_s (nbk ce m k) (nbk_b ce m (by omega)) 0 (by omega)
      rw [Nat.or_zero] at this
      exact this
    rw [e_Mod_beside_4, ← e1]
    by_cases q : ¬ ce m = -9 ∧ ¬ ce k = -9 ∧ (ce k - ce m = 1 ∨ ce k - ce m = -1)
    · have e2 : nbk ce m (k + 1) = nbk ce m k ||| 2 ^ k := by
        show (if ¬ ce m = -9 ∧ ¬ ce k = -9 ∧ (ce k - ce m = 1 ∨ ce k - ce m = -1) then _ else _) = _
        rw [if_pos q]
      rw [e2]
      simp (disch := omega) only [e_Mod_beside_0, e_Mod_beside_1, e_Mod_beside_2, e_Mod_beside_3, e_Mod_beside_5, e_Mod_beside_6, e_Mod_beside_9, e_Mod_beside_10, e_Mod_beside_11, e_Mod_beside_14, e_Mod_beside_15, e_Mod_beside_18, e_Mod_beside_19, e_Mod_beside_20, e_Mod_beside_21, e_Mod_beside_22, e_Mod_beside_23, e_Mod_beside_26, e_Mod_beside_27, e_Mod_beside_28, e_Mod_beside_29, e_Mod_beside_30, e_Mod_beside_31, e_Mod_beside_33, e_Mod_beside_34, e_Mod_beside_35, e_Mod_beside_36, e_Mod_beside_39, e_Mod_beside_39b, e_Mod_beside_42, e_Mod_beside_43, e_Mod_beside_44, e_Mod_beside_47, e_Mod_beside_47b, e_Mod_beside_50, e_Mod_beside_52, e_Mod_beside_53, e_Mod_beside_56, e_Mod_beside_58, e_Mod_beside_59, e_Mod_beside_62, e_Mod_beside_63, e_Mod_beside_64, e_Mod_beside_65, e_Mod_beside_68, e_Mod_beside_69, e_Mod_beside_70, e_Mod_beside_71, e_Mod_beside_74, e_Mod_beside_77, e_Mod_beside_78, alk_in, ask_in, blk_in, bsk_in, qlk_in, ack_in, rcv_in, rcA_in, bk_i, bk_l, bk_v, hS_same, hS_ne, hS_hS, hS_2, am_10, am_01, am_00, if_true, if_false, gf_12_0, pf_12_0, gf_12_1, pf_12_1, gf_12_2, pf_12_2, gf_12_3, pf_12_3, gf_12_4, pf_12_4, gf_12_5, pf_12_5, gf_12_6, pf_12_6, gf_12_7, pf_12_7, gf_12_8, pf_12_8, gf_12_9, pf_12_9, gf_12_10, pf_12_10, gf_12_11, pf_12_11, gf_12_12, pf_12_12, gf_12_13, pf_12_13, gf_12_14, pf_12_14, gf_12_15, pf_12_15, gf_12_16, pf_12_16, gf_12_17, pf_12_17, gf_12_18, pf_12_18, gf_12_19, pf_12_19, gf_12_20, pf_12_20, o, a, b, tl_1, r1, tn_1, (r k hkn).2.1, (r m hm).2.1, cm, ck, q.1, q.2.1, jshl_s k (by omega), j1]
      rw [if_pos (by omega)]
      rcases q.2.2 with z | z
      · rw [if_pos z]; rfl
      · rw [if_neg (by omega), if_pos z]; rfl
    · have e2 : nbk ce m (k + 1) = nbk ce m k := by
        show (if ¬ ce m = -9 ∧ ¬ ce k = -9 ∧ (ce k - ce m = 1 ∨ ce k - ce m = -1) then _ else _) = _
        rw [if_neg q]
      rw [e2]
      by_cases q1 : ce m = -9
      · simp (disch := omega) only [e_Mod_beside_0, e_Mod_beside_1, e_Mod_beside_2, e_Mod_beside_3, e_Mod_beside_5, e_Mod_beside_6, e_Mod_beside_9, e_Mod_beside_10, e_Mod_beside_11, e_Mod_beside_14, e_Mod_beside_15, e_Mod_beside_18, e_Mod_beside_19, e_Mod_beside_20, e_Mod_beside_21, e_Mod_beside_22, e_Mod_beside_23, e_Mod_beside_26, e_Mod_beside_27, e_Mod_beside_28, e_Mod_beside_29, e_Mod_beside_30, e_Mod_beside_31, e_Mod_beside_33, e_Mod_beside_34, e_Mod_beside_35, e_Mod_beside_36, e_Mod_beside_39, e_Mod_beside_39b, e_Mod_beside_42, e_Mod_beside_43, e_Mod_beside_44, e_Mod_beside_47, e_Mod_beside_47b, e_Mod_beside_50, e_Mod_beside_52, e_Mod_beside_53, e_Mod_beside_56, e_Mod_beside_58, e_Mod_beside_59, e_Mod_beside_62, e_Mod_beside_63, e_Mod_beside_64, e_Mod_beside_65, e_Mod_beside_68, e_Mod_beside_69, e_Mod_beside_70, e_Mod_beside_71, e_Mod_beside_74, e_Mod_beside_77, e_Mod_beside_78, alk_in, ask_in, blk_in, bsk_in, qlk_in, ack_in, rcv_in, rcA_in, bk_i, bk_l, bk_v, hS_same, hS_ne, hS_hS, hS_2, am_10, am_01, am_00, if_true, if_false, gf_12_0, pf_12_0, gf_12_1, pf_12_1, gf_12_2, pf_12_2, gf_12_3, pf_12_3, gf_12_4, pf_12_4, gf_12_5, pf_12_5, gf_12_6, pf_12_6, gf_12_7, pf_12_7, gf_12_8, pf_12_8, gf_12_9, pf_12_9, gf_12_10, pf_12_10, gf_12_11, pf_12_11, gf_12_12, pf_12_12, gf_12_13, pf_12_13, gf_12_14, pf_12_14, gf_12_15, pf_12_15, gf_12_16, pf_12_16, gf_12_17, pf_12_17, gf_12_18, pf_12_18, gf_12_19, pf_12_19, gf_12_20, pf_12_20, o, a, b, tl_1, r1, tn_1, (r k hkn).2.1, (r m hm).2.1, cm, ck, q1, j2]
        rw [if_pos (by omega)]; rfl
      · by_cases q2 : ce k = -9
        · simp (disch := omega) only [e_Mod_beside_0, e_Mod_beside_1, e_Mod_beside_2, e_Mod_beside_3, e_Mod_beside_5, e_Mod_beside_6, e_Mod_beside_9, e_Mod_beside_10, e_Mod_beside_11, e_Mod_beside_14, e_Mod_beside_15, e_Mod_beside_18, e_Mod_beside_19, e_Mod_beside_20, e_Mod_beside_21, e_Mod_beside_22, e_Mod_beside_23, e_Mod_beside_26, e_Mod_beside_27, e_Mod_beside_28, e_Mod_beside_29, e_Mod_beside_30, e_Mod_beside_31, e_Mod_beside_33, e_Mod_beside_34, e_Mod_beside_35, e_Mod_beside_36, e_Mod_beside_39, e_Mod_beside_39b, e_Mod_beside_42, e_Mod_beside_43, e_Mod_beside_44, e_Mod_beside_47, e_Mod_beside_47b, e_Mod_beside_50, e_Mod_beside_52, e_Mod_beside_53, e_Mod_beside_56, e_Mod_beside_58, e_Mod_beside_59, e_Mod_beside_62, e_Mod_beside_63, e_Mod_beside_64, e_Mod_beside_65, e_Mod_beside_68, e_Mod_beside_69, e_Mod_beside_70, e_Mod_beside_71, e_Mod_beside_74, e_Mod_beside_77, e_Mod_beside_78, alk_in, ask_in, blk_in, bsk_in, qlk_in, ack_in, rcv_in, rcA_in, bk_i, bk_l, bk_v, hS_same, hS_ne, hS_hS, hS_2, am_10, am_01, am_00, if_true, if_false, gf_12_0, pf_12_0, gf_12_1, pf_12_1, gf_12_2, pf_12_2, gf_12_3, pf_12_3, gf_12_4, pf_12_4, gf_12_5, pf_12_5, gf_12_6, pf_12_6, gf_12_7, pf_12_7, gf_12_8, pf_12_8, gf_12_9, pf_12_9, gf_12_10, pf_12_10, gf_12_11, pf_12_11, gf_12_12, pf_12_12, gf_12_13, pf_12_13, gf_12_14, pf_12_14, gf_12_15, pf_12_15, gf_12_16, pf_12_16, gf_12_17, pf_12_17, gf_12_18, pf_12_18, gf_12_19, pf_12_19, gf_12_20, pf_12_20, o, a, b, tl_1, r1, tn_1, (r k hkn).2.1, (r m hm).2.1, cm, ck, q1, q2, j2]
          rw [if_pos (by omega)]; rfl
        · simp (disch := omega) only [e_Mod_beside_0, e_Mod_beside_1, e_Mod_beside_2, e_Mod_beside_3, e_Mod_beside_5, e_Mod_beside_6, e_Mod_beside_9, e_Mod_beside_10, e_Mod_beside_11, e_Mod_beside_14, e_Mod_beside_15, e_Mod_beside_18, e_Mod_beside_19, e_Mod_beside_20, e_Mod_beside_21, e_Mod_beside_22, e_Mod_beside_23, e_Mod_beside_26, e_Mod_beside_27, e_Mod_beside_28, e_Mod_beside_29, e_Mod_beside_30, e_Mod_beside_31, e_Mod_beside_33, e_Mod_beside_34, e_Mod_beside_35, e_Mod_beside_36, e_Mod_beside_39, e_Mod_beside_39b, e_Mod_beside_42, e_Mod_beside_43, e_Mod_beside_44, e_Mod_beside_47, e_Mod_beside_47b, e_Mod_beside_50, e_Mod_beside_52, e_Mod_beside_53, e_Mod_beside_56, e_Mod_beside_58, e_Mod_beside_59, e_Mod_beside_62, e_Mod_beside_63, e_Mod_beside_64, e_Mod_beside_65, e_Mod_beside_68, e_Mod_beside_69, e_Mod_beside_70, e_Mod_beside_71, e_Mod_beside_74, e_Mod_beside_77, e_Mod_beside_78, alk_in, ask_in, blk_in, bsk_in, qlk_in, ack_in, rcv_in, rcA_in, bk_i, bk_l, bk_v, hS_same, hS_ne, hS_hS, hS_2, am_10, am_01, am_00, if_true, if_false, gf_12_0, pf_12_0, gf_12_1, pf_12_1, gf_12_2, pf_12_2, gf_12_3, pf_12_3, gf_12_4, pf_12_4, gf_12_5, pf_12_5, gf_12_6, pf_12_6, gf_12_7, pf_12_7, gf_12_8, pf_12_8, gf_12_9, pf_12_9, gf_12_10, pf_12_10, gf_12_11, pf_12_11, gf_12_12, pf_12_12, gf_12_13, pf_12_13, gf_12_14, pf_12_14, gf_12_15, pf_12_15, gf_12_16, pf_12_16, gf_12_17, pf_12_17, gf_12_18, pf_12_18, gf_12_19, pf_12_19, gf_12_20, pf_12_20, o, a, b, tl_1, r1, tn_1, (r k hkn).2.1, (r m hm).2.1, cm, ck, q1, q2, j2]
          rw [if_pos (by omega), if_neg (by omega), if_neg (by omega)]; rfl
theorem m_beside (S : RepM h n c lo t ce so ha ye) (hw : Wf n c ce so ha ye) {m : Nat} (hm : m < n) : ev mMod_beside [vR 120, vI (m : Int)] h = some (some (vI ((nbk ce m n : Nat) : Int)), h) := by
  rw [ev_Mod_beside, e_Mod_beside_0, e_Mod_beside_1, e_Mod_beside_2, e_Mod_beside_3]
  exact lm_beside S hw hm n 0 vU (by omega)
end Mod1
/-- what the first k neighbours put to his sound -/
def thk (ce so ha : Nat → Int) (m : Nat) (k : Nat) : Int := match k with
  | 0 => 0
  | k + 1 => thk ce so ha m k + if ¬ ce m = -9 ∧ ¬ ce k = -9 ∧ (ce k - ce m = 1 ∨ ce k - ce m = -1) then fig (ha k) (so m) else 0
theorem nbk_bit (ce : Nat → Int) (m : Nat) {q : Nat} : ∀ k, q < k → (nbk ce m k).testBit q = decide (¬ ce m = -9 ∧ ¬ ce q = -9 ∧ (ce q - ce m = 1 ∨ ce q - ce m = -1)) := by
  have hi : ∀ k, k ≤ q → (nbk ce m k).testBit q = false := by
    intro k
    induction k with
    | zero => intro _; simp [nbk]
    | succ k ih =>
      intro hk
      unfold nbk
      split
      · rw [Nat.testBit_or, ih (by omega), Nat.testBit_two_pow]; simp; omega
      · exact ih (by omega)
  intro k
  induction k with
  | zero => intro h; omega
  | succ k ih =>
    intro hk
    unfold nbk
    by_cases q1 : q = k
    · subst q1
      split
      · rename_i z
        rw [Nat.testBit_or, hi q (Nat.le_refl q), Nat.testBit_two_pow]; simp [z]
      · rename_i z
        rw [hi q (Nat.le_refl q)]; simp only [z, decide_false]
    · split
      · rw [Nat.testBit_or, ih (by omega), Nat.testBit_two_pow]; simp [Ne.symm q1]
      · exact ih (by omega)
theorem thk_b {n c : Nat} {ce so ha ye : Nat → Int} (hw : Wf n c ce so ha ye) (m : Nat) : ∀ k, k ≤ n → -3 * (k : Int) ≤ thk ce so ha m k ∧ thk ce so ha m k ≤ 4 * (k : Int) := by
  intro k
  induction k with
  | zero => intro _; simp [thk]
  | succ k ih =>
    intro hk
    have := ih (by omega)
    have hk2 := hw.2.2.2.1 k (by omega)
    have hf := fig_b (a := ha k) (s := so m) (by omega)
    unfold thk
    split <;> omega
theorem thk_ffr {n c : Nat} {ce so ha ye : Nat → Int} (hw : Wf n c ce so ha ye) {m : Nat} (hm : m < n) (hin : ¬ ce m = -9) : ∀ k, k ≤ n → thk ce so ha m k = ffr k ce ha (ce m - 1) (so m) + ffr k ce ha (ce m + 1) (so m) := by
  have hwm := (hw.2.2.2.1 m hm).1
  intro k
  induction k with
  | zero => intro _; simp [thk, ffr, who]
  | succ k ih =>
    intro hk
    have key : ∀ x : Int, ¬ x = -9 → ce k = x → ffr k ce ha x (so m) = 0 ∧ ffr (k + 1) ce ha x (so m) = fig (ha k) (so m) := by
      intro x hx e
      constructor
      · unfold ffr
        rw [if_pos]
        refine who_no fun j hj z => ?_
        have := hw.2.2.2.2 j k (by omega) (by omega) (by omega) (by omega)
        omega
      · unfold ffr who
        rw [if_pos e, if_neg (by omega), Int.toNat_natCast]
    have key2 : ∀ x : Int, ¬ ce k = x → ffr (k + 1) ce ha x (so m) = ffr k ce ha x (so m) := by
      intro x e
      have : who (k + 1) ce x = who k ce x := by
        show (if ce k = x then _ else _) = _
        rw [if_neg e]
      unfold ffr
      rw [this]
    have e0 : thk ce so ha m (k + 1) = thk ce so ha m k + if ¬ ce m = -9 ∧ ¬ ce k = -9 ∧ (ce k - ce m = 1 ∨ ce k - ce m = -1) then fig (ha k) (so m) else 0 := rfl
    rw [e0, ih (by omega)]
    by_cases q1 : ce k = ce m - 1
    · have k1 := key (ce m - 1) (by omega) q1
      rw [if_pos ⟨hin, by omega, by omega⟩, key2 (ce m + 1) (by omega), k1.1, k1.2]; omega
    · by_cases q2 : ce k = ce m + 1
      · have k1 := key (ce m + 1) (by omega) q2
        rw [if_pos ⟨hin, by omega, by omega⟩, key2 (ce m - 1) q1, k1.1, k1.2]; omega
      · rw [if_neg (by omega), key2 _ q1, key2 _ q2]; omega
/-- years behind the next month, 0 of one who is free -/
def thn (n : Nat) (ce so ha ye : Nat → Int) (m : Nat) : Int := if ce m = -9 then 0 else aft n ce so ha ye m
