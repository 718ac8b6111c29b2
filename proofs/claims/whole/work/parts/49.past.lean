/-! month, moves, feigns, undo: the class -/
def pushP (k : Nat) (p : Nat → Tm) (T : Tm) : Nat × (Nat → Tm) := if 10 ≤ k then (10, fun j => if j = 9 then T else p (j + 1)) else (k + 1, fun j => if j = k then T else p j)
def monT (G : Gl) (T : Tm) : Tm := (T.1 + 1, pce G.1 T.2.1 T.2.2.1 G.2.2.2 T.2.2.2, T.2.2.1, pye G.1 T.2.1 T.2.2.1 G.2.2.2 T.2.2.2)
def movT (T : Tm) (m : Nat) (x : Int) : Tm := (T.1, fun j => if j = m then x else T.2.1 j, T.2.2.1, T.2.2.2)
def feiT (T : Tm) (m : Nat) (x : Int) : Tm := (T.1, T.2.1, fun j => if j = m then x else T.2.2.1 j, T.2.2.2)
abbrev cMov (G : Gl) (T : Tm) (m x : Int) : Prop := ((0 ≤ m ∧ m < G.1) ∧ 0 ≤ x ∧ x < G.2.1) ∧ ¬ T.2.1 m.toNat = -9 ∧ who G.1 T.2.1 x = -9
abbrev cFei (G : Gl) (T : Tm) (m x : Int) : Prop := ((0 ≤ m ∧ m < G.1) ∧ 0 ≤ x ∧ x ≤ 4) ∧ ¬ T.2.1 m.toNat = -9 ∧ ¬ T.2.2.1 m.toNat = x
def aMon (G : Gl) (T : Tm) : Int := if 999 ≤ T.1 then -2 else pfr G.1 T.2.1 T.2.2.1 G.2.2.2 T.2.2.2 G.1
def aMov (G : Gl) (T : Tm) (m x : Int) : Int := if (0 ≤ m ∧ m < G.1) ∧ 0 ≤ x ∧ x < G.2.1 then (if cMov G T m x then T.2.1 m.toNat else -2) else -1
def aFei (G : Gl) (T : Tm) (m x : Int) : Int := if (0 ≤ m ∧ m < G.1) ∧ 0 ≤ x ∧ x ≤ 4 then (if cFei G T m x then T.2.2.1 m.toNat else -2) else -1
abbrev St : Type := Tm × Nat × (Nat → Tm)
def doP (Z : St) (T : Tm) : St := (T, pushP Z.2.1 Z.2.2 Z.1)
def nMon (G : Gl) (Z : St) : St := if 999 ≤ Z.1.1 then Z else doP Z (monT G Z.1)
def nMov (G : Gl) (Z : St) (m x : Int) : St := if cMov G Z.1 m x then doP Z (movT Z.1 m.toNat x) else Z
def nFei (G : Gl) (Z : St) (m x : Int) : St := if cFei G Z.1 m x then doP Z (feiT Z.1 m.toNat x) else Z
def aUnd (Z : St) : Int := if Z.2.1 = 0 then -2 else (Z.2.1 : Int) - 1
def nUnd (Z : St) : St := if Z.2.1 = 0 then Z else (Z.2.2 (Z.2.1 - 1), Z.2.1 - 1, Z.2.2)
/-- how the class holds now and the past -/
def CZ (h : am_H) (lo : Int) (G : Gl) (Z : St) : Prop := CeO h lo Z.2.1 ∧ RT h 10 G Z.1 ∧ CPa h G Z.2.1 Z.2.2
def pZ (x : Nat) : Prop := x = 1 ∨ x = 22 ∨ (10 ≤ x ∧ x < 16) ∨ (42 ≤ x ∧ x < 102)
section Past
variable {h : am_H} {G : Gl} {lo : Int}
theorem RT.ob {b : Nat} {T : Tm} (S : RT h b G T) : h.1 b = cO 5 [vI (G.2.1 : Int), vI (G.1 : Int), vI T.1, vR (b + 1), vR (b + 2), vR (b + 3), vR (b + 4), vR (b + 5)] := by
  obtain ⟨ce', so', ha', ye', ic, ⟨s0, -⟩, -⟩ := S
  exact s0
theorem ScSh.ob {b : Nat} (S : ScSh h b) : ∃ fs, h.1 b = cO 5 fs := by
  obtain ⟨_, _, _, _, _, _, _, _, ⟨s0, -⟩⟩ := S
  exact ⟨_, s0⟩
theorem lk_shift {P : Nat → Option Nat} {σ : Nat → Nat} {o : Nat} {pc : Int} : ∀ (d k : Nat) (h : am_H) (A : Nat → Option Nat), k + d = 9 → CeO h lo pc → h.1 22 = cQ 2 10 A → (∀ i, i < 10 → P i = some (42 + 6 * σ i) ∧ ∃ fs, h.1 (42 + 6 * σ i) = cO 5 fs) → (∀ j, j < 10 → A j = if j < k then P (j + 1) else P j) → ∃ h' A', gv mCell_remember 18 [vR 1, vR o, vI ((k : Int) + 1)] [] h = gv mCell_remember 44 [vR 1, vR o, vI 10] [] h' ∧ h'.1 22 = cQ 2 10 A' ∧ (∀ j, j < 10 → A' j = if j < 9 then P (j + 1) else P j) ∧ FP (fun x => x = 22) h h' := by
  intro d
  induction d with
  | zero =>
    intro k h A hk O a b c
    have : k = 9 := by omega
    subst this
    refine ⟨h, A, ?_, a, c, FP.rf⟩
    rw [e_Cell_remember_18]
    simp (disch := omega) only [e_Cell_remember_0, e_Cell_remember_1, e_Cell_remember_4, e_Cell_remember_6, e_Cell_remember_9, e_Cell_remember_10, e_Cell_remember_13, e_Cell_remember_14, e_Cell_remember_15, e_Cell_remember_16, e_Cell_remember_17, e_Cell_remember_19, e_Cell_remember_21, e_Cell_remember_24, e_Cell_remember_25, e_Cell_remember_28, e_Cell_remember_29, e_Cell_remember_30, e_Cell_remember_31, e_Cell_remember_32, e_Cell_remember_35, e_Cell_remember_36, e_Cell_remember_37, e_Cell_remember_38, e_Cell_remember_41, e_Cell_remember_45, e_Cell_remember_48, e_Cell_remember_50, e_Cell_remember_51, e_Cell_remember_52, e_Cell_remember_53, e_Cell_remember_55, e_Cell_remember_58, e_Cell_remember_59, e_Cell_remember_62, e_Cell_remember_63, e_Cell_remember_66, e_Cell_remember_67, e_Cell_remember_68, e_Cell_remember_71, e_Cell_remember_74, e_Cell_remember_75, e_Cell_remember_76, e_Cell_remember_79, e_Cell_remember_80, e_Cell_remember_81, e_Cell_remember_84]
    rw [if_neg (by omega)]
    rfl
  | succ d ih =>
    intro k h A hk O a b c
    have ck := c (k + 1) (by omega)
    rw [if_neg (by omega)] at ck
    have bk := b (k + 1) (by omega)
    obtain ⟨fs, bk2⟩ := bk.2
    have fe : FP (fun x => x = 22) h (hS h 22 (cQ 2 10 (fun j => if j = k then some (42 + 6 * σ (k + 1)) else A j))) := FP.st rfl
    obtain ⟨h', A', e1, e2, e3, f1⟩ := ih (k + 1) _ _ (by omega) (fe.at O (by omega)) hS_same (fun i hi => ⟨(b i hi).1, by obtain ⟨fs, g⟩ := (b i hi).2; exact ⟨fs, fe.at g (by omega)⟩⟩) (fun j hj => by
      by_cases q : j = k
      · rw [if_pos q, if_pos (by omega), q, bk.1]
      · rw [if_neg q, c j hj]
        by_cases w : j < k
        · rw [if_pos w, if_pos (by omega)]
        · rw [if_neg w, if_neg (by omega)])
    refine ⟨h', A', ?_, e2, e3, fe.tr f1⟩
    unfold CeO at O
    have t1 : ((k : Int) + 1).toNat = k + 1 := by omega
    have t2 : ((k : Int) + 1 - 1).toNat = k := by omega
    rw [e_Cell_remember_18, ← e1]
    simp (disch := omega) only [e_Cell_remember_0, e_Cell_remember_1, e_Cell_remember_4, e_Cell_remember_6, e_Cell_remember_9, e_Cell_remember_10, e_Cell_remember_13, e_Cell_remember_14, e_Cell_remember_15, e_Cell_remember_16, e_Cell_remember_17, e_Cell_remember_19, e_Cell_remember_21, e_Cell_remember_24, e_Cell_remember_25, e_Cell_remember_28, e_Cell_remember_29, e_Cell_remember_30, e_Cell_remember_31, e_Cell_remember_32, e_Cell_remember_35, e_Cell_remember_36, e_Cell_remember_37, e_Cell_remember_38, e_Cell_remember_41, e_Cell_remember_45, e_Cell_remember_48, e_Cell_remember_50, e_Cell_remember_51, e_Cell_remember_52, e_Cell_remember_53, e_Cell_remember_55, e_Cell_remember_58, e_Cell_remember_59, e_Cell_remember_62, e_Cell_remember_63, e_Cell_remember_66, e_Cell_remember_67, e_Cell_remember_68, e_Cell_remember_71, e_Cell_remember_74, e_Cell_remember_75, e_Cell_remember_76, e_Cell_remember_79, e_Cell_remember_80, e_Cell_remember_81, e_Cell_remember_84, alk_in, ask_in, blk_in, bsk_in, qlk_in, ack_in, rcv_in, rcA_in, bk_i, bk_l, bk_v, hS_same, hS_ne, hS_hS, hS_2, am_10, am_01, am_00, if_true, if_false, gf_11_0, pf_11_0, gf_11_1, pf_11_1, gf_11_2, pf_11_2, gf_11_3, pf_11_3, gf_11_4, pf_11_4, gf_11_5, pf_11_5, gf_11_6, pf_11_6, gf_11_7, pf_11_7, gf_11_8, pf_11_8, gf_11_9, pf_11_9, gf_11_10, pf_11_10, gf_11_11, pf_11_11, O, a, t1, t2, ck, bk.1, bk2, qsk_5]
    rw [if_pos (by omega)]; rfl
theorem lk_put {Z : St} (C : CZ h lo G Z) (hw : WT G Z.1) (hk : Z.2.1 < 10) {l1 l2 : am_V} : ∃ h', gv mCell_remember 58 [vR 1, l1, l2] [] h = some (none, h') ∧ CZ h' lo G (Z.1, Z.2.1 + 1, fun j => if j = Z.2.1 then Z.1 else Z.2.2 j) ∧ FP pZ h h' := by
  obtain ⟨T, k, p⟩ := Z
  obtain ⟨O, S, P, σ, a, b, c, d⟩ := C
  simp only at O S a b c d hw hk ⊢
  have z := b k hk
  obtain ⟨h1, e1, S1, f1⟩ := d_copyFrom (b := 42 + 6 * σ k) (show RepS h 10 G.1 G.2.1 T.1 T.2.1 T.2.2.1 G.2.2.2 T.2.2.2 from S) hw.1 hw.2.2.1 z.2.2 (by omega)
  obtain ⟨fs, ob⟩ := z.2.2.ob
  unfold CeO at O
  have z1 := z.2.1
  have o1 := (f1.at (a := 1) (by omega)).trans O
  have g : ∀ x, ¬ x = 1 → (hS h1 1 (cO 11 [vR 2, vI lo, vR 10, vR 16, vR 22, vI ((k : Int) + 1), vR 23, vR 24, vR 25, vR 28, vR 40, vR 41])).1 x = h1.1 x := fun x hx => hS_ne hx
  refine ⟨hS h1 1 (cO 11 [vR 2, vI lo, vR 10, vR 16, vR 22, vI ((k : Int) + 1), vR 23, vR 24, vR 25, vR 28, vR 40, vR 41]), ?_, ⟨by unfold CeO; rw [hS_same]; rfl, ?_, P, σ, ?_, ?_, c, ?_⟩, ?_⟩
  · simp (disch := omega) only [e_Cell_remember_58, e_Cell_remember_59, e_Cell_remember_62, e_Cell_remember_63, e_Cell_remember_66, e_Cell_remember_67, e_Cell_remember_68, e_Cell_remember_71, e_Cell_remember_74, e_Cell_remember_75, e_Cell_remember_76, e_Cell_remember_79, e_Cell_remember_80, e_Cell_remember_81, e_Cell_remember_84, alk_in, ask_in, blk_in, bsk_in, qlk_in, ack_in, rcv_in, rcA_in, bk_i, bk_l, bk_v, hS_same, hS_ne, hS_hS, hS_2, am_10, am_01, am_00, if_true, if_false, gf_11_0, pf_11_0, gf_11_1, pf_11_1, gf_11_2, pf_11_2, gf_11_3, pf_11_3, gf_11_4, pf_11_4, gf_11_5, pf_11_5, gf_11_6, pf_11_6, gf_11_7, pf_11_7, gf_11_8, pf_11_8, gf_11_9, pf_11_9, gf_11_10, pf_11_10, gf_11_11, pf_11_11, O, a, z.1, ob, e1, o1, Int.toNat_natCast]
  · exact (S.on (fun x hx => f1.at (by omega))).on (fun x hx => g x (by omega))
  · rw [g 22 (by decide)]; exact (f1.at (by omega)).trans a
  · intro i hi
    have y := b i hi
    refine ⟨y.1, y.2.1, ?_⟩
    have y1 := y.2.1
    by_cases w : i = k
    · rw [w]; rw [w] at y1; exact (RepS.sh S1).on (fun x hx => g x (by omega))
    · have w2 : ¬ σ i = σ k := fun q => w (c i k hi hk q)
      exact (y.2.2.on (fun x hx => f1.at (by omega))).on (fun x hx => g x (by omega))
  · intro i hi
    simp only at hi ⊢
    have y := b i (by omega)
    have y1 := y.2.1
    by_cases w : i = k
    · rw [if_pos w, w]; rw [w] at y1; exact RT.on (show RT h1 (42 + 6 * σ k) G T from S1) (fun x hx => g x (by omega))
    · rw [if_neg w]
      have w2 : ¬ σ i = σ k := fun q => w (c i k (by omega) hk q)
      exact ((d i (by omega)).on (fun x hx => f1.at (by omega))).on (fun x hx => g x (by omega))
  · exact (f1.fp (fun x hx => by unfold pZ; omega)).tr (FP.st (by unfold pZ; omega))
theorem k_remember {Z : St} (C : CZ h lo G Z) (hw : WT G Z.1) (hk : Z.2.1 ≤ 10) : ∃ h', ev mCell_remember [vR 1] h = some (none, h') ∧ CZ h' lo G (doP Z Z.1) ∧ FP pZ h h' := by
  obtain ⟨T, k, p⟩ := Z
  simp only at hw hk
  unfold doP pushP
  simp only
  by_cases q : k < 10
  · rw [if_neg (by omega)]
    obtain ⟨h', e1, C1, f1⟩ := lk_put C hw q (l1 := vU) (l2 := vU)
    refine ⟨h', ?_, C1, f1⟩
    obtain ⟨O, -⟩ := C
    unfold CeO at O
    simp only at O
    rw [ev_Cell_remember, ← e1]
    simp (disch := omega) only [e_Cell_remember_0, e_Cell_remember_1, e_Cell_remember_4, e_Cell_remember_6, e_Cell_remember_9, e_Cell_remember_10, e_Cell_remember_13, e_Cell_remember_14, e_Cell_remember_15, e_Cell_remember_16, e_Cell_remember_17, e_Cell_remember_19, e_Cell_remember_21, e_Cell_remember_24, e_Cell_remember_25, e_Cell_remember_28, e_Cell_remember_29, e_Cell_remember_30, e_Cell_remember_31, e_Cell_remember_32, e_Cell_remember_35, e_Cell_remember_36, e_Cell_remember_37, e_Cell_remember_38, e_Cell_remember_41, e_Cell_remember_45, e_Cell_remember_48, e_Cell_remember_50, e_Cell_remember_51, e_Cell_remember_52, e_Cell_remember_53, e_Cell_remember_55, e_Cell_remember_59, e_Cell_remember_62, e_Cell_remember_63, e_Cell_remember_66, e_Cell_remember_67, e_Cell_remember_68, e_Cell_remember_71, e_Cell_remember_74, e_Cell_remember_75, e_Cell_remember_76, e_Cell_remember_79, e_Cell_remember_80, e_Cell_remember_81, e_Cell_remember_84, alk_in, ask_in, blk_in, bsk_in, qlk_in, ack_in, rcv_in, rcA_in, bk_i, bk_l, bk_v, hS_same, hS_ne, hS_hS, hS_2, am_10, am_01, am_00, if_true, if_false, gf_11_0, pf_11_0, gf_11_1, pf_11_1, gf_11_2, pf_11_2, gf_11_3, pf_11_3, gf_11_4, pf_11_4, gf_11_5, pf_11_5, gf_11_6, pf_11_6, gf_11_7, pf_11_7, gf_11_8, pf_11_8, gf_11_9, pf_11_9, gf_11_10, pf_11_10, gf_11_11, pf_11_11, O]
    rw [if_pos (by omega)]
  · have : k = 10 := by omega
    subst this
    rw [if_pos (by omega)]
    obtain ⟨O, S, P, σ, a, b, c, d⟩ := C
    simp only at O S a b c d
    have b0 := b 0 (by omega)
    obtain ⟨fs0, ob0⟩ := b0.2.2.ob
    obtain ⟨h1, A, e1, a1, a2, f1⟩ := lk_shift (o := 42 + 6 * σ 0) 9 0 h P (by omega) O a (fun i hi => ⟨(b i hi).1, (b i hi).2.2.ob⟩) (fun j hj => by rw [if_neg (by omega)])
    have h22 : ∀ x, ¬ x = 22 → h1.1 x = h.1 x := fun x hx => f1.2 x hx
    have O1 := (h22 1 (by decide)).trans O
    have ob1 := (h22 (42 + 6 * σ 0) (by omega)).trans ob0
    unfold CeO at O
    let h2 := hS (hS h1 22 (cQ 2 10 (fun j => if j = 9 then some (42 + 6 * σ 0) else A j))) 1 (cO 11 [vR 2, vI lo, vR 10, vR 16, vR 22, vI 9, vR 23, vR 24, vR 25, vR 28, vR 40, vR 41])
    have g2 : ∀ x, ¬ x = 22 → ¬ x = 1 → h2.1 x = h.1 x := fun x hx hy => ((hS_ne hy).trans (hS_ne hx)).trans (h22 x hx)
    have C2 : CZ h2 lo G (T, 9, fun j => p (j + 1)) := by
      refine ⟨hS_same, S.on (fun x hx => g2 x (by omega) (by omega)), (fun j => if j = 9 then some (42 + 6 * σ 0) else A j), (fun j => if j = 9 then σ 0 else σ (j + 1)), (hS_ne (by decide)).trans hS_same, ?_, ?_, ?_⟩
      · intro i hi
        simp only
        by_cases w : i = 9
        · rw [if_pos w, if_pos w]
          exact ⟨rfl, b0.2.1, b0.2.2.on (fun x hx => g2 x (by omega) (by omega))⟩
        · have y := b (i + 1) (by omega)
          rw [if_neg w, if_neg w, a2 i hi, if_pos (by omega)]
          exact ⟨y.1, y.2.1, y.2.2.on (fun x hx => g2 x (by omega) (by omega))⟩
      · intro i j hi hj e
        simp only at e
        by_cases w : i = 9
        · by_cases v : j = 9
          · omega
          · rw [if_pos w, if_neg v] at e
            have := c 0 (j + 1) (by omega) (by omega) e
            omega
        · by_cases v : j = 9
          · rw [if_neg w, if_pos v] at e
            have := c (i + 1) 0 (by omega) (by omega) e
            omega
          · rw [if_neg w, if_neg v] at e
            have := c (i + 1) (j + 1) (by omega) (by omega) e
            omega
      · intro i hi
        simp only at hi ⊢
        rw [if_neg (by omega)]
        have y := b (i + 1) (by omega)
        exact (d (i + 1) (by omega)).on (fun x hx => g2 x (by omega) (by omega))
    obtain ⟨h', e3, C3, f3⟩ := lk_put C2 hw (by show 9 < 10; omega) (l1 := vR (42 + 6 * σ 0)) (l2 := vI 10)
    refine ⟨h', ?_, ?_, ?_⟩
    · rw [ev_Cell_remember, ← e3]
      unfold CeO at O1
      have e1' := e1
      simp only [show ((0 : Nat) : Int) + 1 = 1 from rfl] at e1'
      simp (disch := omega) only [e_Cell_remember_0, e_Cell_remember_1, e_Cell_remember_4, e_Cell_remember_6, e_Cell_remember_9, e_Cell_remember_10, e_Cell_remember_13, e_Cell_remember_14, e_Cell_remember_15, e_Cell_remember_16, e_Cell_remember_17, e_Cell_remember_19, e_Cell_remember_21, e_Cell_remember_24, e_Cell_remember_25, e_Cell_remember_28, e_Cell_remember_29, e_Cell_remember_30, e_Cell_remember_31, e_Cell_remember_32, e_Cell_remember_35, e_Cell_remember_36, e_Cell_remember_37, e_Cell_remember_38, e_Cell_remember_41, e_Cell_remember_45, e_Cell_remember_48, e_Cell_remember_50, e_Cell_remember_51, e_Cell_remember_52, e_Cell_remember_53, e_Cell_remember_55, e_Cell_remember_59, e_Cell_remember_62, e_Cell_remember_63, e_Cell_remember_66, e_Cell_remember_67, e_Cell_remember_68, e_Cell_remember_71, e_Cell_remember_74, e_Cell_remember_75, e_Cell_remember_76, e_Cell_remember_79, e_Cell_remember_80, e_Cell_remember_81, e_Cell_remember_84, alk_in, ask_in, blk_in, bsk_in, qlk_in, ack_in, rcv_in, rcA_in, bk_i, bk_l, bk_v, hS_same, hS_ne, hS_hS, hS_2, am_10, am_01, am_00, if_true, if_false, gf_11_0, pf_11_0, gf_11_1, pf_11_1, gf_11_2, pf_11_2, gf_11_3, pf_11_3, gf_11_4, pf_11_4, gf_11_5, pf_11_5, gf_11_6, pf_11_6, gf_11_7, pf_11_7, gf_11_8, pf_11_8, gf_11_9, pf_11_9, gf_11_10, pf_11_10, gf_11_11, pf_11_11, O, a, tl_0, b0.1]
      rw [if_neg (by omega), e1']
      simp (disch := omega) only [e_Cell_remember_0, e_Cell_remember_1, e_Cell_remember_4, e_Cell_remember_6, e_Cell_remember_9, e_Cell_remember_10, e_Cell_remember_13, e_Cell_remember_14, e_Cell_remember_15, e_Cell_remember_16, e_Cell_remember_17, e_Cell_remember_19, e_Cell_remember_21, e_Cell_remember_24, e_Cell_remember_25, e_Cell_remember_28, e_Cell_remember_29, e_Cell_remember_30, e_Cell_remember_31, e_Cell_remember_32, e_Cell_remember_35, e_Cell_remember_36, e_Cell_remember_37, e_Cell_remember_38, e_Cell_remember_41, e_Cell_remember_44, e_Cell_remember_45, e_Cell_remember_48, e_Cell_remember_50, e_Cell_remember_51, e_Cell_remember_52, e_Cell_remember_53, e_Cell_remember_55, e_Cell_remember_59, e_Cell_remember_62, e_Cell_remember_63, e_Cell_remember_66, e_Cell_remember_67, e_Cell_remember_68, e_Cell_remember_71, e_Cell_remember_74, e_Cell_remember_75, e_Cell_remember_76, e_Cell_remember_79, e_Cell_remember_80, e_Cell_remember_81, e_Cell_remember_84, alk_in, ask_in, blk_in, bsk_in, qlk_in, ack_in, rcv_in, rcA_in, bk_i, bk_l, bk_v, hS_same, hS_ne, hS_hS, hS_2, am_10, am_01, am_00, if_true, if_false, gf_11_0, pf_11_0, gf_11_1, pf_11_1, gf_11_2, pf_11_2, gf_11_3, pf_11_3, gf_11_4, pf_11_4, gf_11_5, pf_11_5, gf_11_6, pf_11_6, gf_11_7, pf_11_7, gf_11_8, pf_11_8, gf_11_9, pf_11_9, gf_11_10, pf_11_10, gf_11_11, pf_11_11, O1, a1, ob1, qsk_5]
      rfl
    · obtain ⟨O4, S4, P4⟩ := C3
      refine ⟨O4, S4, ?_⟩
      exact P4
    · refine FP.tr (f1.wd (fun x hx => Or.inr (Or.inl hx))) (FP.tr (FP.tr (FP.st (Or.inr (Or.inl rfl))) (FP.st (Or.inl rfl))) f3)
theorem k_undo {Z : St} (C : CZ h lo G Z) (hw : WT G Z.1) (hk : Z.2.1 ≤ 10) : ∃ h', ev mCell_undo [vR 1] h = some (some (vI (aUnd Z)), h') ∧ CZ h' lo G (nUnd Z) ∧ FP pZ h h' := by
  have C0 := C
  obtain ⟨T, k, p⟩ := Z
  obtain ⟨O, S, P, σ, a, b, c, d⟩ := C
  simp only at O S a b c d hw hk
  unfold aUnd nUnd
  simp only
  by_cases q : k = 0
  · rw [if_pos q, if_pos q]
    refine ⟨h, ?_, C0, FP.rf⟩
    unfold CeO at O
    rw [ev_Cell_undo]
    simp (disch := omega) only [e_Cell_undo_0, e_Cell_undo_1, e_Cell_undo_4, e_Cell_undo_7, e_Cell_undo_9, e_Cell_undo_10, e_Cell_undo_11, e_Cell_undo_12, e_Cell_undo_15, e_Cell_undo_16, e_Cell_undo_17, e_Cell_undo_20, e_Cell_undo_21, e_Cell_undo_24, e_Cell_undo_25, e_Cell_undo_28, e_Cell_undo_29, e_Cell_undo_32, e_Cell_undo_33, e_Cell_undo_36, e_Cell_undo_37, e_Cell_undo_40, alk_in, ask_in, blk_in, bsk_in, qlk_in, ack_in, rcv_in, rcA_in, bk_i, bk_l, bk_v, hS_same, hS_ne, hS_hS, hS_2, am_10, am_01, am_00, if_true, if_false, gf_11_0, pf_11_0, gf_11_1, pf_11_1, gf_11_2, pf_11_2, gf_11_3, pf_11_3, gf_11_4, pf_11_4, gf_11_5, pf_11_5, gf_11_6, pf_11_6, gf_11_7, pf_11_7, gf_11_8, pf_11_8, gf_11_9, pf_11_9, gf_11_10, pf_11_10, gf_11_11, pf_11_11, O]
    rw [if_neg (by omega)]
  · rw [if_neg q, if_neg q]
    obtain ⟨k, rfl⟩ : ∃ j, k = j + 1 := ⟨k - 1, by omega⟩
    simp only [Nat.add_sub_cancel]
    unfold CeO at O
    let h1 := hS h 1 (cO 11 [vR 2, vI lo, vR 10, vR 16, vR 22, vI (k : Int), vR 23, vR 24, vR 25, vR 28, vR 40, vR 41])
    have g1 : ∀ x, ¬ x = 1 → h1.1 x = h.1 x := fun x hx => hS_ne hx
    have z := b k (by omega)
    have z1 := z.2.1
    have Sk := (d k (by omega)).on (h' := h1) (fun x hx => g1 x (by omega))
    have S1 := S.on (h' := h1) (fun x hx => g1 x (by omega))
    obtain ⟨h2, e2, S2, f2⟩ := d_copyFrom (b := 10) (show RepS h1 (42 + 6 * σ k) G.1 G.2.1 (p k).1 (p k).2.1 (p k).2.2.1 G.2.2.2 (p k).2.2.2 from Sk) hw.1 hw.2.2.1 S1.sh (by omega)
    have o1 : h1.1 1 = cO 11 [vR 2, vI lo, vR 10, vR 16, vR 22, vI (k : Int), vR 23, vR 24, vR 25, vR 28, vR 40, vR 41] := hS_same
    have o2 := (f2.at (a := 1) (by omega)).trans o1
    have a1 := (g1 22 (by decide)).trans a
    have ob := S1.ob
    refine ⟨h2, ?_, ⟨o2, S2, P, σ, (f2.at (by omega)).trans a1, ?_, c, ?_⟩, ?_⟩
    · have t : ((k + 1 : Nat) : Int) - 1 = (k : Int) := by omega
      rw [ev_Cell_undo]
      simp (disch := omega) only [e_Cell_undo_0, e_Cell_undo_1, e_Cell_undo_4, e_Cell_undo_7, e_Cell_undo_9, e_Cell_undo_10, e_Cell_undo_11, e_Cell_undo_12, e_Cell_undo_15, e_Cell_undo_16, e_Cell_undo_17, e_Cell_undo_20, e_Cell_undo_21, e_Cell_undo_24, e_Cell_undo_25, e_Cell_undo_28, e_Cell_undo_29, e_Cell_undo_32, e_Cell_undo_33, e_Cell_undo_36, e_Cell_undo_37, e_Cell_undo_40, alk_in, ask_in, blk_in, bsk_in, qlk_in, ack_in, rcv_in, rcA_in, bk_i, bk_l, bk_v, hS_same, hS_ne, hS_hS, hS_2, am_10, am_01, am_00, if_true, if_false, gf_11_0, pf_11_0, gf_11_1, pf_11_1, gf_11_2, pf_11_2, gf_11_3, pf_11_3, gf_11_4, pf_11_4, gf_11_5, pf_11_5, gf_11_6, pf_11_6, gf_11_7, pf_11_7, gf_11_8, pf_11_8, gf_11_9, pf_11_9, gf_11_10, pf_11_10, gf_11_11, pf_11_11, O, t]
      rw [if_pos (by omega)]
      show _ = _
      have e0 : hS h 1 (cO 11 [vR 2, vI lo, vR 10, vR 16, vR 22, vI (k : Int), vR 23, vR 24, vR 25, vR 28, vR 40, vR 41]) = h1 := rfl
      simp (disch := omega) only [e_Cell_undo_0, e_Cell_undo_1, e_Cell_undo_4, e_Cell_undo_7, e_Cell_undo_9, e_Cell_undo_10, e_Cell_undo_11, e_Cell_undo_12, e_Cell_undo_15, e_Cell_undo_16, e_Cell_undo_17, e_Cell_undo_20, e_Cell_undo_21, e_Cell_undo_24, e_Cell_undo_25, e_Cell_undo_28, e_Cell_undo_29, e_Cell_undo_32, e_Cell_undo_33, e_Cell_undo_36, e_Cell_undo_37, e_Cell_undo_40, alk_in, ask_in, blk_in, bsk_in, qlk_in, ack_in, rcv_in, rcA_in, bk_i, bk_l, bk_v, hS_same, hS_ne, hS_hS, hS_2, am_10, am_01, am_00, if_true, if_false, gf_11_0, pf_11_0, gf_11_1, pf_11_1, gf_11_2, pf_11_2, gf_11_3, pf_11_3, gf_11_4, pf_11_4, gf_11_5, pf_11_5, gf_11_6, pf_11_6, gf_11_7, pf_11_7, gf_11_8, pf_11_8, gf_11_9, pf_11_9, gf_11_10, pf_11_10, gf_11_11, pf_11_11, e0, o1, a, a1, z.1, ob, e2, o2, Int.toNat_natCast]
    · intro i hi
      have y := b i hi
      have y1 := y.2.1
      exact ⟨y.1, y.2.1, (y.2.2.on (h' := h1) (fun x hx => g1 x (by omega))).on (fun x hx => f2.at (by omega))⟩
    · intro i hi
      simp only at hi ⊢
      have y := b i (by omega)
      have y1 := y.2.1
      exact ((d i (by omega)).on (h' := h1) (fun x hx => g1 x (by omega))).on (fun x hx => f2.at (by omega))
    · exact (FP.st (Or.inl rfl)).tr (f2.fp (fun x hx => by unfold pZ; omega))
end Past
