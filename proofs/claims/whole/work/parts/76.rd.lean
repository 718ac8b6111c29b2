/-! the text: what is read -/
abbrev Dr : Type := Gl × Tm × Nat × Nat
abbrev fit (tC tN : Nat → Int) (p : Nat) (a b : Int) : Prop := tC p = 1 ∧ a ≤ tN p ∧ tN p ≤ b
def addM (G : Gl) (T : Tm) (x s a y : Int) : Gl × Tm := ((G.1 + 1, G.2.1, G.2.2.1, fun j => if j = G.1 then a else G.2.2.2 j), (T.1, fun j => if j = G.1 then x else T.2.1 j, fun j => if j = G.1 then s else T.2.2.1 j, fun j => if j = G.1 then y else T.2.2.2 j))
def rdN (tE tS : Nat → Nat) (tC tN : Nat → Int) (G : Gl) (T : Tm) (p : Nat) : Nat ⊕ ((Gl × Tm) × Nat) :=
  if fit tC tN p 0 ((G.2.1 : Int) - 1) ∧ who G.1 T.2.1 (tN p) = -9 then
    (if fit tC tN (tE p) 0 4 then
      (if fit tC tN (tE (tE p)) 0 3 then
        (if fit tC tN (tE (tE (tE p))) 1 60 then .inr (addM G T (tN p) (tN (tE p)) (tN (tE (tE p))) (tN (tE (tE (tE p)))), tE (tE (tE (tE p))))
        else .inl (tS (tE (tE (tE p)))))
      else .inl (tS (tE (tE p))))
    else .inl (tS (tE p)))
  else .inl (tS p)
def rdB (tE tS : Nat → Nat) (tC tN : Nat → Int) (D : Dr) (p : Nat) : Nat ⊕ (Dr × Nat) :=
  if tC p = 110 ∧ D.2.2.2 = 0 then
    (if fit tC tN (tE p) 2 9 then .inr (((D.1.1, (tN (tE p)).toNat, D.1.2.2.1, D.1.2.2.2), D.2.1, D.2.2.1, D.2.2.2), tE (tE p)) else .inl (tS (tE p)))
  else if tC p = 109 ∧ D.1.1 < 6 then
    (match rdN tE tS tC tN D.1 D.2.1 (tE p) with
    | .inl q => .inl q
    | .inr r => .inr ((r.1.1, r.1.2, D.2.2.1, D.2.2.2), r.2))
  else if tC p = 108 ∧ D.2.2.1 = 0 then
    (if fit tC tN (tE p) 1 3 then .inr (((D.1.1, D.1.2.1, tN (tE p), D.1.2.2.2), D.2.1, 1, D.2.2.2), tE (tE p)) else .inl (tS (tE p)))
  else .inl (tS p)
def rdI (tE tS : Nat → Nat) (tC tN : Nat → Int) (D : Dr) (p : Nat) : Nat ⊕ (Dr × Nat) := match rdB tE tS tC tN D p with
  | .inl q => .inl q
  | .inr r => if tC r.2 = 59 then .inr ((r.1.1, r.1.2.1, r.1.2.2.1, r.1.2.2.2 + 1), tE r.2) else .inl (tS r.2)
def rdA (tE tS : Nat → Nat) (tC tN : Nat → Int) (d : Nat) (D : Dr) (p : Nat) : Nat ⊕ Dr := match d with
  | 0 => .inl 0
  | d + 1 => if tC p = 0 then .inr D else match rdI tE tS tC tN D p with
    | .inl q => .inl q
    | .inr r => rdA tE tS tC tN d r.1 r.2
/-- what a draft is -/
def DrO (D : Dr) : Prop := WT D.1 D.2.1 ∧ D.2.1.1 = 0 ∧ (D.2.2.1 = 0 ∨ D.2.2.1 = 1) ∧ (1 ≤ D.1.2.2.1 ∧ D.1.2.2.1 ≤ 3) ∧ (D.2.2.2 = 0 → D.1.1 = 0)
def TkO (L : Nat) (tE tS : Nat → Nat) (tC tN : Nat → Int) : Prop := ∀ p, p ≤ L → (p ≤ tS p ∧ tS p ≤ L) ∧ (p ≤ tE p ∧ tE p ≤ L) ∧ (¬ tC p = 0 → p < tE p) ∧ (tC p = 0 ∨ tC p = 1 ∨ tC p = 2 ∨ tC p = 59 ∨ tC p = 108 ∨ tC p = 109 ∨ tC p = 110) ∧ (tC p = 1 → 0 ≤ tN p ∧ tN p ≤ 99)
/-- the class's advance does it -/
def TkA (L : Nat) (g : Nat → Int) (tE tS : Nat → Nat) (tC tN : Nat → Int) : Prop := ∀ (h : am_H) (p : Nat) (x3 x4 x5 x7 x8 x9 x10 : am_V), p ≤ L → h.1 2 = cO 8 [vI (L : Int), vR 3, vR 4, x3, x4, x5, vI (p : Int), x7, x8, x9, x10] → h.1 3 = cI 0 120 g → ∃ h', ev mText_advance [vR 2] h = some (none, h') ∧ h'.1 2 = cO 8 [vI (L : Int), vR 3, vR 4, x3, x4, x5, vI (tE p : Int), x7, vI (tC p), vI (tS p : Int), vI (tN p)] ∧ Fr 2 3 h h'
def TxG (L : Nat) (g : Nat → Int) (tE tS : Nat → Nat) (tC tN : Nat → Int) : Prop := L ≤ 120 ∧ TkO L tE tS tC tN ∧ TkA L g tE tS tC tN
theorem tk_ok {L : Nat} {f : Nat → Int} (hf : ∀ j, j < L → 0 ≤ f j ∧ f j ≤ 255) : TkO L (tkE L f) (tkS L f) (tkC L f) (tkN L f) := fun p hp => ⟨tkS_b f hp, tkE_b f hp, tkE_up hp, tkC_r L f p, fun hc => tkN_b hp hc hf⟩
theorem tk_adv {L : Nat} {f g : Nat → Int} (hL : L ≤ 120) (hg : EqB L g f) (hf : ∀ j, j < L → 0 ≤ f j ∧ f j ≤ 255) : TkA L g (tkE L f) (tkS L f) (tkC L f) (tkN L f) := fun _ _ _ _ _ _ _ _ _ hp O G => k_advance hL hg hf hp O G
def TxO (h : am_H) (L : Nat) (tE tS : Nat → Nat) (tC tN : Nat → Int) (p : Nat) (x3 x4 x5 x7 : am_V) : Prop := h.1 2 = cO 8 [vI (L : Int), vR 3, vR 4, x3, x4, x5, vI (tE p : Int), x7, vI (tC p), vI (tS p : Int), vI (tN p)]
section Rd
variable {h : am_H} {L p : Nat} {g : Nat → Int} {tE tS : Nat → Nat} {tC tN : Nat → Int} {x3 x4 x7 : am_V}
theorem k_refuse0 (O : TxO h L tE tS tC tN p x3 x4 (vI (-1)) x7) : ∃ h', ev mText_refuse [vR 2] h = some (none, h') ∧ TxO h' L tE tS tC tN p x3 x4 (vI (tS p : Int)) x7 ∧ Fr 2 3 h h' := by
  unfold TxO at O ⊢
  refine ⟨_, by
    rw [ev_Text_refuse]
    simp (disch := omega) only [e_Text_refuse_0, e_Text_refuse_1, e_Text_refuse_4, e_Text_refuse_5, e_Text_refuse_8, e_Text_refuse_9, e_Text_refuse_10, e_Text_refuse_13, e_Text_refuse_16, alk_in, ask_in, blk_in, bsk_in, qlk_in, ack_in, rcv_in, rcA_in, bk_i, bk_l, bk_v, hS_same, hS_ne, hS_hS, hS_2, am_10, am_01, am_00, if_true, if_false, gf_8_0, pf_8_0, gf_8_1, pf_8_1, gf_8_2, pf_8_2, gf_8_3, pf_8_3, gf_8_4, pf_8_4, gf_8_5, pf_8_5, gf_8_6, pf_8_6, gf_8_7, pf_8_7, gf_8_8, pf_8_8, gf_8_9, pf_8_9, gf_8_10, pf_8_10, O], hS_same, Fr.st (by omega)⟩
theorem k_refuse1 {q : Nat} (hq : q ≤ 120) (O : TxO h L tE tS tC tN p x3 x4 (vI (q : Int)) x7) : ev mText_refuse [vR 2] h = some (none, h) := by
  unfold TxO at O
  rw [ev_Text_refuse]
  simp (disch := omega) only [e_Text_refuse_0, e_Text_refuse_1, e_Text_refuse_4, e_Text_refuse_5, e_Text_refuse_8, e_Text_refuse_9, e_Text_refuse_10, e_Text_refuse_13, e_Text_refuse_16, alk_in, ask_in, blk_in, bsk_in, qlk_in, ack_in, rcv_in, rcA_in, bk_i, bk_l, bk_v, hS_same, hS_ne, hS_hS, hS_2, am_10, am_01, am_00, if_true, if_false, gf_8_0, pf_8_0, gf_8_1, pf_8_1, gf_8_2, pf_8_2, gf_8_3, pf_8_3, gf_8_4, pf_8_4, gf_8_5, pf_8_5, gf_8_6, pf_8_6, gf_8_7, pf_8_7, gf_8_8, pf_8_8, gf_8_9, pf_8_9, gf_8_10, pf_8_10, O]
  rw [if_neg (by omega)]
theorem k_take1 {a b : Int} (X : TxG L g tE tS tC tN) (hp : p ≤ L) (O : TxO h L tE tS tC tN p x3 x4 (vI (-1)) x7) (G : h.1 3 = cI 0 120 g) (hab : (-5 ≤ a ∧ a ≤ 100) ∧ -5 ≤ b ∧ b ≤ 100) (hf : fit tC tN p a b) : ∃ h', ev mText_takeNumber [vR 2, vI a, vI b] h = some (some (vI (tN p)), h') ∧ TxO h' L tE tS tC tN (tE p) x3 x4 (vI (-1)) x7 ∧ Fr 2 3 h h' := by
  have eb := (X.2.1 p hp).2.1
  obtain ⟨h1, e1, O1, f1⟩ := X.2.2 _ _ _ _ _ _ _ _ _ eb.2 O G
  refine ⟨h1, ?_, O1, f1⟩
  unfold TxO at O
  have nb := (X.2.1 p hp).2.2.2.2 hf.1
  have h1 := hf.1
  rw [ev_Text_takeNumber]
  simp (disch := omega) only [e_Text_takeNumber_0, e_Text_takeNumber_1, e_Text_takeNumber_4, e_Text_takeNumber_5, e_Text_takeNumber_8, e_Text_takeNumber_9, e_Text_takeNumber_12, e_Text_takeNumber_13, e_Text_takeNumber_16, e_Text_takeNumber_17, e_Text_takeNumber_20, e_Text_takeNumber_21, e_Text_takeNumber_24, e_Text_takeNumber_25, e_Text_takeNumber_28, e_Text_takeNumber_29, e_Text_takeNumber_30, e_Text_takeNumber_31, e_Text_takeNumber_31b, e_Text_takeNumber_34, e_Text_takeNumber_35, e_Text_takeNumber_38, e_Text_takeNumber_39, e_Text_takeNumber_42, e_Text_takeNumber_43, e_Text_takeNumber_46, e_Text_takeNumber_47, e_Text_takeNumber_48, e_Text_takeNumber_49, e_Text_takeNumber_52, e_Text_takeNumber_54, e_Text_takeNumber_55, e_Text_takeNumber_58, e_Text_takeNumber_60, alk_in, ask_in, blk_in, bsk_in, qlk_in, ack_in, rcv_in, rcA_in, bk_i, bk_l, bk_v, hS_same, hS_ne, hS_hS, hS_2, am_10, am_01, am_00, if_true, if_false, gf_8_0, pf_8_0, gf_8_1, pf_8_1, gf_8_2, pf_8_2, gf_8_3, pf_8_3, gf_8_4, pf_8_4, gf_8_5, pf_8_5, gf_8_6, pf_8_6, gf_8_7, pf_8_7, gf_8_8, pf_8_8, gf_8_9, pf_8_9, gf_8_10, pf_8_10, O, e1, h1]
  rw [if_neg (by omega), if_neg (by omega)]
theorem k_take0 {a b : Int} (X : TxG L g tE tS tC tN) (hp : p ≤ L) (O : TxO h L tE tS tC tN p x3 x4 (vI (-1)) x7) (hab : (-5 ≤ a ∧ a ≤ 100) ∧ -5 ≤ b ∧ b ≤ 100) (hf : ¬ fit tC tN p a b) : ∃ h', ev mText_takeNumber [vR 2, vI a, vI b] h = some (some (vI a), h') ∧ TxO h' L tE tS tC tN p x3 x4 (vI (tS p : Int)) x7 ∧ Fr 2 3 h h' := by
  obtain ⟨h1, e1, O1, f1⟩ := k_refuse0 O
  refine ⟨h1, ?_, O1, f1⟩
  have tb := (X.2.1 p hp).1
  have hL := X.1
  unfold TxO at O O1
  have cr := (X.2.1 p hp).2.2.2.1
  rw [ev_Text_takeNumber]
  by_cases q1 : tC p = 1
  · have nb := (X.2.1 p hp).2.2.2.2 q1
    by_cases q2 : tN p < a
    · simp (disch := omega) only [e_Text_takeNumber_0, e_Text_takeNumber_1, e_Text_takeNumber_4, e_Text_takeNumber_5, e_Text_takeNumber_8, e_Text_takeNumber_9, e_Text_takeNumber_12, e_Text_takeNumber_13, e_Text_takeNumber_16, e_Text_takeNumber_17, e_Text_takeNumber_20, e_Text_takeNumber_21, e_Text_takeNumber_24, e_Text_takeNumber_25, e_Text_takeNumber_28, e_Text_takeNumber_29, e_Text_takeNumber_30, e_Text_takeNumber_31, e_Text_takeNumber_31b, e_Text_takeNumber_34, e_Text_takeNumber_35, e_Text_takeNumber_38, e_Text_takeNumber_39, e_Text_takeNumber_42, e_Text_takeNumber_43, e_Text_takeNumber_46, e_Text_takeNumber_47, e_Text_takeNumber_48, e_Text_takeNumber_49, e_Text_takeNumber_52, e_Text_takeNumber_54, e_Text_takeNumber_55, e_Text_takeNumber_58, e_Text_takeNumber_60, alk_in, ask_in, blk_in, bsk_in, qlk_in, ack_in, rcv_in, rcA_in, bk_i, bk_l, bk_v, hS_same, hS_ne, hS_hS, hS_2, am_10, am_01, am_00, if_true, if_false, gf_8_0, pf_8_0, gf_8_1, pf_8_1, gf_8_2, pf_8_2, gf_8_3, pf_8_3, gf_8_4, pf_8_4, gf_8_5, pf_8_5, gf_8_6, pf_8_6, gf_8_7, pf_8_7, gf_8_8, pf_8_8, gf_8_9, pf_8_9, gf_8_10, pf_8_10, O, O1, e1, q1]
      rw [if_pos q2, if_neg (by omega)]
    · simp (disch := omega) only [e_Text_takeNumber_0, e_Text_takeNumber_1, e_Text_takeNumber_4, e_Text_takeNumber_5, e_Text_takeNumber_8, e_Text_takeNumber_9, e_Text_takeNumber_12, e_Text_takeNumber_13, e_Text_takeNumber_16, e_Text_takeNumber_17, e_Text_takeNumber_20, e_Text_takeNumber_21, e_Text_takeNumber_24, e_Text_takeNumber_25, e_Text_takeNumber_28, e_Text_takeNumber_29, e_Text_takeNumber_30, e_Text_takeNumber_31, e_Text_takeNumber_31b, e_Text_takeNumber_34, e_Text_takeNumber_35, e_Text_takeNumber_38, e_Text_takeNumber_39, e_Text_takeNumber_42, e_Text_takeNumber_43, e_Text_takeNumber_46, e_Text_takeNumber_47, e_Text_takeNumber_48, e_Text_takeNumber_49, e_Text_takeNumber_52, e_Text_takeNumber_54, e_Text_takeNumber_55, e_Text_takeNumber_58, e_Text_takeNumber_60, alk_in, ask_in, blk_in, bsk_in, qlk_in, ack_in, rcv_in, rcA_in, bk_i, bk_l, bk_v, hS_same, hS_ne, hS_hS, hS_2, am_10, am_01, am_00, if_true, if_false, gf_8_0, pf_8_0, gf_8_1, pf_8_1, gf_8_2, pf_8_2, gf_8_3, pf_8_3, gf_8_4, pf_8_4, gf_8_5, pf_8_5, gf_8_6, pf_8_6, gf_8_7, pf_8_7, gf_8_8, pf_8_8, gf_8_9, pf_8_9, gf_8_10, pf_8_10, O, O1, e1, q1]
      rw [if_neg q2, if_pos (by omega), if_neg (by omega)]
  · simp (disch := omega) only [e_Text_takeNumber_0, e_Text_takeNumber_1, e_Text_takeNumber_4, e_Text_takeNumber_5, e_Text_takeNumber_8, e_Text_takeNumber_9, e_Text_takeNumber_12, e_Text_takeNumber_13, e_Text_takeNumber_16, e_Text_takeNumber_17, e_Text_takeNumber_20, e_Text_takeNumber_21, e_Text_takeNumber_24, e_Text_takeNumber_25, e_Text_takeNumber_28, e_Text_takeNumber_29, e_Text_takeNumber_30, e_Text_takeNumber_31, e_Text_takeNumber_31b, e_Text_takeNumber_34, e_Text_takeNumber_35, e_Text_takeNumber_38, e_Text_takeNumber_39, e_Text_takeNumber_42, e_Text_takeNumber_43, e_Text_takeNumber_46, e_Text_takeNumber_47, e_Text_takeNumber_48, e_Text_takeNumber_49, e_Text_takeNumber_52, e_Text_takeNumber_54, e_Text_takeNumber_55, e_Text_takeNumber_58, e_Text_takeNumber_60, alk_in, ask_in, blk_in, bsk_in, qlk_in, ack_in, rcv_in, rcA_in, bk_i, bk_l, bk_v, hS_same, hS_ne, hS_hS, hS_2, am_10, am_01, am_00, if_true, if_false, gf_8_0, pf_8_0, gf_8_1, pf_8_1, gf_8_2, pf_8_2, gf_8_3, pf_8_3, gf_8_4, pf_8_4, gf_8_5, pf_8_5, gf_8_6, pf_8_6, gf_8_7, pf_8_7, gf_8_8, pf_8_8, gf_8_9, pf_8_9, gf_8_10, pf_8_10, O, O1, e1, q1]
    rw [if_neg (by omega)]
theorem k_takef {a b : Int} {q : Nat} (hq : q ≤ 120) (X : TxG L g tE tS tC tN) (hp : p ≤ L) (O : TxO h L tE tS tC tN p x3 x4 (vI (q : Int)) x7) (hab : (-5 ≤ a ∧ a ≤ 100) ∧ -5 ≤ b ∧ b ≤ 100) : ev mText_takeNumber [vR 2, vI a, vI b] h = some (some (vI a), h) := by
  have e1 := k_refuse1 hq O
  unfold TxO at O
  have cr := (X.2.1 p hp).2.2.2.1
  rw [ev_Text_takeNumber]
  by_cases q1 : tC p = 1
  · have nb := (X.2.1 p hp).2.2.2.2 q1
    by_cases q2 : tN p < a
    · simp (disch := omega) only [e_Text_takeNumber_0, e_Text_takeNumber_1, e_Text_takeNumber_4, e_Text_takeNumber_5, e_Text_takeNumber_8, e_Text_takeNumber_9, e_Text_takeNumber_12, e_Text_takeNumber_13, e_Text_takeNumber_16, e_Text_takeNumber_17, e_Text_takeNumber_20, e_Text_takeNumber_21, e_Text_takeNumber_24, e_Text_takeNumber_25, e_Text_takeNumber_28, e_Text_takeNumber_29, e_Text_takeNumber_30, e_Text_takeNumber_31, e_Text_takeNumber_31b, e_Text_takeNumber_34, e_Text_takeNumber_35, e_Text_takeNumber_38, e_Text_takeNumber_39, e_Text_takeNumber_42, e_Text_takeNumber_43, e_Text_takeNumber_46, e_Text_takeNumber_47, e_Text_takeNumber_48, e_Text_takeNumber_49, e_Text_takeNumber_52, e_Text_takeNumber_54, e_Text_takeNumber_55, e_Text_takeNumber_58, e_Text_takeNumber_60, alk_in, ask_in, blk_in, bsk_in, qlk_in, ack_in, rcv_in, rcA_in, bk_i, bk_l, bk_v, hS_same, hS_ne, hS_hS, hS_2, am_10, am_01, am_00, if_true, if_false, gf_8_0, pf_8_0, gf_8_1, pf_8_1, gf_8_2, pf_8_2, gf_8_3, pf_8_3, gf_8_4, pf_8_4, gf_8_5, pf_8_5, gf_8_6, pf_8_6, gf_8_7, pf_8_7, gf_8_8, pf_8_8, gf_8_9, pf_8_9, gf_8_10, pf_8_10, O, e1, q1]
      rw [if_pos q2, if_neg (by omega)]
    · by_cases q3 : b < tN p
      · simp (disch := omega) only [e_Text_takeNumber_0, e_Text_takeNumber_1, e_Text_takeNumber_4, e_Text_takeNumber_5, e_Text_takeNumber_8, e_Text_takeNumber_9, e_Text_takeNumber_12, e_Text_takeNumber_13, e_Text_takeNumber_16, e_Text_takeNumber_17, e_Text_takeNumber_20, e_Text_takeNumber_21, e_Text_takeNumber_24, e_Text_takeNumber_25, e_Text_takeNumber_28, e_Text_takeNumber_29, e_Text_takeNumber_30, e_Text_takeNumber_31, e_Text_takeNumber_31b, e_Text_takeNumber_34, e_Text_takeNumber_35, e_Text_takeNumber_38, e_Text_takeNumber_39, e_Text_takeNumber_42, e_Text_takeNumber_43, e_Text_takeNumber_46, e_Text_takeNumber_47, e_Text_takeNumber_48, e_Text_takeNumber_49, e_Text_takeNumber_52, e_Text_takeNumber_54, e_Text_takeNumber_55, e_Text_takeNumber_58, e_Text_takeNumber_60, alk_in, ask_in, blk_in, bsk_in, qlk_in, ack_in, rcv_in, rcA_in, bk_i, bk_l, bk_v, hS_same, hS_ne, hS_hS, hS_2, am_10, am_01, am_00, if_true, if_false, gf_8_0, pf_8_0, gf_8_1, pf_8_1, gf_8_2, pf_8_2, gf_8_3, pf_8_3, gf_8_4, pf_8_4, gf_8_5, pf_8_5, gf_8_6, pf_8_6, gf_8_7, pf_8_7, gf_8_8, pf_8_8, gf_8_9, pf_8_9, gf_8_10, pf_8_10, O, e1, q1]
        rw [if_neg q2, if_pos q3, if_neg (by omega)]
      · simp (disch := omega) only [e_Text_takeNumber_0, e_Text_takeNumber_1, e_Text_takeNumber_4, e_Text_takeNumber_5, e_Text_takeNumber_8, e_Text_takeNumber_9, e_Text_takeNumber_12, e_Text_takeNumber_13, e_Text_takeNumber_16, e_Text_takeNumber_17, e_Text_takeNumber_20, e_Text_takeNumber_21, e_Text_takeNumber_24, e_Text_takeNumber_25, e_Text_takeNumber_28, e_Text_takeNumber_29, e_Text_takeNumber_30, e_Text_takeNumber_31, e_Text_takeNumber_31b, e_Text_takeNumber_34, e_Text_takeNumber_35, e_Text_takeNumber_38, e_Text_takeNumber_39, e_Text_takeNumber_42, e_Text_takeNumber_43, e_Text_takeNumber_46, e_Text_takeNumber_47, e_Text_takeNumber_48, e_Text_takeNumber_49, e_Text_takeNumber_52, e_Text_takeNumber_54, e_Text_takeNumber_55, e_Text_takeNumber_58, e_Text_takeNumber_60, alk_in, ask_in, blk_in, bsk_in, qlk_in, ack_in, rcv_in, rcA_in, bk_i, bk_l, bk_v, hS_same, hS_ne, hS_hS, hS_2, am_10, am_01, am_00, if_true, if_false, gf_8_0, pf_8_0, gf_8_1, pf_8_1, gf_8_2, pf_8_2, gf_8_3, pf_8_3, gf_8_4, pf_8_4, gf_8_5, pf_8_5, gf_8_6, pf_8_6, gf_8_7, pf_8_7, gf_8_8, pf_8_8, gf_8_9, pf_8_9, gf_8_10, pf_8_10, O, e1, q1]
        rw [if_neg q2, if_neg q3, if_neg (by omega)]
  · simp (disch := omega) only [e_Text_takeNumber_0, e_Text_takeNumber_1, e_Text_takeNumber_4, e_Text_takeNumber_5, e_Text_takeNumber_8, e_Text_takeNumber_9, e_Text_takeNumber_12, e_Text_takeNumber_13, e_Text_takeNumber_16, e_Text_takeNumber_17, e_Text_takeNumber_20, e_Text_takeNumber_21, e_Text_takeNumber_24, e_Text_takeNumber_25, e_Text_takeNumber_28, e_Text_takeNumber_29, e_Text_takeNumber_30, e_Text_takeNumber_31, e_Text_takeNumber_31b, e_Text_takeNumber_34, e_Text_takeNumber_35, e_Text_takeNumber_38, e_Text_takeNumber_39, e_Text_takeNumber_42, e_Text_takeNumber_43, e_Text_takeNumber_46, e_Text_takeNumber_47, e_Text_takeNumber_48, e_Text_takeNumber_49, e_Text_takeNumber_52, e_Text_takeNumber_54, e_Text_takeNumber_55, e_Text_takeNumber_58, e_Text_takeNumber_60, alk_in, ask_in, blk_in, bsk_in, qlk_in, ack_in, rcv_in, rcA_in, bk_i, bk_l, bk_v, hS_same, hS_ne, hS_hS, hS_2, am_10, am_01, am_00, if_true, if_false, gf_8_0, pf_8_0, gf_8_1, pf_8_1, gf_8_2, pf_8_2, gf_8_3, pf_8_3, gf_8_4, pf_8_4, gf_8_5, pf_8_5, gf_8_6, pf_8_6, gf_8_7, pf_8_7, gf_8_8, pf_8_8, gf_8_9, pf_8_9, gf_8_10, pf_8_10, O, e1, q1]
    rw [if_neg (by omega)]
theorem k_end1 {it : Int} (X : TxG L g tE tS tC tN) (hp : p ≤ L) (O : TxO h L tE tS tC tN p x3 (vI it) (vI (-1)) x7) (G : h.1 3 = cI 0 120 g) (hc : tC p = 59) : ∃ h', ev mText_takeEnd [vR 2] h = some (none, h') ∧ TxO h' L tE tS tC tN (tE p) x3 (vI (it + 1)) (vI (-1)) x7 ∧ Fr 2 3 h h' := by
  have eb := (X.2.1 p hp).2.1
  unfold TxO at O
  have f0 : Fr 2 3 h (hS h 2 (cO 8 [vI (L : Int), vR 3, vR 4, x3, vI (it + 1), vI (-1), vI (tE p : Int), x7, vI (tC p), vI (tS p : Int), vI (tN p)])) := Fr.st (by omega)
  obtain ⟨h1, e1, O1, f1⟩ := X.2.2 _ _ _ _ _ _ _ _ _ eb.2 (hS_same (h := h) (a := 2) (c := cO 8 [vI (L : Int), vR 3, vR 4, x3, vI (it + 1), vI (-1), vI (tE p : Int), x7, vI (tC p), vI (tS p : Int), vI (tN p)])) ((f0.at (by omega)).trans G)
  refine ⟨h1, ?_, O1, f0.tr f1⟩
  rw [hc] at O e1
  rw [ev_Text_takeEnd]
  simp (disch := omega) only [e_Text_takeEnd_0, e_Text_takeEnd_1, e_Text_takeEnd_4, e_Text_takeEnd_6, e_Text_takeEnd_9, e_Text_takeEnd_10, e_Text_takeEnd_13, e_Text_takeEnd_14, e_Text_takeEnd_17, e_Text_takeEnd_18, e_Text_takeEnd_21, e_Text_takeEnd_22, e_Text_takeEnd_23, e_Text_takeEnd_26, e_Text_takeEnd_27, e_Text_takeEnd_28, e_Text_takeEnd_31, e_Text_takeEnd_32, e_Text_takeEnd_35, alk_in, ask_in, blk_in, bsk_in, qlk_in, ack_in, rcv_in, rcA_in, bk_i, bk_l, bk_v, hS_same, hS_ne, hS_hS, hS_2, am_10, am_01, am_00, if_true, if_false, gf_8_0, pf_8_0, gf_8_1, pf_8_1, gf_8_2, pf_8_2, gf_8_3, pf_8_3, gf_8_4, pf_8_4, gf_8_5, pf_8_5, gf_8_6, pf_8_6, gf_8_7, pf_8_7, gf_8_8, pf_8_8, gf_8_9, pf_8_9, gf_8_10, pf_8_10, O, e1]
theorem k_end0 (X : TxG L g tE tS tC tN) (hp : p ≤ L) (O : TxO h L tE tS tC tN p x3 x4 (vI (-1)) x7) (hc : ¬ tC p = 59) : ∃ h', ev mText_takeEnd [vR 2] h = some (none, h') ∧ TxO h' L tE tS tC tN p x3 x4 (vI (tS p : Int)) x7 ∧ Fr 2 3 h h' := by
  obtain ⟨h1, e1, O1, f1⟩ := k_refuse0 O
  refine ⟨h1, ?_, O1, f1⟩
  have tb := (X.2.1 p hp).1
  have hL := X.1
  unfold TxO at O O1
  have cr := (X.2.1 p hp).2.2.2.1
  rw [ev_Text_takeEnd]
  simp (disch := omega) only [e_Text_takeEnd_0, e_Text_takeEnd_1, e_Text_takeEnd_4, e_Text_takeEnd_6, e_Text_takeEnd_9, e_Text_takeEnd_10, e_Text_takeEnd_13, e_Text_takeEnd_14, e_Text_takeEnd_17, e_Text_takeEnd_18, e_Text_takeEnd_21, e_Text_takeEnd_22, e_Text_takeEnd_23, e_Text_takeEnd_26, e_Text_takeEnd_27, e_Text_takeEnd_28, e_Text_takeEnd_31, e_Text_takeEnd_32, e_Text_takeEnd_35, alk_in, ask_in, blk_in, bsk_in, qlk_in, ack_in, rcv_in, rcA_in, bk_i, bk_l, bk_v, hS_same, hS_ne, hS_hS, hS_2, am_10, am_01, am_00, if_true, if_false, gf_8_0, pf_8_0, gf_8_1, pf_8_1, gf_8_2, pf_8_2, gf_8_3, pf_8_3, gf_8_4, pf_8_4, gf_8_5, pf_8_5, gf_8_6, pf_8_6, gf_8_7, pf_8_7, gf_8_8, pf_8_8, gf_8_9, pf_8_9, gf_8_10, pf_8_10, O, O1, e1, hc]
  rw [if_neg (by omega)]
theorem k_endf {q : Nat} (hq : q ≤ 120) (X : TxG L g tE tS tC tN) (hp : p ≤ L) (O : TxO h L tE tS tC tN p x3 x4 (vI (q : Int)) x7) : ev mText_takeEnd [vR 2] h = some (none, h) := by
  have e1 := k_refuse1 hq O
  unfold TxO at O
  have cr := (X.2.1 p hp).2.2.2.1
  rw [ev_Text_takeEnd]
  by_cases hc : tC p = 59
  · simp (disch := omega) only [e_Text_takeEnd_0, e_Text_takeEnd_1, e_Text_takeEnd_4, e_Text_takeEnd_6, e_Text_takeEnd_9, e_Text_takeEnd_10, e_Text_takeEnd_13, e_Text_takeEnd_14, e_Text_takeEnd_17, e_Text_takeEnd_18, e_Text_takeEnd_21, e_Text_takeEnd_22, e_Text_takeEnd_23, e_Text_takeEnd_26, e_Text_takeEnd_27, e_Text_takeEnd_28, e_Text_takeEnd_31, e_Text_takeEnd_32, e_Text_takeEnd_35, alk_in, ask_in, blk_in, bsk_in, qlk_in, ack_in, rcv_in, rcA_in, bk_i, bk_l, bk_v, hS_same, hS_ne, hS_hS, hS_2, am_10, am_01, am_00, if_true, if_false, gf_8_0, pf_8_0, gf_8_1, pf_8_1, gf_8_2, pf_8_2, gf_8_3, pf_8_3, gf_8_4, pf_8_4, gf_8_5, pf_8_5, gf_8_6, pf_8_6, gf_8_7, pf_8_7, gf_8_8, pf_8_8, gf_8_9, pf_8_9, gf_8_10, pf_8_10, O, e1, hc]
    rw [if_neg (by omega)]
  · simp (disch := omega) only [e_Text_takeEnd_0, e_Text_takeEnd_1, e_Text_takeEnd_4, e_Text_takeEnd_6, e_Text_takeEnd_9, e_Text_takeEnd_10, e_Text_takeEnd_13, e_Text_takeEnd_14, e_Text_takeEnd_17, e_Text_takeEnd_18, e_Text_takeEnd_21, e_Text_takeEnd_22, e_Text_takeEnd_23, e_Text_takeEnd_26, e_Text_takeEnd_27, e_Text_takeEnd_28, e_Text_takeEnd_31, e_Text_takeEnd_32, e_Text_takeEnd_35, alk_in, ask_in, blk_in, bsk_in, qlk_in, ack_in, rcv_in, rcA_in, bk_i, bk_l, bk_v, hS_same, hS_ne, hS_hS, hS_2, am_10, am_01, am_00, if_true, if_false, gf_8_0, pf_8_0, gf_8_1, pf_8_1, gf_8_2, pf_8_2, gf_8_3, pf_8_3, gf_8_4, pf_8_4, gf_8_5, pf_8_5, gf_8_6, pf_8_6, gf_8_7, pf_8_7, gf_8_8, pf_8_8, gf_8_9, pf_8_9, gf_8_10, pf_8_10, O, e1, hc]
    rw [if_neg (by omega)]
end Rd
theorem d_addMan {h : am_H} {b n c : Nat} {t : Int} {ce so ha ye : Nat → Int} (S : RepS h b n c t ce so ha ye) (hc : c ≤ 9) (hn : n < 6) {x : Nat} {s a y : Int} (hx : x < c) : ∃ h', ev mScene_addMan [vR b, vI (x : Int), vI s, vI a, vI y] h = some (none, h') ∧ RepS h' b (n + 1) c t (fun j => if j = n then (x : Int) else ce j) (fun j => if j = n then s else so j) (fun j => if j = n then a else ha j) (fun j => if j = n then y else ye j) ∧ Fr b (b + 6) h h' := by
  have c1 := d_hasCell S (x := (x : Int)) (by omega) hc
  rw [if_pos (by omega)] at c1
  obtain ⟨ce', so', ha', ye', ic, ⟨s0, s1, s2, s3, s4, s5⟩, r1, r2⟩ := S
  refine ⟨_, by
    rw [ev_Scene_addMan]
    simp (disch := omega) only [e_Scene_addMan_0, e_Scene_addMan_1, e_Scene_addMan_4, e_Scene_addMan_6, e_Scene_addMan_9, e_Scene_addMan_10, e_Scene_addMan_11, e_Scene_addMan_14, e_Scene_addMan_14b, e_Scene_addMan_17, e_Scene_addMan_18, e_Scene_addMan_19, e_Scene_addMan_22, e_Scene_addMan_23, e_Scene_addMan_26, e_Scene_addMan_27, e_Scene_addMan_28, e_Scene_addMan_29, e_Scene_addMan_32, e_Scene_addMan_33, e_Scene_addMan_36, e_Scene_addMan_37, e_Scene_addMan_38, e_Scene_addMan_39, e_Scene_addMan_42, e_Scene_addMan_43, e_Scene_addMan_46, e_Scene_addMan_47, e_Scene_addMan_48, e_Scene_addMan_49, e_Scene_addMan_52, e_Scene_addMan_53, e_Scene_addMan_56, e_Scene_addMan_58, e_Scene_addMan_59, e_Scene_addMan_60, e_Scene_addMan_63, e_Scene_addMan_64, e_Scene_addMan_65, e_Scene_addMan_68, e_Scene_addMan_69, e_Scene_addMan_70, e_Scene_addMan_71, e_Scene_addMan_74, e_Scene_addMan_75, e_Scene_addMan_76, e_Scene_addMan_79, alk_in, ask_in, blk_in, bsk_in, qlk_in, ack_in, rcv_in, rcA_in, bk_i, bk_l, bk_v, hS_same, hS_ne, hS_hS, hS_2, am_10, am_01, am_00, if_true, if_false, gf_5_0, pf_5_0, gf_5_1, pf_5_1, gf_5_2, pf_5_2, gf_5_3, pf_5_3, gf_5_4, pf_5_4, gf_5_5, pf_5_5, gf_5_6, pf_5_6, gf_5_7, pf_5_7, s0, s1, s2, s3, s4, s5, Int.toNat_natCast, c1]
    rw [if_pos (by omega)], ⟨fun j => if j = n then (x : Int) else ce' j, fun j => if j = n then s else so' j, fun j => if j = n then a else ha' j, fun j => if j = n then y else ye' j, fun j => if j = x then (n : Int) else ic j, ⟨?_, ?_, ?_, ?_, ?_, ?_⟩, fun j hj => ?_, fun z hz => ?_⟩, ?_⟩
  · simp (disch := omega) only [hS_ne, hS_same]; rfl
  · simp (disch := omega) only [hS_ne, hS_same]
  · simp (disch := omega) only [hS_ne, hS_same]
  · simp (disch := omega) only [hS_ne, hS_same]
  · simp (disch := omega) only [hS_ne, hS_same]
  · simp (disch := omega) only [hS_ne, hS_same]
  · by_cases q : j = n
    · simp [q]
    · have r := r1 j (by omega)
      simp only [q, if_false]
      exact r
  · have e : who (n + 1) (fun j => if j = n then (x : Int) else ce j) (z : Int) = if (x : Int) = (z : Int) then (n : Int) else who n (fun j => if j = n then (x : Int) else ce j) (z : Int) := by
      show (if (if n = n then (x : Int) else ce n) = (z : Int) then (n : Int) else _) = _
      rw [if_pos rfl]
    rw [e, who_congr (ce' := ce) (fun j hj => if_neg (by omega)), ← r2 z hz]
    show (if z = x then (n : Int) else ic z) = _
    by_cases q : z = x
    · rw [if_pos q, if_pos (by omega)]
    · rw [if_neg q, if_neg (by omega)]
  · (repeat' first | exact Fr.rf | refine Fr.tr ?_ (Fr.st (by omega)))
theorem l_empty {b : Nat} {n c : Nat} {t : Int} : ∀ (d k : Nat) (h : am_H) (ce so ha ye I : Nat → Int), k + d = 9 → ScAt h b n c t ce so ha ye I → (∀ j, j < k → I j = -9) → ∃ h' I', gv mScene_makeEmpty 18 [vR b, vI (k : Int)] [] h = some (none, h') ∧ ScAt h' b n c t ce so ha ye I' ∧ (∀ j, j < 9 → I' j = -9) ∧ Fr b (b + 6) h h' := by
  intro d
  induction d with
  | zero =>
    intro k h ce so ha ye I hk S H
    have : k = 9 := by omega
    subst this
    refine ⟨h, I, ?_, S, H, Fr.rf⟩
    rw [e_Scene_makeEmpty_18]
    simp (disch := omega) only [e_Scene_makeEmpty_0, e_Scene_makeEmpty_1, e_Scene_makeEmpty_3, e_Scene_makeEmpty_6, e_Scene_makeEmpty_7, e_Scene_makeEmpty_8, e_Scene_makeEmpty_11, e_Scene_makeEmpty_12, e_Scene_makeEmpty_13, e_Scene_makeEmpty_16, e_Scene_makeEmpty_17, e_Scene_makeEmpty_19, e_Scene_makeEmpty_21, e_Scene_makeEmpty_24, e_Scene_makeEmpty_25, e_Scene_makeEmpty_28, e_Scene_makeEmpty_29, e_Scene_makeEmpty_31, e_Scene_makeEmpty_32, e_Scene_makeEmpty_35, e_Scene_makeEmpty_38, alk_in, ask_in, blk_in, bsk_in, qlk_in, ack_in, rcv_in, rcA_in, bk_i, bk_l, bk_v, hS_same, hS_ne, hS_hS, hS_2, am_10, am_01, am_00, if_true, if_false]
    rw [if_neg (by omega)]
  | succ d ih =>
    intro k h ce so ha ye I hk S H
    obtain ⟨s0, s1, s2, s3, s4, s5⟩ := S
    have f1 : Fr b (b + 6) h (hS h (b + 5) (cI 0 9 (fun j => if j = k then -9 else I j))) := Fr.st (by omega)
    obtain ⟨h2, I', e2, S2, H2, f2⟩ := ih (k + 1) (hS h (b + 5) (cI 0 9 (fun j => if j = k then -9 else I j))) ce so ha ye _ (by omega) ⟨by rw [hS_ne (by omega)]; exact s0, by rw [hS_ne (by omega)]; exact s1, by rw [hS_ne (by omega)]; exact s2, by rw [hS_ne (by omega)]; exact s3, by rw [hS_ne (by omega)]; exact s4, hS_same⟩ (fun j hj => by
      by_cases q : j = k
      · exact if_pos q
      · exact (if_neg q).trans (H j (by omega)))
    refine ⟨h2, I', ?_, S2, H2, f1.tr f2⟩
    rw [e_Scene_makeEmpty_18, ← e2]
    simp (disch := omega) only [e_Scene_makeEmpty_0, e_Scene_makeEmpty_1, e_Scene_makeEmpty_3, e_Scene_makeEmpty_6, e_Scene_makeEmpty_7, e_Scene_makeEmpty_8, e_Scene_makeEmpty_11, e_Scene_makeEmpty_12, e_Scene_makeEmpty_13, e_Scene_makeEmpty_16, e_Scene_makeEmpty_17, e_Scene_makeEmpty_19, e_Scene_makeEmpty_21, e_Scene_makeEmpty_24, e_Scene_makeEmpty_25, e_Scene_makeEmpty_28, e_Scene_makeEmpty_29, e_Scene_makeEmpty_31, e_Scene_makeEmpty_32, e_Scene_makeEmpty_35, e_Scene_makeEmpty_38, alk_in, ask_in, blk_in, bsk_in, qlk_in, ack_in, rcv_in, rcA_in, bk_i, bk_l, bk_v, hS_same, hS_ne, hS_hS, hS_2, am_10, am_01, am_00, if_true, if_false, gf_5_0, pf_5_0, gf_5_1, pf_5_1, gf_5_2, pf_5_2, gf_5_3, pf_5_3, gf_5_4, pf_5_4, gf_5_5, pf_5_5, gf_5_6, pf_5_6, gf_5_7, pf_5_7, s0, s5, Int.toNat_natCast]
    rw [if_pos (by omega)]; rfl
theorem d_makeEmpty {h : am_H} {b : Nat} {x0 x1 x2 : Int} {ce so ha ye I : Nat → Int} (s0 : h.1 b = cO 5 [vI x0, vI x1, vI x2, vR (b + 1), vR (b + 2), vR (b + 3), vR (b + 4), vR (b + 5)]) (s1 : h.1 (b + 1) = cI 0 6 ce) (s2 : h.1 (b + 2) = cI 0 6 so) (s3 : h.1 (b + 3) = cI 0 6 ha) (s4 : h.1 (b + 4) = cI 0 6 ye) (s5 : h.1 (b + 5) = cI 0 9 I) : ∃ h' I', ev mScene_makeEmpty [vR b] h = some (none, h') ∧ ScAt h' b 0 6 0 ce so ha ye I' ∧ (∀ j, j < 9 → I' j = -9) ∧ Fr b (b + 6) h h' := by
  have f1 : Fr b (b + 6) h (hS h b (cO 5 [vI 6, vI 0, vI 0, vR (b + 1), vR (b + 2), vR (b + 3), vR (b + 4), vR (b + 5)])) := Fr.st (by omega)
  obtain ⟨h2, I', e2, S2, H2, f2⟩ := l_empty (n := 0) (c := 6) (t := 0) 9 0 (hS h b (cO 5 [vI 6, vI 0, vI 0, vR (b + 1), vR (b + 2), vR (b + 3), vR (b + 4), vR (b + 5)])) ce so ha ye I (by omega) ⟨hS_same, by rw [hS_ne (by omega)]; exact s1, by rw [hS_ne (by omega)]; exact s2, by rw [hS_ne (by omega)]; exact s3, by rw [hS_ne (by omega)]; exact s4, by rw [hS_ne (by omega)]; exact s5⟩ (fun j hj => by omega)
  refine ⟨h2, I', ?_, S2, H2, f1.tr f2⟩
  rw [ev_Scene_makeEmpty, ← e2]
  simp (disch := omega) only [e_Scene_makeEmpty_0, e_Scene_makeEmpty_1, e_Scene_makeEmpty_3, e_Scene_makeEmpty_6, e_Scene_makeEmpty_7, e_Scene_makeEmpty_8, e_Scene_makeEmpty_11, e_Scene_makeEmpty_12, e_Scene_makeEmpty_13, e_Scene_makeEmpty_16, e_Scene_makeEmpty_17, alk_in, ask_in, blk_in, bsk_in, qlk_in, ack_in, rcv_in, rcA_in, bk_i, bk_l, bk_v, hS_same, hS_ne, hS_hS, hS_2, am_10, am_01, am_00, if_true, if_false, gf_5_0, pf_5_0, gf_5_1, pf_5_1, gf_5_2, pf_5_2, gf_5_3, pf_5_3, gf_5_4, pf_5_4, gf_5_5, pf_5_5, gf_5_6, pf_5_6, gf_5_7, pf_5_7, s0]
  rfl
