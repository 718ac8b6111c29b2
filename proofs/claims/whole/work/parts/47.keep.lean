/-! keep, back: the images -/
def FP (P : Nat → Prop) (h h' : am_H) : Prop := h'.2 = h.2 ∧ ∀ x, ¬ P x → h'.1 x = h.1 x
theorem FP.rf {P : Nat → Prop} {h : am_H} : FP P h h := ⟨rfl, fun _ _ => rfl⟩
theorem FP.tr {P : Nat → Prop} {h h1 h2 : am_H} (a : FP P h h1) (c : FP P h1 h2) : FP P h h2 := ⟨c.1.trans a.1, fun x hx => (c.2 x hx).trans (a.2 x hx)⟩
theorem FP.st {P : Nat → Prop} {h : am_H} {a : Nat} {c : am_C} (ha : P a) : FP P h (hS h a c) := ⟨rfl, fun x hx => hS_ne (fun e => hx (by rw [e]; exact ha))⟩
theorem Fr.fp {b e : Nat} {P : Nat → Prop} {h h' : am_H} (f : Fr b e h h') (q : ∀ x, b ≤ x ∧ x < e → P x) : FP P h h' := ⟨f.1, fun x hx => f.2 x (by
  by_cases y : x < b
  · exact Or.inl y
  · by_cases z : e ≤ x
    · exact Or.inr z
    · exact absurd (q x (by omega)) hx)⟩
theorem FP.wd {P Q : Nat → Prop} {h h' : am_H} (f : FP P h h') (q : ∀ x, P x → Q x) : FP Q h h' := ⟨f.1, fun x hx => f.2 x (fun y => hx (q x y))⟩
theorem FP.at {P : Nat → Prop} {h h' : am_H} (f : FP P h h') {x : Nat} {c : am_C} (e : h.1 x = c) (q : ¬ P x) : h'.1 x = c := (f.2 x q).trans e
def aKeep (T : Tm) (i : Int) : Int := if 0 ≤ i ∧ i < 2 then T.1 else -1
def nKeep (im : Nat → Option Tm) (T : Tm) (i : Int) : Nat → Option Tm := fun j => if (0 ≤ i ∧ i < 2) ∧ (j : Int) = i then some T else im j
def aBack (im : Nat → Option Tm) (i : Int) : Int := if 0 ≤ i ∧ i < 2 then (match im i.toNat with
  | none => -2
  | some U => U.1) else -1
def nBack (im : Nat → Option Tm) (T : Tm) (i : Int) : Tm := if 0 ≤ i ∧ i < 2 then (match im i.toNat with
  | none => T
  | some U => U) else T
def nBackP (im : Nat → Option Tm) (k : Nat) (i : Int) : Nat := if 0 ≤ i ∧ i < 2 then (match im i.toNat with
  | none => k
  | some _ => 0) else k
def Seg (A : Nat → Int) (o n : Nat) (T : Tm) : Prop := A o = T.1 ∧ ∀ j, j < n → A (o + 1 + j) = T.2.1 j ∧ A (o + 7 + j) = T.2.2.1 j ∧ A (o + 13 + j) = T.2.2.2 j
def MIm (h : am_H) (G : Gl) (im : Nat → Option Tm) : Prop := ∃ I K, h.1 126 = cI 0 38 I ∧ h.1 127 = cI 1 2 K ∧ ∀ i, i < 2 → (match im i with
  | none => K i = 0
  | some T => K i = 1 ∧ Seg I (19 * i) G.1 T)
theorem MIm.fe {h h' : am_H} {G : Gl} {im : Nat → Option Tm} {l : List Nat} (S : MIm h G im) (f : FE l h h') (q : 126 ∉ l ∧ 127 ∉ l) : MIm h' G im := by
  obtain ⟨I, K, a, b, r⟩ := S
  exact ⟨I, K, f.at a q.1, f.at b q.2, r⟩
section Keep
variable {h : am_H} {G : Gl} {T : Tm} {im : Nat → Option Tm}
theorem c_isImage {i : Int} (hi : rg32 i) : ev mCell_isImage [vI i] h = some (some (vI (if 0 ≤ i ∧ i < 2 then 1 else 0)), h) := by
  unfold rg32 at hi
  rw [ev_Cell_isImage]
  simp (disch := omega) only [e_Cell_isImage_0, e_Cell_isImage_1, e_Cell_isImage_4, e_Cell_isImage_5, e_Cell_isImage_6, e_Cell_isImage_9, e_Cell_isImage_10, e_Cell_isImage_13, e_Cell_isImage_14]
  by_cases a : i < 0
  · rw [if_pos a, if_neg (by omega)]
  · by_cases b : i < 2
    · rw [if_neg a, if_pos b, if_pos (by omega)]
    · rw [if_neg a, if_neg b, if_neg (by omega)]
theorem k_keep {lo pc : Int} (O : CeO h lo pc) (S : RT h 10 G T) (hw : WT G T) (I : CIm h G im) {i : Int} (hi : rg32 i) : ∃ h', ev mCell_keep [vR 1, vI i] h = some (some (vI (aKeep T i)), h') ∧ CIm h' G (nKeep im T i) ∧ FP (fun x => x = 24 ∨ 102 ≤ x ∧ x < 114) h h' := by
  have c1 := c_isImage (h := h) hi
  unfold CeO at O
  unfold rg32 at hi
  unfold aKeep
  by_cases q : 0 ≤ i ∧ i < 2
  · rw [if_pos q] at c1 ⊢
    obtain ⟨k, rfl⟩ : ∃ k : Nat, i = (k : Int) := ⟨i.toNat, by omega⟩
    have hk : k < 2 := by omega
    obtain ⟨Q, K, a1, a2, r⟩ := I
    have z := r k hk
    obtain ⟨h1, e1, S1, f1⟩ := d_copyFrom (b := 102 + 6 * k) (show RepS h 10 G.1 G.2.1 T.1 T.2.1 T.2.2.1 G.2.2.2 T.2.2.2 from S) hw.1 hw.2.2.1 z.2.1 (by omega)
    have o1 := (f1.at (a := 1) (by omega)).trans O
    have b1 := (f1.at (a := 24) (by omega)).trans a2
    have b3 := (f1.at (a := 23) (by omega)).trans a1
    have t1 : ∃ v3 v4 v5 v6 v7, h1.1 10 = cO 5 [vI (G.2.1 : Int), vI (G.1 : Int), vI T.1, v3, v4, v5, v6, v7] := by
      obtain ⟨ce', so', ha', ye', ic, ⟨s0, -⟩, -⟩ := S
      exact ⟨_, _, _, _, _, (f1.at (a := 10) (by omega)).trans s0⟩
    obtain ⟨v3, v4, v5, v6, v7, t1⟩ := t1
    have sh0 : ∃ fs, h.1 (102 + 6 * k) = cO 5 fs := by
      obtain ⟨_, _, _, _, _, _, _, _, ⟨s0, -⟩⟩ := z.2.1
      exact ⟨_, s0⟩
    obtain ⟨fs, sh0⟩ := sh0
    refine ⟨hS h1 24 (cI 1 2 (fun j => if j = k then 1 else K j)), ?_, ⟨Q, _, (hS_ne (by decide)).trans b3, hS_same, fun j hj => ?_⟩, ?_⟩
    · rw [ev_Cell_keep]
      simp (disch := omega) only [e_Cell_keep_0, e_Cell_keep_1, e_Cell_keep_4, e_Cell_keep_4b, e_Cell_keep_7, e_Cell_keep_8, e_Cell_keep_9, e_Cell_keep_10, e_Cell_keep_13, e_Cell_keep_14, e_Cell_keep_15, e_Cell_keep_16, e_Cell_keep_19, e_Cell_keep_22, e_Cell_keep_23, e_Cell_keep_26, e_Cell_keep_27, e_Cell_keep_28, e_Cell_keep_29, e_Cell_keep_30, e_Cell_keep_33, e_Cell_keep_36, alk_in, ask_in, blk_in, bsk_in, qlk_in, ack_in, rcv_in, rcA_in, bk_i, bk_l, bk_v, hS_same, hS_ne, hS_hS, hS_2, am_10, am_01, am_00, if_true, if_false, gf_5_0, pf_5_0, gf_5_1, pf_5_1, gf_5_2, pf_5_2, gf_5_3, pf_5_3, gf_5_4, pf_5_4, gf_5_5, pf_5_5, gf_5_6, pf_5_6, gf_5_7, pf_5_7, gf_11_0, pf_11_0, gf_11_1, pf_11_1, gf_11_2, pf_11_2, gf_11_3, pf_11_3, gf_11_4, pf_11_4, gf_11_5, pf_11_5, gf_11_6, pf_11_6, gf_11_7, pf_11_7, gf_11_8, pf_11_8, gf_11_9, pf_11_9, gf_11_10, pf_11_10, gf_11_11, pf_11_11, O, c1, a1, z.1, sh0, Int.toNat_natCast, e1, o1, b1, t1]
    · have y := r j hj
      have g : SameOn (fun x => 102 + 6 * j ≤ x ∧ x < 102 + 6 * j + 6) h1 (hS h1 24 (cI 1 2 (fun j => if j = k then 1 else K j))) := fun x hx => hS_ne (by omega)
      by_cases w : j = k
      · subst w
        refine ⟨y.1, (RepS.sh S1).on g, ?_⟩
        have : nKeep im T (j : Int) j = some T := by unfold nKeep; rw [if_pos ⟨q, rfl⟩]
        rw [this]
        exact ⟨if_pos rfl, RT.on (show RT h1 (102 + 6 * j) G T from S1) g⟩
      · have g1 : SameOn (fun x => 102 + 6 * j ≤ x ∧ x < 102 + 6 * j + 6) h h1 := fun x hx => f1.at (by omega)
        refine ⟨y.1, (y.2.1.on g1).on g, ?_⟩
        have : nKeep im T (k : Int) j = im j := by unfold nKeep; rw [if_neg (by omega)]
        rw [this]
        have y2 := y.2.2
        cases e : im j with
        | none => rw [e] at y2; exact (if_neg w).trans y2
        | some U => rw [e] at y2; exact ⟨(if_neg w).trans y2.1, (y2.2.on g1).on g⟩
    · exact (f1.fp (fun x hx => by omega)).tr (FP.st (Or.inl rfl))
  · rw [if_neg q] at c1 ⊢
    have : nKeep im T i = im := by
      funext j
      unfold nKeep
      rw [if_neg (fun y => q y.1)]
    rw [this]
    refine ⟨h, ?_, I, FP.rf⟩
    rw [ev_Cell_keep]
    simp (disch := omega) only [e_Cell_keep_0, e_Cell_keep_1, e_Cell_keep_4, e_Cell_keep_4b, e_Cell_keep_7, e_Cell_keep_8, e_Cell_keep_9, e_Cell_keep_10, e_Cell_keep_13, e_Cell_keep_14, e_Cell_keep_15, e_Cell_keep_16, e_Cell_keep_19, e_Cell_keep_22, e_Cell_keep_23, e_Cell_keep_26, e_Cell_keep_27, e_Cell_keep_28, e_Cell_keep_29, e_Cell_keep_30, e_Cell_keep_33, e_Cell_keep_36, alk_in, ask_in, blk_in, bsk_in, qlk_in, ack_in, rcv_in, rcA_in, bk_i, bk_l, bk_v, hS_same, hS_ne, hS_hS, hS_2, am_10, am_01, am_00, if_true, if_false, gf_5_0, pf_5_0, gf_5_1, pf_5_1, gf_5_2, pf_5_2, gf_5_3, pf_5_3, gf_5_4, pf_5_4, gf_5_5, pf_5_5, gf_5_6, pf_5_6, gf_5_7, pf_5_7, gf_11_0, pf_11_0, gf_11_1, pf_11_1, gf_11_2, pf_11_2, gf_11_3, pf_11_3, gf_11_4, pf_11_4, gf_11_5, pf_11_5, gf_11_6, pf_11_6, gf_11_7, pf_11_7, gf_11_8, pf_11_8, gf_11_9, pf_11_9, gf_11_10, pf_11_10, gf_11_11, pf_11_11, O, c1]
theorem k_back {lo : Int} {k : Nat} (O : CeO h lo k) (S : RT h 10 G T) (hw : WT G T) (I : CIm h G im) {i : Int} (hi : rg32 i) : ∃ h', ev mCell_back [vR 1, vI i] h = some (some (vI (aBack im i)), h') ∧ CeO h' lo (nBackP im k i) ∧ RT h' 10 G (nBack im T i) ∧ FP (fun x => x = 1 ∨ 10 ≤ x ∧ x < 16) h h' := by
  have c1 := c_isImage (h := h) hi
  have O' := O
  unfold CeO at O
  unfold rg32 at hi
  unfold aBack nBack nBackP
  by_cases q : 0 ≤ i ∧ i < 2
  · rw [if_pos q] at c1
    rw [if_pos q, if_pos q, if_pos q]
    obtain ⟨i, rfl⟩ : ∃ k : Nat, i = (k : Int) := ⟨i.toNat, by omega⟩
    have hk : i < 2 := by omega
    obtain ⟨Q, K, a1, a2, r⟩ := I
    have z := r i hk
    rw [Int.toNat_natCast]
    have z2 := z.2.2
    cases e : im i with
    | none =>
      rw [e] at z2
      refine ⟨h, ?_, O', S, FP.rf⟩
      rw [ev_Cell_back]
      simp (disch := omega) only [e_Cell_back_0, e_Cell_back_1, e_Cell_back_4, e_Cell_back_4b, e_Cell_back_7, e_Cell_back_8, e_Cell_back_9, e_Cell_back_10, e_Cell_back_13, e_Cell_back_14, e_Cell_back_15, e_Cell_back_15b, e_Cell_back_18, e_Cell_back_20, e_Cell_back_21, e_Cell_back_22, e_Cell_back_25, e_Cell_back_26, e_Cell_back_29, e_Cell_back_30, e_Cell_back_31, e_Cell_back_34, e_Cell_back_35, e_Cell_back_36, e_Cell_back_39, e_Cell_back_40, e_Cell_back_43, e_Cell_back_46, alk_in, ask_in, blk_in, bsk_in, qlk_in, ack_in, rcv_in, rcA_in, bk_i, bk_l, bk_v, hS_same, hS_ne, hS_hS, hS_2, am_10, am_01, am_00, if_true, if_false, gf_5_0, pf_5_0, gf_5_1, pf_5_1, gf_5_2, pf_5_2, gf_5_3, pf_5_3, gf_5_4, pf_5_4, gf_5_5, pf_5_5, gf_5_6, pf_5_6, gf_5_7, pf_5_7, gf_11_0, pf_11_0, gf_11_1, pf_11_1, gf_11_2, pf_11_2, gf_11_3, pf_11_3, gf_11_4, pf_11_4, gf_11_5, pf_11_5, gf_11_6, pf_11_6, gf_11_7, pf_11_7, gf_11_8, pf_11_8, gf_11_9, pf_11_9, gf_11_10, pf_11_10, gf_11_11, pf_11_11, O, c1, a2, z2, Int.toNat_natCast]
    | some U =>
      rw [e] at z2
      obtain ⟨h1, e1, S1, f1⟩ := d_copyFrom (b := 10) (show RepS h (102 + 6 * i) G.1 G.2.1 U.1 U.2.1 U.2.2.1 G.2.2.2 U.2.2.2 from z2.2) hw.1 hw.2.2.1 (RepS.sh S) (by omega)
      have o1 := (f1.at (a := 1) (by omega)).trans O
      have t0 : ∃ fs, h.1 10 = cO 5 fs := by
        obtain ⟨ce', so', ha', ye', ic, ⟨s0, -⟩, -⟩ := S
        exact ⟨_, s0⟩
      obtain ⟨fs, t0⟩ := t0
      have S2 : RT h1 10 G U := S1
      obtain ⟨ce', so', ha', ye', ic, ⟨s0, -⟩, -⟩ := S1
      refine ⟨hS h1 1 (cO 11 [vR 2, vI lo, vR 10, vR 16, vR 22, vI 0, vR 23, vR 24, vR 25, vR 28, vR 40, vR 41]), ?_, hS_same, S2.on (fun x hx => hS_ne (by omega)), (f1.fp (fun x hx => by omega)).tr (FP.st (Or.inl rfl))⟩
      rw [ev_Cell_back]
      simp (disch := omega) only [e_Cell_back_0, e_Cell_back_1, e_Cell_back_4, e_Cell_back_4b, e_Cell_back_7, e_Cell_back_8, e_Cell_back_9, e_Cell_back_10, e_Cell_back_13, e_Cell_back_14, e_Cell_back_15, e_Cell_back_15b, e_Cell_back_18, e_Cell_back_20, e_Cell_back_21, e_Cell_back_22, e_Cell_back_25, e_Cell_back_26, e_Cell_back_29, e_Cell_back_30, e_Cell_back_31, e_Cell_back_34, e_Cell_back_35, e_Cell_back_36, e_Cell_back_39, e_Cell_back_40, e_Cell_back_43, e_Cell_back_46, alk_in, ask_in, blk_in, bsk_in, qlk_in, ack_in, rcv_in, rcA_in, bk_i, bk_l, bk_v, hS_same, hS_ne, hS_hS, hS_2, am_10, am_01, am_00, if_true, if_false, gf_5_0, pf_5_0, gf_5_1, pf_5_1, gf_5_2, pf_5_2, gf_5_3, pf_5_3, gf_5_4, pf_5_4, gf_5_5, pf_5_5, gf_5_6, pf_5_6, gf_5_7, pf_5_7, gf_11_0, pf_11_0, gf_11_1, pf_11_1, gf_11_2, pf_11_2, gf_11_3, pf_11_3, gf_11_4, pf_11_4, gf_11_5, pf_11_5, gf_11_6, pf_11_6, gf_11_7, pf_11_7, gf_11_8, pf_11_8, gf_11_9, pf_11_9, gf_11_10, pf_11_10, gf_11_11, pf_11_11, O, c1, a1, a2, z.1, z2.1, t0, Int.toNat_natCast, e1, o1, s0]
  · rw [if_neg q] at c1
    rw [if_neg q, if_neg q, if_neg q]
    refine ⟨h, ?_, O', S, FP.rf⟩
    rw [ev_Cell_back]
    simp (disch := omega) only [e_Cell_back_0, e_Cell_back_1, e_Cell_back_4, e_Cell_back_4b, e_Cell_back_7, e_Cell_back_8, e_Cell_back_9, e_Cell_back_10, e_Cell_back_13, e_Cell_back_14, e_Cell_back_15, e_Cell_back_15b, e_Cell_back_18, e_Cell_back_20, e_Cell_back_21, e_Cell_back_22, e_Cell_back_25, e_Cell_back_26, e_Cell_back_29, e_Cell_back_30, e_Cell_back_31, e_Cell_back_34, e_Cell_back_35, e_Cell_back_36, e_Cell_back_39, e_Cell_back_40, e_Cell_back_43, e_Cell_back_46, alk_in, ask_in, blk_in, bsk_in, qlk_in, ack_in, rcv_in, rcA_in, bk_i, bk_l, bk_v, hS_same, hS_ne, hS_hS, hS_2, am_10, am_01, am_00, if_true, if_false, gf_5_0, pf_5_0, gf_5_1, pf_5_1, gf_5_2, pf_5_2, gf_5_3, pf_5_3, gf_5_4, pf_5_4, gf_5_5, pf_5_5, gf_5_6, pf_5_6, gf_5_7, pf_5_7, gf_11_0, pf_11_0, gf_11_1, pf_11_1, gf_11_2, pf_11_2, gf_11_3, pf_11_3, gf_11_4, pf_11_4, gf_11_5, pf_11_5, gf_11_6, pf_11_6, gf_11_7, pf_11_7, gf_11_8, pf_11_8, gf_11_9, pf_11_9, gf_11_10, pf_11_10, gf_11_11, pf_11_11, O, c1]
end Keep
