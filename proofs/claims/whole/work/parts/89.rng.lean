/-! what the answers may be, and what stays so -/
theorem jand31 (x : Int) : 0 ≤ jand x 31 ∧ jand x 31 ≤ 31 := by
  have e : jand x 31 = ((Int32.ofInt x).toBitVec &&& (Int32.ofInt 31).toBitVec).toInt := rfl
  have n31 : (Int32.ofInt 31).toBitVec.toNat = 31 := by decide
  have l : ((Int32.ofInt x).toBitVec &&& (Int32.ofInt 31).toBitVec).toNat ≤ 31 := by
    rw [BitVec.toNat_and, n31]
    exact Nat.and_le_right
  rw [e, BitVec.toInt_eq_toNat_of_lt (by omega)]
  omega
/-- what is so of the gaol, the past, images, the text, what was seen -/
def PI (G : Gl) (Z : St) (L : Nat) (f : Nat → Int) (im : Nat → Option Tm) (kk : Nat) (s v : Nat → Int) : Prop := WT G Z.1 ∧ (0 ≤ Z.1.1 ∧ Z.1.1 ≤ 999) ∧ Z.2.1 ≤ 10 ∧ (∀ i, i < Z.2.1 → WT G (Z.2.2 i) ∧ 0 ≤ (Z.2.2 i).1 ∧ (Z.2.2 i).1 ≤ 999) ∧ (∀ i T, im i = some T → WT G T ∧ 0 ≤ T.1 ∧ T.1 ≤ 999) ∧ L ≤ 120 ∧ (∀ j, j < L → 0 ≤ f j ∧ f j ≤ 255) ∧ WS kk s v ∧ (1 ≤ G.2.2.1 ∧ G.2.2.1 ≤ 3)
section Rng
variable {G : Gl} {Z : St} {L : Nat} {f : Nat → Int} {im : Nat → Option Tm} {kk : Nat} {s v : Nat → Int}
theorem PI.dop (p : PI G Z L f im kk s v) {T : Tm} (hw : WT G T) (ht : 0 ≤ T.1 ∧ T.1 ≤ 999) : PI G (doP Z T) L f im kk s v := by
  obtain ⟨p1, p2, p3, p4, p5, p6⟩ := p
  refine ⟨hw, ht, pushP_le p3, fun i hi => ?_, p5, p6⟩
  unfold doP at hi ⊢
  simp only at hi ⊢
  unfold pushP at hi ⊢
  by_cases q : 10 ≤ Z.2.1
  · rw [if_pos q] at hi ⊢
    simp only at hi ⊢
    by_cases r : i = 9
    · rw [if_pos r]; exact ⟨p1, p2⟩
    · rw [if_neg r]; exact p4 (i + 1) (by omega)
  · rw [if_neg q] at hi ⊢
    simp only at hi ⊢
    by_cases r : i = Z.2.1
    · rw [if_pos r]; exact ⟨p1, p2⟩
    · rw [if_neg r]; exact p4 i (by omega)
theorem PI.mon (p : PI G Z L f im kk s v) : PI G (nMon G Z) L f im kk s v := by
  unfold nMon
  by_cases q : 999 ≤ Z.1.1
  · rw [if_pos q]; exact p
  · rw [if_neg q]
    have hz := p.2.1
    exact p.dop (Wf.pass p.1) (by unfold monT; simp only; omega)
theorem PI.mov (p : PI G Z L f im kk s v) (m x : Int) : PI G (nMov G Z m x) L f im kk s v := by
  unfold nMov
  by_cases q : cMov G Z.1 m x
  · rw [if_pos q]
    refine p.dop (Wf.mov p.1 m.toNat q.1.2 (fun j hj e => ?_)) p.2.1
    rcases who_range G.1 Z.1.2.1 x with ⟨-, h2⟩ | ⟨i, -, h2, -⟩
    · exact absurd e (h2 j hj)
    · have := q.2.2; omega
  · rw [if_neg q]; exact p
theorem PI.fei (p : PI G Z L f im kk s v) (m x : Int) : PI G (nFei G Z m x) L f im kk s v := by
  unfold nFei
  by_cases q : cFei G Z.1 m x
  · rw [if_pos q]
    exact p.dop (Wf.fei p.1 m.toNat q.1.2) p.2.1
  · rw [if_neg q]; exact p
theorem PI.und (p : PI G Z L f im kk s v) : PI G (nUnd Z) L f im kk s v := by
  unfold nUnd
  by_cases q : Z.2.1 = 0
  · rw [if_pos q]; exact p
  · rw [if_neg q]
    obtain ⟨p1, p2, p3, p4, p5⟩ := p
    have w := p4 (Z.2.1 - 1) (by omega)
    exact ⟨w.1, w.2, by simp only; omega, fun i hi => p4 i (by simp only at hi; omega), p5⟩
theorem PI.kee (p : PI G Z L f im kk s v) (i : Int) : PI G Z L f (nKeep im Z.1 i) kk s v := by
  obtain ⟨p1, p2, p3, p4, p5, p6⟩ := p
  refine ⟨p1, p2, p3, p4, fun j T e => ?_, p6⟩
  unfold nKeep at e
  by_cases q : (0 ≤ i ∧ i < 2) ∧ (j : Int) = i
  · rw [if_pos q] at e; cases e; exact ⟨p1, p2⟩
  · rw [if_neg q] at e; exact p5 j T e
theorem PI.bac (p : PI G Z L f im kk s v) (i : Int) : PI G (nBack im Z.1 i, nBackP im Z.2.1 i, Z.2.2) L f im kk s v := by
  obtain ⟨p1, p2, p3, p4, p5, p6⟩ := p
  unfold nBack nBackP
  by_cases q : 0 ≤ i ∧ i < 2
  · rw [if_pos q, if_pos q]
    cases e : im i.toNat with
    | none => exact ⟨p1, p2, p3, p4, p5, p6⟩
    | some U =>
      have w := p5 _ U e
      exact ⟨w.1, w.2, by simp only; omega, fun j hj => by simp only at hj; omega, p5, p6⟩
  · rw [if_neg q, if_neg q]; exact ⟨p1, p2, p3, p4, p5, p6⟩
theorem PI.typ (p : PI G Z L f im kk s v) (x : Int) : PI G Z (nType L f x).1 (nType L f x).2 im kk s v := by
  obtain ⟨p1, p2, p3, p4, p5, p6, p7, p8⟩ := p
  unfold nType
  by_cases q : (0 ≤ x ∧ x ≤ 255) ∧ L < 120
  · rw [if_pos q]
    refine ⟨p1, p2, p3, p4, p5, by simp only; omega, fun j hj => ?_, p8⟩
    simp only at hj ⊢
    by_cases r : j = L
    · rw [if_pos r]; exact q.1
    · rw [if_neg r]; exact p7 j (by omega)
  · rw [if_neg q]; exact ⟨p1, p2, p3, p4, p5, p6, p7, p8⟩
theorem PI.see (p : PI G Z L f im kk s v) (x y : Int) : PI G Z L f im (nSees kk s v x y).1 (nSees kk s v x y).2.1 (nSees kk s v x y).2.2 := by
  obtain ⟨p1, p2, p3, p4, p5, p6, p7, p8, p9⟩ := p
  unfold nSees
  by_cases q : ((0 ≤ x ∧ x ≤ 4) ∧ -3 ≤ y ∧ y ≤ 4) ∧ kk < 6
  · rw [if_pos q]
    refine ⟨p1, p2, p3, p4, p5, p6, p7, ⟨by simp only; omega, fun j hj => ?_⟩, p9⟩
    simp only at hj ⊢
    by_cases r : j = kk
    · rw [if_pos r, if_pos r]; exact q.1
    · rw [if_neg r, if_neg r]; exact p8.2 j (by omega)
  · rw [if_neg q]; exact ⟨p1, p2, p3, p4, p5, p6, p7, p8, p9⟩
theorem rdA_r {tE tS : Nat → Nat} {tC tN : Nat → Int} (K : TkO L tE tS tC tN) : ∀ (d p : Nat) (D : Dr), p ≤ L → D.2.2.2 ≤ p → DrO D → match rdA tE tS tC tN d D p with
    | .inl q => q ≤ L
    | .inr D' => D'.2.2.2 ≤ L := by
  intro d
  induction d with
  | zero => intro p D hp _ _; exact Nat.zero_le _
  | succ d ih =>
    intro p D hp hI hD
    unfold rdA
    by_cases c0 : tC p = 0
    · rw [if_pos c0]; simp only; omega
    · rw [if_neg c0]
      have ok := rdI_ok K hp hD c0
      cases e : rdI tE tS tC tN D p with
      | inl q => rw [e] at ok; exact ok
      | inr r =>
        rw [e] at ok
        obtain ⟨D', p'⟩ := r
        simp only at ok ⊢
        have w := rdI_it e
        exact ih p' D' ok.2.1 (by omega) ok.2.2.1
theorem rdT_r (hf : ∀ j, j < L → 0 ≤ f j ∧ f j ≤ 255) : match rdT L f with
    | .inl q => q ≤ L
    | .inr D' => D'.2.2.2 ≤ L := rdA_r (tk_ok hf) (L + 1) 0 D0 (Nat.zero_le _) (Nat.zero_le _) D0_ok
theorem PI.gao (p : PI G Z L f im kk s v) {D : Dr} (hD : DrO D) : PI D.1 (D.2.1, 0, Z.2.2) 0 f (fun _ => none) 0 s v := by
  refine ⟨hD.1, by rw [show (D.2.1, 0, Z.2.2).1.1 = D.2.1.1 from rfl, hD.2.1]; omega, by simp only; omega, fun i hi => by simp only at hi; omega, fun i T e => (by cases e), by omega, fun j hj => by omega, ⟨by omega, fun j hj => by omega⟩, hD.2.2.2.1⟩
/-! the answers fit an int -/
theorem r_type (hL : L ≤ 120) (x : Int) : rg32 (aType L x) := by
  unfold aType rg32
  split
  · split <;> omega
  · omega
theorem r_man {T : Tm} (hw : WT G T) (m w : Int) : rg32 (aMan G T m w) := by
  have hn := hw.1
  have hc := hw.2.2.1
  unfold aMan rg32
  by_cases q : 0 ≤ m ∧ m < G.1
  · rw [if_pos q]
    have a := hw.2.2.2.1 m.toNat (by omega)
    have b := nbk_b T.2.1 m.toNat hn
    have c := outF_r G.1 T.2.2.1 G.2.2.2 m.toNat 61 0 T.2.1 T.2.2.2
    repeat' split
    all_goals omega
  · rw [if_neg q]; omega
theorem r_cell {T : Tm} (hw : WT G T) (x : Int) : rg32 (aCell G T x) := by
  have hn := hw.1
  have b := who_b G.1 T.2.1 x
  unfold aCell rg32
  split <;> omega
theorem r_now {T : Tm} (hw : WT G T) (ht : 0 ≤ T.1 ∧ T.1 ≤ 999) {k : Nat} (hk : k ≤ 10) (w : Int) : rg32 (aNow G T k w) := by
  have hn := hw.1
  have b := btn_b T.2.1 hn
  have c := sye_b (g := T.2.2.2) (k := G.1) (fun i hi => by have := hw.2.2.2.1 i hi; omega)
  have l1 := lies_r G T
  have l2 := lies_u G T hn
  unfold aNow rg32
  repeat' split
  all_goals omega
theorem r_mon {T : Tm} (hw : WT G T) : rg32 (aMon G T) := by
  have hn := hw.1
  have b := pfr_b G.1 T.2.1 T.2.2.1 G.2.2.2 T.2.2.2 G.1
  unfold aMon rg32
  split <;> omega
theorem r_mov {T : Tm} (hw : WT G T) (m x : Int) : rg32 (aMov G T m x) := by
  have hn := hw.1
  have hc := hw.2.2.1
  unfold aMov rg32
  by_cases q : (0 ≤ m ∧ m < G.1) ∧ 0 ≤ x ∧ x < G.2.1
  · rw [if_pos q]
    have a := hw.2.2.2.1 m.toNat (by omega)
    split <;> omega
  · rw [if_neg q]; omega
theorem r_fei {T : Tm} (hw : WT G T) (m x : Int) : rg32 (aFei G T m x) := by
  have hn := hw.1
  unfold aFei rg32
  by_cases q : (0 ≤ m ∧ m < G.1) ∧ 0 ≤ x ∧ x ≤ 4
  · rw [if_pos q]
    have a := hw.2.2.2.1 m.toNat (by omega)
    split <;> omega
  · rw [if_neg q]; omega
theorem r_und (hk : Z.2.1 ≤ 10) : rg32 (aUnd Z) := by
  unfold aUnd rg32
  split <;> omega
theorem r_bri {T : Tm} (hw : WT G T) (m : Int) : rg32 (aBrings G T m) := by
  have hn := hw.1
  unfold aBrings rg32
  by_cases q : 0 ≤ m ∧ m < G.1
  · rw [if_pos q]
    have a := hw.2.2.2.1 m.toNat (by omega)
    have b := aft_b G.1 T.2.1 T.2.2.1 G.2.2.2 T.2.2.2 m.toNat
    split <;> omega
  · rw [if_neg q]; omega
theorem r_aSn {c : Nat → Int} (hc : CR c) (w : Int) {k : Nat} (hk : k ≤ 100) : rg32 (aSn w c k) := by
  have b := sn_b hc k
  unfold aSn sn2 rg32
  repeat' split
  all_goals omega
theorem r_put (T : Tm) (m w : Int) : rg32 (aPut G T m w) := by
  have b := r_aSn (candS_r G T m.toNat) w (k := 5) (by omega)
  unfold rg32 at b
  unfold aPut rg32
  repeat' split
  all_goals omega
theorem r_car {T : Tm} (hw : WT G T) (m w : Int) : rg32 (aCar G T m w) := by
  have hc := hw.2.2.1
  have b := r_aSn (candC_r G T m.toNat) w (k := G.2.1) (by omega)
  unfold rg32 at b
  unfold aCar rg32
  repeat' split
  all_goals omega
theorem srch_way {k : Nat} {M so ha ye : Nat → Int} (hk : k ≤ 6) : ∀ (d : Nat) (w bw : Nat → Int) (b : Int), (∀ i, i < 6 → 0 ≤ w i ∧ w i ≤ 8) → (∀ i, i < 6 → 0 ≤ bw i ∧ bw i ≤ 8) → ∀ i, i < 6 → 0 ≤ (srch k M so ha ye d w bw b).2 i ∧ (srch k M so ha ye d w bw b).2 i ≤ 8 := by
  intro d
  induction d with
  | zero => intro w bw b _ hb; exact hb
  | succ d ih =>
    intro w bw b hw hb
    unfold srch
    cases e : nxt k w with
    | none => exact hb
    | some g =>
      have p6 := nxt_prm hk e
      have hg : ∀ i, i < 6 → 0 ≤ g i ∧ g i ≤ 8 := fun i hi => by
        obtain ⟨j, hj, z⟩ := p6.1 i hi
        rw [z]; exact hw j hj
      simp only
      by_cases q : yb k M so ha ye g < b
      · rw [if_pos q]; exact ih g g _ hg hg
      · rw [if_neg q]; exact ih g bw b hg hb
theorem r_lies {T : Tm} (hw : WT G T) (m : Int) : rg32 (aLies G T m) := by
  have hn := hw.1
  have kl : lK G.1 (trn G.1 T.2.1) ≤ G.1 := gm_le _ _ _
  have hW := gc_r G.1 (trn G.1 T.2.1) (fun _ => 0) (b := 8) (fun j hj => by omega) 9 (by omega)
  have sw := srch_way (k := lK G.1 (trn G.1 T.2.1)) (M := lM G.1 (trn G.1 T.2.1)) (so := trn G.1 T.2.2.1) (ha := trn G.1 G.2.2.2) (ye := trn G.1 T.2.2.2) (by omega) 719 (lW G.1 (trn G.1 T.2.1)) (lW G.1 (trn G.1 T.2.1)) (yb (lK G.1 (trn G.1 T.2.1)) (lM G.1 (trn G.1 T.2.1)) (trn G.1 T.2.2.1) (trn G.1 G.2.2.2) (trn G.1 T.2.2.2) (lW G.1 (trn G.1 T.2.1))) hW hW
  unfold aLies rg32
  by_cases q : 0 ≤ m ∧ m < G.1
  · rw [if_pos q]
    rcases who_range (lK G.1 (trn G.1 T.2.1)) (lM G.1 (trn G.1 T.2.1)) m with ⟨h1, -⟩ | ⟨j, h1, h2, -⟩
    · rw [if_pos h1]; omega
    · rw [if_neg (by omega), h2, Int.toNat_natCast]
      have z := sw j (by omega)
      have z' : 0 ≤ (lieG G T).2 j ∧ (lieG G T).2 j ≤ 8 := z
      omega
  · rw [if_neg q]; omega
theorem r_sees (hk : kk ≤ 6) (x y : Int) : rg32 (aSees kk x y) := by
  unfold aSees rg32
  repeat' split
  all_goals omega
theorem r_rate {T : Tm} (hw : WT G T) (ht : 0 ≤ T.1 ∧ T.1 ≤ 999) (kd m : Int) : rg32 (aRate G T kd m) := by
  have hn := hw.1
  have hc := hw.2.2.1
  unfold aRate rg32
  by_cases q : (0 ≤ kd ∧ kd ≤ 5) ∧ 0 ≤ m ∧ m < G.1
  · rw [if_pos q]
    have a := hw.2.2.2.1 m.toNat (by omega)
    simp only
    repeat' split
    all_goals omega
  · rw [if_neg q]; omega
theorem r_keep {T : Tm} (ht : 0 ≤ T.1 ∧ T.1 ≤ 999) (i : Int) : rg32 (aKeep T i) := by
  unfold aKeep rg32
  split <;> omega
theorem r_back (p : PI G Z L f im kk s v) (i : Int) : rg32 (aBack im i) := by
  unfold aBack rg32
  by_cases q : 0 ≤ i ∧ i < 2
  · rw [if_pos q]
    cases e : im i.toNat with
    | none => simp only; omega
    | some U =>
      have w := (p.2.2.2.2.1 _ U e).2
      simp only; omega
  · rw [if_neg q]; omega
theorem r_count (hw : WT G Z.1) (hL : L ≤ 120) (hk : kk ≤ 6) (hlo : 1 ≤ G.2.2.1 ∧ G.2.2.1 ≤ 3) (w : Int) : rg32 (aCount L G kk w) := by
  have hn := hw.1
  have hc := hw.2.2.1
  unfold aCount rg32
  repeat' split
  all_goals omega
theorem r_next (b : Nat) : rg32 (aNext b) := by
  have key : ∀ k, -9 ≤ (trA b k).1 ∧ (trA b k).1 ≤ k := by
    intro k
    induction k with
    | zero =>
      show -9 ≤ (-9 : Int) ∧ (-9 : Int) ≤ ((0 : Nat) : Int)
      omega
    | succ k ih =>
      unfold trA
      split
      · simp only; omega
      · omega
  have z := key 5
  unfold aNext rg32
  split <;> omega
theorem r_word (T : Tm) (a b : Int) : rg32 (aWord G T a b) := by
  have key : ∀ (W : Nat → Nat) (b d t : Nat), fw W b t d = -9 ∨ 0 ≤ fw W b t d ∧ fw W b t d ≤ t + d := by
    intro W b d
    induction d with
    | zero => intro t; exact Or.inl rfl
    | succ d ih =>
      intro t
      have := ih (t + 1)
      unfold fw
      split <;> omega
  have z := key (WdI G.1 T.2.1 G.2.2.1.toNat a.toNat) b.toNat 5 1
  unfold aWord rg32
  repeat' split
  all_goals omega
theorem gcF_0 : ∀ (f : Nat) (a b : Int), 0 ≤ a → 0 ≤ b → 0 ≤ gcF f a b := by
  intro f
  induction f with
  | zero => intro a b ha _; exact ha
  | succ f ih =>
    intro a b ha hb
    unfold gcF
    split
    · exact ha
    · exact ih _ _ hb (Int.emod_nonneg _ (by omega))
theorem r_odds (T : Tm) (m x n w : Int) : rg32 (aOdds G T m x n w) := by
  unfold aOdds
  by_cases q : (0 ≤ m ∧ m < G.1) ∧ (0 ≤ x ∧ x ≤ 10) ∧ (0 ≤ n ∧ n ≤ 6) ∧ (w = 0 ∨ w = 1)
  · rw [if_pos q]
    have hn : n.toNat ≤ 6 := by omega
    have p10 := pwr_10 hn
    have up := upS_b G T m.toNat q.2.1 hn (2 ^ n.toNat)
    have p2 : 2 ^ n.toNat ≤ 64 := by
      have : n.toNat = 0 ∨ n.toNat = 1 ∨ n.toNat = 2 ∨ n.toNat = 3 ∨ n.toNat = 4 ∨ n.toNat = 5 ∨ n.toNat = 6 := by omega
      rcases this with z | z | z | z | z | z | z <;> rw [z] <;> decide
    generalize hN : 2 ^ n.toNat = N at *
    have g0 := gcF_0 64 (upS G T m.toNat x n.toNat N) (pwr 10 n.toNat) up.1 (by omega)
    generalize gcF 64 (upS G T m.toNat x n.toNat N) (pwr 10 n.toNat) = g at *
    have key : ∀ a : Int, 0 ≤ a → a ≤ 64000000 → rg32 (a / g) := by
      intro a ha hb
      have l1 := Int.ediv_nonneg ha g0
      have l2 := Int.ediv_le_self g ha
      unfold rg32
      omega
    split
    · exact key _ up.1 (by omega)
    · exact key _ (by omega) (by omega)
  · rw [if_neg q]; unfold rg32; omega
end Rng
