/-! next: the sound to try -/
def jbc (x : Int) : Int := jand (jand (jand (x - jand (jushr x 1) 1431655765) 858993459 + jand (jushr (x - jand (jushr x 1) 1431655765) 2) 858993459 + jushr (jand (x - jand (jushr x 1) 1431655765) 858993459 + jand (jushr (x - jand (jushr x 1) 1431655765) 2) 858993459) 4) 252645135 + jushr (jand (jand (x - jand (jushr x 1) 1431655765) 858993459 + jand (jushr (x - jand (jushr x 1) 1431655765) 2) 858993459 + jushr (jand (x - jand (jushr x 1) 1431655765) 858993459 + jand (jushr (x - jand (jushr x 1) 1431655765) 2) 858993459) 4) 252645135) 8 + jushr (jand (jand (x - jand (jushr x 1) 1431655765) 858993459 + jand (jushr (x - jand (jushr x 1) 1431655765) 2) 858993459 + jushr (jand (x - jand (jushr x 1) 1431655765) 858993459 + jand (jushr (x - jand (jushr x 1) 1431655765) 2) 858993459) 4) 252645135 + jushr (jand (jand (x - jand (jushr x 1) 1431655765) 858993459 + jand (jushr (x - jand (jushr x 1) 1431655765) 2) 858993459 + jushr (jand (x - jand (jushr x 1) 1431655765) 858993459 + jand (jushr (x - jand (jushr x 1) 1431655765) 2) 858993459) 4) 252645135) 8) 16) 63
def popk (x k : Nat) : Nat := match k with
  | 0 => 0
  | k + 1 => popk x k + if x.testBit k then 1 else 0
theorem jbc_s : ∀ x, x < 64 → jbc ((x : Nat) : Int) = ((popk x 6 : Nat) : Int) := by decide +kernel
theorem c_bitCount {h : am_H} {x : Nat} (hx : x < 64) : ev mInt_bitCount [vI (x : Int)] h = some (some (vI ((popk x 6 : Nat) : Int)), h) := by
  rw [ev_Int_bitCount, ← jbc_s x hx]
  simp (disch := omega) only [e_Int_bitCount_0, e_Int_bitCount_1, e_Int_bitCount_2, e_Int_bitCount_3, e_Int_bitCount_4, e_Int_bitCount_7, e_Int_bitCount_8, e_Int_bitCount_9, e_Int_bitCount_10, e_Int_bitCount_11, e_Int_bitCount_14, e_Int_bitCount_15, e_Int_bitCount_16, e_Int_bitCount_17, e_Int_bitCount_18, e_Int_bitCount_21, e_Int_bitCount_22, e_Int_bitCount_23, e_Int_bitCount_24, e_Int_bitCount_25, e_Int_bitCount_26, e_Int_bitCount_27, e_Int_bitCount_28, e_Int_bitCount_29, e_Int_bitCount_32, e_Int_bitCount_33, e_Int_bitCount_34, e_Int_bitCount_35, e_Int_bitCount_36, e_Int_bitCount_38, e_Int_bitCount_39, e_Int_bitCount_40, e_Int_bitCount_41, e_Int_bitCount_42, e_Int_bitCount_43, e_Int_bitCount_45, e_Int_bitCount_46, e_Int_bitCount_47, e_Int_bitCount_48, e_Int_bitCount_49, e_Int_bitCount_51, e_Int_bitCount_52]
  rfl
def cntA (b : Nat) (s p : Int) (k : Nat) : Int := match k with
  | 0 => 0
  | k + 1 => cntA b s p k + if b.testBit k = true ∧ fig (k : Int) s = p then 1 else 0
def mosA (b : Nat) (s : Int) (k : Nat) : Int := match k with
  | 0 => 0
  | k + 1 => if b.testBit k = true then (if mosA b s k < cntA b s (fig (k : Int) s) 4 then cntA b s (fig (k : Int) s) 4 else mosA b s k) else mosA b s k
def trA (b : Nat) (k : Nat) : Int × Int := match k with
  | 0 => (-9, 5)
  | k + 1 => if mosA b (k : Int) 4 < (trA b k).2 then ((k : Int), mosA b (k : Int) 4) else trA b k
def gre (b : Nat) (s : Int) (j : Nat) : Int := match j with
  | 0 => 0
  | j + 1 => if gre b s j < cntA b s ((j : Int) - 3) 4 then cntA b s ((j : Int) - 3) 4 else gre b s j
def trM (b : Nat) (k : Nat) : Int × Int := match k with
  | 0 => (-9, 99)
  | k + 1 => if gre b (k : Int) 8 < (trM b k).2 then ((k : Int), gre b (k : Int) 8) else trM b k
def aNext (b : Nat) : Int := if popk b 6 ≤ 1 then -9 else (trA b 5).1
theorem aNext_m : ∀ b, b < 16 → (if jand ((b : Nat) : Int) (((b : Nat) : Int) - 1) = 0 then -9 else (trM b 5).1) = aNext b := by decide +kernel
theorem cntA_b (b : Nat) (s p : Int) (k : Nat) : 0 ≤ cntA b s p k ∧ cntA b s p k ≤ k := by
  induction k with
  | zero => exact ⟨Int.le_refl 0, Int.le_refl 0⟩
  | succ k ih => unfold cntA; split <;> omega
theorem mosA_b (b : Nat) (s : Int) (k : Nat) : 0 ≤ mosA b s k ∧ mosA b s k ≤ 4 := by
  induction k with
  | zero => exact ⟨Int.le_refl 0, by show (0 : Int) ≤ 4; omega⟩
  | succ k ih =>
    have := cntA_b b s (fig (k : Int) s) 4
    unfold mosA
    repeat' split
    all_goals omega
theorem trA_b (b : Nat) (k : Nat) : 0 ≤ (trA b k).2 ∧ (trA b k).2 ≤ 5 := by
  induction k with
  | zero => exact ⟨by show (0 : Int) ≤ 5; omega, Int.le_refl _⟩
  | succ k ih =>
    have := mosA_b b (k : Int) 4
    unfold trA
    split
    · simp only; omega
    · exact ih
theorem gre_b (b : Nat) (s : Int) (k : Nat) : 0 ≤ gre b s k ∧ gre b s k ≤ 4 := by
  induction k with
  | zero => exact ⟨Int.le_refl 0, by show (0 : Int) ≤ 4; omega⟩
  | succ k ih =>
    have := cntA_b b s ((k : Int) - 3) 4
    unfold gre
    split <;> omega
theorem trM_b (b : Nat) (k : Nat) : 0 ≤ (trM b k).2 ∧ (trM b k).2 ≤ 99 := by
  induction k with
  | zero => exact ⟨by show (0 : Int) ≤ 99; omega, Int.le_refl _⟩
  | succ k ih =>
    have := gre_b b (k : Int) 8
    unfold trM
    split
    · simp only; omega
    · exact ih
section Next
variable {h : am_H} {b : Nat}
theorem l_countAlike (hb : b < 64) {s p : Int} (hs : rg32 s) (hp : rg32 p) : ∀ (d k : Nat), k + d = 4 → gv mSeen_countAlike 5 [vI (b : Int), vI s, vI p, vI (cntA b s p k), vI (k : Int)] [] h = some (some (vI (cntA b s p 4)), h) := by
  unfold rg32 at hs hp
  intro d
  induction d with
  | zero =>
    intro k hk
    have : k = 4 := by omega
    subst this
    rw [e_Seen_countAlike_5]
    simp (disch := omega) only [e_Seen_countAlike_0, e_Seen_countAlike_1, e_Seen_countAlike_2, e_Seen_countAlike_3, e_Seen_countAlike_7, e_Seen_countAlike_8, e_Seen_countAlike_11, e_Seen_countAlike_12, e_Seen_countAlike_14, e_Seen_countAlike_15, e_Seen_countAlike_16, e_Seen_countAlike_17, e_Seen_countAlike_18, e_Seen_countAlike_21, e_Seen_countAlike_23, e_Seen_countAlike_24, e_Seen_countAlike_27, e_Seen_countAlike_28, e_Seen_countAlike_31, e_Seen_countAlike_34, e_Seen_countAlike_37, e_Seen_countAlike_40, e_Seen_countAlike_41]
    rw [if_neg (by omega)]
  | succ d ih =>
    intro k hk
    have e1 := ih (k + 1) (by omega)
    have cf := c_figure (h := h) (a := (k : Int)) (s := s) hs
    have hf := fig_b (a := (k : Int)) (s := s) (by omega)
    have jb := jbit_s b hb k (by omega)
    have e0 : cntA b s p (k + 1) = cntA b s p k + if b.testBit k = true ∧ fig (k : Int) s = p then 1 else 0 := rfl
    rw [e_Seen_countAlike_5, ← e1, e0]
    by_cases q : b.testBit k = true
    · rw [q] at jb
      simp (disch := omega) only [e_Seen_countAlike_0, e_Seen_countAlike_1, e_Seen_countAlike_2, e_Seen_countAlike_3, e_Seen_countAlike_7, e_Seen_countAlike_8, e_Seen_countAlike_11, e_Seen_countAlike_12, e_Seen_countAlike_14, e_Seen_countAlike_15, e_Seen_countAlike_16, e_Seen_countAlike_17, e_Seen_countAlike_18, e_Seen_countAlike_21, e_Seen_countAlike_23, e_Seen_countAlike_24, e_Seen_countAlike_27, e_Seen_countAlike_28, e_Seen_countAlike_31, e_Seen_countAlike_34, e_Seen_countAlike_37, e_Seen_countAlike_40, e_Seen_countAlike_41, alk_in, ask_in, blk_in, bsk_in, qlk_in, ack_in, rcv_in, rcA_in, bk_i, bk_l, bk_v, hS_same, hS_ne, hS_hS, hS_2, am_10, am_01, am_00, if_true, if_false, jb, cf]
      rw [if_pos (by omega)]
      by_cases z : fig (k : Int) s = p
      · rw [if_pos z, if_pos ⟨q, z⟩]; rfl
      · rw [if_neg z, if_neg (fun y => z y.2), Int.add_zero]; rfl
    · simp only [Bool.not_eq_true] at q
      rw [q] at jb
      simp (disch := omega) only [e_Seen_countAlike_0, e_Seen_countAlike_1, e_Seen_countAlike_2, e_Seen_countAlike_3, e_Seen_countAlike_7, e_Seen_countAlike_8, e_Seen_countAlike_11, e_Seen_countAlike_12, e_Seen_countAlike_14, e_Seen_countAlike_15, e_Seen_countAlike_16, e_Seen_countAlike_17, e_Seen_countAlike_18, e_Seen_countAlike_21, e_Seen_countAlike_23, e_Seen_countAlike_24, e_Seen_countAlike_27, e_Seen_countAlike_28, e_Seen_countAlike_31, e_Seen_countAlike_34, e_Seen_countAlike_37, e_Seen_countAlike_40, e_Seen_countAlike_41, alk_in, ask_in, blk_in, bsk_in, qlk_in, ack_in, rcv_in, rcA_in, bk_i, bk_l, bk_v, hS_same, hS_ne, hS_hS, hS_2, am_10, am_01, am_00, if_true, if_false, jb, Bool.false_eq_true]
      rw [if_pos (by omega), if_neg (by rw [q]; simp), Int.add_zero]; rfl
theorem k_countAlike (hb : b < 64) {s p : Int} (hs : rg32 s) (hp : rg32 p) : ev mSeen_countAlike [vI (b : Int), vI s, vI p] h = some (some (vI (cntA b s p 4)), h) := by
  rw [ev_Seen_countAlike, e_Seen_countAlike_0, e_Seen_countAlike_1, e_Seen_countAlike_2, e_Seen_countAlike_3]
  exact l_countAlike hb hs hp 4 0 (by omega)
theorem l_mostAlike (hb : b < 64) {s : Int} (hs : rg32 s) : ∀ (d k : Nat), k + d = 4 → gv mSeen_mostAlike 4 [vI (b : Int), vI s, vI (mosA b s k), vI (k : Int)] [] h = some (some (vI (mosA b s 4)), h) := by
  intro d
  induction d with
  | zero =>
    intro k hk
    have : k = 4 := by omega
    subst this
    rw [e_Seen_mostAlike_4]
    simp (disch := omega) only [e_Seen_mostAlike_0, e_Seen_mostAlike_1, e_Seen_mostAlike_2, e_Seen_mostAlike_3, e_Seen_mostAlike_5, e_Seen_mostAlike_6, e_Seen_mostAlike_9, e_Seen_mostAlike_10, e_Seen_mostAlike_11, e_Seen_mostAlike_12, e_Seen_mostAlike_13, e_Seen_mostAlike_14, e_Seen_mostAlike_15, e_Seen_mostAlike_18, e_Seen_mostAlike_19, e_Seen_mostAlike_20, e_Seen_mostAlike_21, e_Seen_mostAlike_22, e_Seen_mostAlike_23, e_Seen_mostAlike_26, e_Seen_mostAlike_29, e_Seen_mostAlike_32, e_Seen_mostAlike_33, e_Seen_mostAlike_36, e_Seen_mostAlike_39, e_Seen_mostAlike_40]
    rw [if_neg (by omega)]
  | succ d ih =>
    intro k hk
    have e1 := ih (k + 1) (by omega)
    have cf := c_figure (h := h) (a := (k : Int)) (s := s) hs
    have hf := fig_b (a := (k : Int)) (s := s) (by omega)
    have cc := k_countAlike (h := h) hb hs (p := fig (k : Int) s) (by unfold rg32; omega)
    have hcb := cntA_b b s (fig (k : Int) s) 4
    have hmb := mosA_b b s k
    have jb := jbit_s b hb k (by omega)
    have e0 : mosA b s (k + 1) = if b.testBit k = true then (if mosA b s k < cntA b s (fig (k : Int) s) 4 then cntA b s (fig (k : Int) s) 4 else mosA b s k) else mosA b s k := rfl
    rw [e_Seen_mostAlike_4, ← e1, e0]
    by_cases q : b.testBit k = true
    · rw [q] at jb
      simp (disch := omega) only [e_Seen_mostAlike_0, e_Seen_mostAlike_1, e_Seen_mostAlike_2, e_Seen_mostAlike_3, e_Seen_mostAlike_5, e_Seen_mostAlike_6, e_Seen_mostAlike_9, e_Seen_mostAlike_10, e_Seen_mostAlike_11, e_Seen_mostAlike_12, e_Seen_mostAlike_13, e_Seen_mostAlike_14, e_Seen_mostAlike_15, e_Seen_mostAlike_18, e_Seen_mostAlike_19, e_Seen_mostAlike_20, e_Seen_mostAlike_21, e_Seen_mostAlike_22, e_Seen_mostAlike_23, e_Seen_mostAlike_26, e_Seen_mostAlike_29, e_Seen_mostAlike_32, e_Seen_mostAlike_33, e_Seen_mostAlike_36, e_Seen_mostAlike_39, e_Seen_mostAlike_40, alk_in, ask_in, blk_in, bsk_in, qlk_in, ack_in, rcv_in, rcA_in, bk_i, bk_l, bk_v, hS_same, hS_ne, hS_hS, hS_2, am_10, am_01, am_00, if_true, if_false, jb, cf, cc, q]
      rw [if_pos (by omega)]; rfl
    · simp only [Bool.not_eq_true] at q
      rw [q] at jb
      simp (disch := omega) only [e_Seen_mostAlike_0, e_Seen_mostAlike_1, e_Seen_mostAlike_2, e_Seen_mostAlike_3, e_Seen_mostAlike_5, e_Seen_mostAlike_6, e_Seen_mostAlike_9, e_Seen_mostAlike_10, e_Seen_mostAlike_11, e_Seen_mostAlike_12, e_Seen_mostAlike_13, e_Seen_mostAlike_14, e_Seen_mostAlike_15, e_Seen_mostAlike_18, e_Seen_mostAlike_19, e_Seen_mostAlike_20, e_Seen_mostAlike_21, e_Seen_mostAlike_22, e_Seen_mostAlike_23, e_Seen_mostAlike_26, e_Seen_mostAlike_29, e_Seen_mostAlike_32, e_Seen_mostAlike_33, e_Seen_mostAlike_36, e_Seen_mostAlike_39, e_Seen_mostAlike_40, alk_in, ask_in, blk_in, bsk_in, qlk_in, ack_in, rcv_in, rcA_in, bk_i, bk_l, bk_v, hS_same, hS_ne, hS_hS, hS_2, am_10, am_01, am_00, if_true, if_false, jb, Bool.false_eq_true, q]
      rw [if_pos (by omega)]; rfl
theorem k_mostAlike (hb : b < 64) {s : Int} (hs : rg32 s) : ev mSeen_mostAlike [vI (b : Int), vI s] h = some (some (vI (mosA b s 4)), h) := by
  rw [ev_Seen_mostAlike, e_Seen_mostAlike_0, e_Seen_mostAlike_1, e_Seen_mostAlike_2, e_Seen_mostAlike_3]
  exact l_mostAlike hb hs 4 0 (by omega)
theorem l_try (hb : b < 64) : ∀ (d k : Nat) (x : am_V), k + d = 5 → gv mSeen_soundToTry 24 [vR 25, vI (b : Int), vI (trA b k).1, vI (trA b k).2, vI (k : Int), x] [] h = some (some (vI (trA b 5).1), h) := by
  intro d
  induction d with
  | zero =>
    intro k x hk
    have : k = 5 := by omega
    subst this
    rw [e_Seen_soundToTry_24]
    simp (disch := omega) only [e_Seen_soundToTry_0, e_Seen_soundToTry_1, e_Seen_soundToTry_4, e_Seen_soundToTry_5, e_Seen_soundToTry_6, e_Seen_soundToTry_9, e_Seen_soundToTry_10, e_Seen_soundToTry_13, e_Seen_soundToTry_15, e_Seen_soundToTry_16, e_Seen_soundToTry_18, e_Seen_soundToTry_19, e_Seen_soundToTry_20, e_Seen_soundToTry_21, e_Seen_soundToTry_22, e_Seen_soundToTry_26, e_Seen_soundToTry_27, e_Seen_soundToTry_30, e_Seen_soundToTry_31, e_Seen_soundToTry_33, e_Seen_soundToTry_36, e_Seen_soundToTry_38, e_Seen_soundToTry_40, e_Seen_soundToTry_41, e_Seen_soundToTry_44, e_Seen_soundToTry_46, e_Seen_soundToTry_47, e_Seen_soundToTry_49, e_Seen_soundToTry_50, e_Seen_soundToTry_53, e_Seen_soundToTry_56, e_Seen_soundToTry_57]
    rw [if_neg (by omega)]
  | succ d ih =>
    intro k x hk
    have cm := k_mostAlike (h := h) hb (s := (k : Int)) (by unfold rg32; omega)
    have e1 := ih (k + 1) (vI (mosA b (k : Int) 4)) (by omega)
    have hmb := mosA_b b (k : Int) 4
    have htb := trA_b b k
    have e0 : trA b (k + 1) = if mosA b (k : Int) 4 < (trA b k).2 then ((k : Int), mosA b (k : Int) 4) else trA b k := rfl
    rw [e_Seen_soundToTry_24, ← e1, e0]
    simp (disch := omega) only [e_Seen_soundToTry_0, e_Seen_soundToTry_1, e_Seen_soundToTry_4, e_Seen_soundToTry_5, e_Seen_soundToTry_6, e_Seen_soundToTry_9, e_Seen_soundToTry_10, e_Seen_soundToTry_13, e_Seen_soundToTry_15, e_Seen_soundToTry_16, e_Seen_soundToTry_18, e_Seen_soundToTry_19, e_Seen_soundToTry_20, e_Seen_soundToTry_21, e_Seen_soundToTry_22, e_Seen_soundToTry_26, e_Seen_soundToTry_27, e_Seen_soundToTry_30, e_Seen_soundToTry_31, e_Seen_soundToTry_33, e_Seen_soundToTry_36, e_Seen_soundToTry_38, e_Seen_soundToTry_40, e_Seen_soundToTry_41, e_Seen_soundToTry_44, e_Seen_soundToTry_46, e_Seen_soundToTry_47, e_Seen_soundToTry_49, e_Seen_soundToTry_50, e_Seen_soundToTry_53, e_Seen_soundToTry_56, e_Seen_soundToTry_57, alk_in, ask_in, blk_in, bsk_in, qlk_in, ack_in, rcv_in, rcA_in, bk_i, bk_l, bk_v, hS_same, hS_ne, hS_hS, hS_2, am_10, am_01, am_00, if_true, if_false, cm]
    rw [if_pos (by omega)]
    by_cases z : mosA b (k : Int) 4 < (trA b k).2
    · rw [if_pos z, if_pos z]; rfl
    · rw [if_neg z, if_neg z]; rfl
theorem k_next {lo pc : Int} {k : Nat} {s v : Nat → Int} (O : CeO h lo pc) (E : CSe h k s v) (hw : WS k s v) : ev mCell_next [vR 1] h = some (some (vI (aNext (hrd s v k 4))), h) := by
  have c1 := k_hardBits E hw
  have hb := hrd_b s v k (a := 4) (by omega)
  have c2 := c_bitCount (h := h) hb
  have e1 := l_try (h := h) hb 5 0 vU (by omega)
  have c3 : ev mSeen_soundToTry [vR 25] h = some (some (vI (aNext (hrd s v k 4))), h) := by
    obtain ⟨s', v', E0, -⟩ := E
    have hp : ∀ x, x < 64 → popk x 6 < 7 := by decide +kernel
    have hp2 := hp _ hb
    rw [ev_Seen_soundToTry]
    unfold aNext
    simp (disch := omega) only [e_Seen_soundToTry_0, e_Seen_soundToTry_1, e_Seen_soundToTry_4, e_Seen_soundToTry_5, e_Seen_soundToTry_6, e_Seen_soundToTry_9, e_Seen_soundToTry_10, e_Seen_soundToTry_13, e_Seen_soundToTry_15, e_Seen_soundToTry_16, e_Seen_soundToTry_18, e_Seen_soundToTry_19, e_Seen_soundToTry_20, e_Seen_soundToTry_21, e_Seen_soundToTry_22, e_Seen_soundToTry_26, e_Seen_soundToTry_27, e_Seen_soundToTry_30, e_Seen_soundToTry_31, e_Seen_soundToTry_33, e_Seen_soundToTry_36, e_Seen_soundToTry_38, e_Seen_soundToTry_40, e_Seen_soundToTry_41, e_Seen_soundToTry_44, e_Seen_soundToTry_46, e_Seen_soundToTry_47, e_Seen_soundToTry_49, e_Seen_soundToTry_50, e_Seen_soundToTry_53, e_Seen_soundToTry_56, e_Seen_soundToTry_57, alk_in, ask_in, blk_in, bsk_in, qlk_in, ack_in, rcv_in, rcA_in, bk_i, bk_l, bk_v, hS_same, hS_ne, hS_hS, hS_2, am_10, am_01, am_00, if_true, if_false, E0, c1, c2]
    by_cases q : popk (hrd s v k 4) 6 ≤ 1
    · rw [if_neg (by omega), if_pos q]
    · rw [if_pos (by omega), if_neg q]
      exact e1
  unfold CeO at O
  obtain ⟨s', v', E0, -⟩ := E
  rw [ev_Cell_next]
  simp (disch := omega) only [e_Cell_next_0, e_Cell_next_1, e_Cell_next_4, e_Cell_next_7, alk_in, ask_in, blk_in, bsk_in, qlk_in, ack_in, rcv_in, rcA_in, bk_i, bk_l, bk_v, hS_same, hS_ne, hS_hS, hS_2, am_10, am_01, am_00, if_true, if_false, gf_6_0, pf_6_0, gf_6_1, pf_6_1, gf_6_2, pf_6_2, gf_11_0, pf_11_0, gf_11_1, pf_11_1, gf_11_2, pf_11_2, gf_11_3, pf_11_3, gf_11_4, pf_11_4, gf_11_5, pf_11_5, gf_11_6, pf_11_6, gf_11_7, pf_11_7, gf_11_8, pf_11_8, gf_11_9, pf_11_9, gf_11_10, pf_11_10, gf_11_11, pf_11_11, O, E0, c3]
end Next
