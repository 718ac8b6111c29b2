/-! word -/
def bw (n : Nat) (ce : Nat → Int) (x : Int) (k : Nat) : Nat := match k with
  | 0 => 0
  | k + 1 => bw n ce x k ||| bto (who n ce (x + k))
def tok (n : Nat) (ce : Nat → Int) (l : Nat) (B : Nat) (k : Nat) : Nat := match k with
  | 0 => B
  | k + 1 => if B.testBit k = true then tok n ce l B k ||| bw n ce (ce k - l) (2 * l + 1) else tok n ce l B k
def WdI (n : Nat) (ce : Nat → Int) (l a k : Nat) : Nat := match k with
  | 0 => 2 ^ a
  | k + 1 => tok n ce l (WdI n ce l a k) n
def fw (W : Nat → Nat) (b t d : Nat) : Int := match d with
  | 0 => -9
  | d + 1 => if (W t).testBit b = true then (t : Int) else fw W b (t + 1) d
def BI (n : Nat) (ce : Nat → Int) (B : Nat) : Prop := B < 64 ∧ ∀ j, B.testBit j = true → j < n ∧ ¬ ce j = -9
def aWord (G : Gl) (T : Tm) (a b : Int) : Int := if (0 ≤ a ∧ a < G.1) ∧ (0 ≤ b ∧ b < G.1) ∧ ¬ a = b then (if ¬ T.2.1 a.toNat = -9 ∧ ¬ T.2.1 b.toNat = -9 then fw (WdI G.1 T.2.1 G.2.2.1.toNat a.toNat) b.toNat 1 5 else -9) else -1
theorem bw_b (n : Nat) (ce : Nat → Int) (x : Int) (hn : n ≤ 6) (k : Nat) : bw n ce x k < 64 := by
  induction k with
  | zero => exact Nat.zero_lt_succ _
  | succ k ih => exact or_b ih (bto_b hn)
theorem bto_bit {n c : Nat} {ce so ha ye : Nat → Int} (hw : Wf n c ce so ha ye) {y : Int} (hy : ¬ y = -9) (j : Nat) : (bto (who n ce y)).testBit j = true ↔ j < n ∧ ce j = y := by
  unfold bto
  rcases who_range n ce y with ⟨h1, h2⟩ | ⟨i, h1, h2, h3⟩
  · rw [if_pos h1]
    simp only [Nat.zero_testBit, Bool.false_eq_true, false_iff]
    intro z
    exact h2 j z.1 z.2
  · rw [if_neg (by omega), h2, Int.toNat_natCast, Nat.testBit_two_pow, decide_eq_true_iff]
    constructor
    · intro e
      subst e
      exact ⟨h1, h3⟩
    · intro z
      exact hw.2.2.2.2 i j h1 z.1 (by rw [h3, z.2]) (by omega)
theorem bw_bit {n c : Nat} {ce so ha ye : Nat → Int} (hw : Wf n c ce so ha ye) {x : Int} (hx : -8 ≤ x) (j : Nat) : ∀ k : Nat, (bw n ce x k).testBit j = true ↔ j < n ∧ x ≤ ce j ∧ ce j < x + k := by
  intro k
  induction k with
  | zero =>
    unfold bw
    simp only [Nat.zero_testBit, Bool.false_eq_true, false_iff]
    omega
  | succ k ih =>
    have e : bw n ce x (k + 1) = bw n ce x k ||| bto (who n ce (x + k)) := rfl
    rw [e, Nat.testBit_or, Bool.or_eq_true, ih, bto_bit hw (by omega)]
    omega
theorem tok_b (n : Nat) (ce : Nat → Int) (l B : Nat) (hn : n ≤ 6) (hB : B < 64) (k : Nat) : tok n ce l B k < 64 := by
  induction k with
  | zero => exact hB
  | succ k ih =>
    unfold tok
    split
    · exact or_b ih (bw_b n ce _ hn _)
    · exact ih
theorem tok_I {n c : Nat} {ce so ha ye : Nat → Int} (hw : Wf n c ce so ha ye) {l B : Nat} (hl : l ≤ 3) (hB : BI n ce B) (k : Nat) : BI n ce (tok n ce l B k) := by
  refine ⟨tok_b n ce l B hw.1 hB.1 k, ?_⟩
  induction k with
  | zero => exact hB.2
  | succ k ih =>
    intro j
    unfold tok
    by_cases q : B.testBit k = true
    · rw [if_pos q, Nat.testBit_or, Bool.or_eq_true]
      have z := hB.2 k q
      have y := (hw.2.2.2.1 k z.1).1
      intro r
      rcases r with r | r
      · exact ih j r
      · have := (bw_bit hw (by omega) j _).mp r
        exact ⟨this.1, by omega⟩
    · rw [if_neg q]
      exact ih j
theorem WdI_I {n c : Nat} {ce so ha ye : Nat → Int} (hw : Wf n c ce so ha ye) {l a : Nat} (hl : l ≤ 3) (ha : a < n) (hi : ¬ ce a = -9) (k : Nat) : BI n ce (WdI n ce l a k) := by
  induction k with
  | zero =>
    have := hw.1
    refine ⟨pw_b (by omega), fun j => ?_⟩
    unfold WdI
    rw [Nat.testBit_two_pow, decide_eq_true_iff]
    intro e
    subst e
    exact ⟨ha, hi⟩
  | succ k ih => exact tok_I hw hl ih n
section Word
variable {h : am_H} {b n c : Nat} {t : Int} {ce so ha ye : Nat → Int}
theorem l_bitsWithin (S : RepS h b n c t ce so ha ye) (hw : Wf n c ce so ha ye) {i l : Nat} (hi : i < n) (hl : l ≤ 3) (hin : ¬ ce i = -9) : ∀ (d k : Nat), k + d = 2 * l + 1 → gv mScene_bitsWithin 12 [vR b, vI (i : Int), vI (l : Int), vI ((bw n ce (ce i - l) k : Nat) : Int), vI (ce i - (l : Int) + (k : Int))] [] h = some (some (vI ((bw n ce (ce i - l) (2 * l + 1) : Nat) : Int)), h) := by
  have hn := hw.1
  have hc9 := hw.2.2.1
  have hwi := (hw.2.2.2.1 i hi).1
  have S0 := S
  obtain ⟨ce', so', ha', ye', ic, ⟨s0, s1, s2, s3, s4, s5⟩, r1, r2⟩ := S
  have z := (r1 i hi).1
  intro d
  induction d with
  | zero =>
    intro k hk
    have : k = 2 * l + 1 := by omega
    subst this
    rw [e_Scene_bitsWithin_12]
    simp (disch := omega) only [e_Scene_bitsWithin_0, e_Scene_bitsWithin_1, e_Scene_bitsWithin_2, e_Scene_bitsWithin_3, e_Scene_bitsWithin_6, e_Scene_bitsWithin_7, e_Scene_bitsWithin_8, e_Scene_bitsWithin_9, e_Scene_bitsWithin_10, e_Scene_bitsWithin_14, e_Scene_bitsWithin_15, e_Scene_bitsWithin_18, e_Scene_bitsWithin_19, e_Scene_bitsWithin_20, e_Scene_bitsWithin_21, e_Scene_bitsWithin_22, e_Scene_bitsWithin_25, e_Scene_bitsWithin_26, e_Scene_bitsWithin_27, e_Scene_bitsWithin_29, e_Scene_bitsWithin_32, e_Scene_bitsWithin_35, e_Scene_bitsWithin_36, e_Scene_bitsWithin_37, e_Scene_bitsWithin_40, e_Scene_bitsWithin_43, e_Scene_bitsWithin_44, alk_in, ask_in, blk_in, bsk_in, qlk_in, ack_in, rcv_in, rcA_in, bk_i, bk_l, bk_v, hS_same, hS_ne, hS_hS, hS_2, am_10, am_01, am_00, if_true, if_false, gf_5_0, pf_5_0, gf_5_1, pf_5_1, gf_5_2, pf_5_2, gf_5_3, pf_5_3, gf_5_4, pf_5_4, gf_5_5, pf_5_5, gf_5_6, pf_5_6, gf_5_7, pf_5_7, s0, s1, Int.toNat_natCast, z]
    rw [if_pos (by omega)]
  | succ d ih =>
    intro k hk
    have e1 := ih (k + 1) (by omega)
    have c1 := d_whoIn S0 hw (x := ce i - (l : Int) + (k : Int)) (by omega) (by omega)
    have wb := who_b n ce (ce i - (l : Int) + (k : Int))
    have ws := who_s n ce (ce i - (l : Int) + (k : Int))
    have c2 := d_bitOf (h := h) (x := who n ce (ce i - (l : Int) + (k : Int))) (by omega) ws
    have jo := jor_s _ (bw_b n ce (ce i - l) hn k) _ (bto_b (n := n) (ce := ce) (x := ce i - (l : Int) + (k : Int)) hn)
    have e0 : bw n ce (ce i - l) (k + 1) = bw n ce (ce i - l) k ||| bto (who n ce (ce i - l + k)) := rfl
    rw [e_Scene_bitsWithin_12, ← e1, e0, ← jo]
    simp (disch := omega) only [e_Scene_bitsWithin_0, e_Scene_bitsWithin_1, e_Scene_bitsWithin_2, e_Scene_bitsWithin_3, e_Scene_bitsWithin_6, e_Scene_bitsWithin_7, e_Scene_bitsWithin_8, e_Scene_bitsWithin_9, e_Scene_bitsWithin_10, e_Scene_bitsWithin_14, e_Scene_bitsWithin_15, e_Scene_bitsWithin_18, e_Scene_bitsWithin_19, e_Scene_bitsWithin_20, e_Scene_bitsWithin_21, e_Scene_bitsWithin_22, e_Scene_bitsWithin_25, e_Scene_bitsWithin_26, e_Scene_bitsWithin_27, e_Scene_bitsWithin_29, e_Scene_bitsWithin_32, e_Scene_bitsWithin_35, e_Scene_bitsWithin_36, e_Scene_bitsWithin_37, e_Scene_bitsWithin_40, e_Scene_bitsWithin_43, e_Scene_bitsWithin_44, alk_in, ask_in, blk_in, bsk_in, qlk_in, ack_in, rcv_in, rcA_in, bk_i, bk_l, bk_v, hS_same, hS_ne, hS_hS, hS_2, am_10, am_01, am_00, if_true, if_false, gf_5_0, pf_5_0, gf_5_1, pf_5_1, gf_5_2, pf_5_2, gf_5_3, pf_5_3, gf_5_4, pf_5_4, gf_5_5, pf_5_5, gf_5_6, pf_5_6, gf_5_7, pf_5_7, s0, s1, Int.toNat_natCast, z, c1, c2]
    rw [if_neg (by omega), show ce i - (l : Int) + (k : Int) + 1 = ce i - (l : Int) + ((k + 1 : Nat) : Int) by omega]
theorem d_bitsWithin (S : RepS h b n c t ce so ha ye) (hw : Wf n c ce so ha ye) {i l : Nat} (hi : i < n) (hl : l ≤ 3) (hin : ¬ ce i = -9) : ev mScene_bitsWithin [vR b, vI (i : Int), vI (l : Int)] h = some (some (vI ((bw n ce (ce i - l) (2 * l + 1) : Nat) : Int)), h) := by
  have e := l_bitsWithin S hw hi hl hin (2 * l + 1) 0 (by omega)
  have hn := hw.1
  obtain ⟨ce', so', ha', ye', ic, ⟨s0, s1, s2, s3, s4, s5⟩, r1, r2⟩ := S
  have z := (r1 i hi).1
  rw [ev_Scene_bitsWithin, ← e]
  simp (disch := omega) only [e_Scene_bitsWithin_0, e_Scene_bitsWithin_1, e_Scene_bitsWithin_2, e_Scene_bitsWithin_3, e_Scene_bitsWithin_6, e_Scene_bitsWithin_7, e_Scene_bitsWithin_8, e_Scene_bitsWithin_9, e_Scene_bitsWithin_10, e_Scene_bitsWithin_14, e_Scene_bitsWithin_15, e_Scene_bitsWithin_18, e_Scene_bitsWithin_19, e_Scene_bitsWithin_20, e_Scene_bitsWithin_21, e_Scene_bitsWithin_22, e_Scene_bitsWithin_25, e_Scene_bitsWithin_26, e_Scene_bitsWithin_27, e_Scene_bitsWithin_29, e_Scene_bitsWithin_32, e_Scene_bitsWithin_35, e_Scene_bitsWithin_36, e_Scene_bitsWithin_37, e_Scene_bitsWithin_40, e_Scene_bitsWithin_43, e_Scene_bitsWithin_44, alk_in, ask_in, blk_in, bsk_in, qlk_in, ack_in, rcv_in, rcA_in, bk_i, bk_l, bk_v, hS_same, hS_ne, hS_hS, hS_2, am_10, am_01, am_00, if_true, if_false, gf_5_0, pf_5_0, gf_5_1, pf_5_1, gf_5_2, pf_5_2, gf_5_3, pf_5_3, gf_5_4, pf_5_4, gf_5_5, pf_5_5, gf_5_6, pf_5_6, gf_5_7, pf_5_7, s0, s1, Int.toNat_natCast, z]
  rw [show ce i - (l : Int) + ((0 : Nat) : Int) = ce i - (l : Int) by omega]
  rfl
theorem l_toldOn (S : RepS h b n c t ce so ha ye) (hw : Wf n c ce so ha ye) {B l : Nat} (hl : l ≤ 3) (hB : BI n ce B) : ∀ (d k : Nat), k + d = n → gv mScene_toldOn 5 [vR b, vI (B : Int), vI (l : Int), vI ((tok n ce l B k : Nat) : Int), vI (k : Int)] [] h = some (some (vI ((tok n ce l B n : Nat) : Int)), h) := by
  have hn := hw.1
  have S0 := S
  obtain ⟨ce', so', ha', ye', ic, ⟨s0, s1, s2, s3, s4, s5⟩, r1, r2⟩ := S
  intro d
  induction d with
  | zero =>
    intro k hk
    have : k = n := by omega
    subst this
    rw [e_Scene_toldOn_5]
    simp (disch := omega) only [e_Scene_toldOn_0, e_Scene_toldOn_1, e_Scene_toldOn_2, e_Scene_toldOn_3, e_Scene_toldOn_7, e_Scene_toldOn_8, e_Scene_toldOn_11, e_Scene_toldOn_14, e_Scene_toldOn_15, e_Scene_toldOn_17, e_Scene_toldOn_18, e_Scene_toldOn_19, e_Scene_toldOn_20, e_Scene_toldOn_21, e_Scene_toldOn_24, e_Scene_toldOn_25, e_Scene_toldOn_26, e_Scene_toldOn_28, e_Scene_toldOn_29, e_Scene_toldOn_32, e_Scene_toldOn_33, e_Scene_toldOn_34, e_Scene_toldOn_37, e_Scene_toldOn_40, e_Scene_toldOn_41, alk_in, ask_in, blk_in, bsk_in, qlk_in, ack_in, rcv_in, rcA_in, bk_i, bk_l, bk_v, hS_same, hS_ne, hS_hS, hS_2, am_10, am_01, am_00, if_true, if_false, gf_5_0, pf_5_0, gf_5_1, pf_5_1, gf_5_2, pf_5_2, gf_5_3, pf_5_3, gf_5_4, pf_5_4, gf_5_5, pf_5_5, gf_5_6, pf_5_6, gf_5_7, pf_5_7, s0]
    rw [if_neg (by omega)]
  | succ d ih =>
    intro k hk
    have e1 := ih (k + 1) (by omega)
    have jb := jbit_s B hB.1 k (by omega)
    have e0 : tok n ce l B (k + 1) = if B.testBit k = true then tok n ce l B k ||| bw n ce (ce k - l) (2 * l + 1) else tok n ce l B k := rfl
    rw [e_Scene_toldOn_5, ← e1, e0]
    by_cases q : B.testBit k = true
    · rw [if_pos q] at jb
      have c1 := d_bitsWithin S0 hw (i := k) (by omega) hl (hB.2 k q).2
      have jo := jor_s _ (tok_b n ce l B hn hB.1 k) _ (bw_b n ce (ce k - l) hn (2 * l + 1))
      rw [if_pos q, ← jo]
      simp (disch := omega) only [e_Scene_toldOn_0, e_Scene_toldOn_1, e_Scene_toldOn_2, e_Scene_toldOn_3, e_Scene_toldOn_7, e_Scene_toldOn_8, e_Scene_toldOn_11, e_Scene_toldOn_14, e_Scene_toldOn_15, e_Scene_toldOn_17, e_Scene_toldOn_18, e_Scene_toldOn_19, e_Scene_toldOn_20, e_Scene_toldOn_21, e_Scene_toldOn_24, e_Scene_toldOn_25, e_Scene_toldOn_26, e_Scene_toldOn_28, e_Scene_toldOn_29, e_Scene_toldOn_32, e_Scene_toldOn_33, e_Scene_toldOn_34, e_Scene_toldOn_37, e_Scene_toldOn_40, e_Scene_toldOn_41, alk_in, ask_in, blk_in, bsk_in, qlk_in, ack_in, rcv_in, rcA_in, bk_i, bk_l, bk_v, hS_same, hS_ne, hS_hS, hS_2, am_10, am_01, am_00, if_true, if_false, gf_5_0, pf_5_0, gf_5_1, pf_5_1, gf_5_2, pf_5_2, gf_5_3, pf_5_3, gf_5_4, pf_5_4, gf_5_5, pf_5_5, gf_5_6, pf_5_6, gf_5_7, pf_5_7, s0, jb, c1]
      rw [if_pos (by omega)]; rfl
    · rw [if_neg q] at jb
      rw [if_neg q]
      simp (disch := omega) only [e_Scene_toldOn_0, e_Scene_toldOn_1, e_Scene_toldOn_2, e_Scene_toldOn_3, e_Scene_toldOn_7, e_Scene_toldOn_8, e_Scene_toldOn_11, e_Scene_toldOn_14, e_Scene_toldOn_15, e_Scene_toldOn_17, e_Scene_toldOn_18, e_Scene_toldOn_19, e_Scene_toldOn_20, e_Scene_toldOn_21, e_Scene_toldOn_24, e_Scene_toldOn_25, e_Scene_toldOn_26, e_Scene_toldOn_28, e_Scene_toldOn_29, e_Scene_toldOn_32, e_Scene_toldOn_33, e_Scene_toldOn_34, e_Scene_toldOn_37, e_Scene_toldOn_40, e_Scene_toldOn_41, alk_in, ask_in, blk_in, bsk_in, qlk_in, ack_in, rcv_in, rcA_in, bk_i, bk_l, bk_v, hS_same, hS_ne, hS_hS, hS_2, am_10, am_01, am_00, if_true, if_false, gf_5_0, pf_5_0, gf_5_1, pf_5_1, gf_5_2, pf_5_2, gf_5_3, pf_5_3, gf_5_4, pf_5_4, gf_5_5, pf_5_5, gf_5_6, pf_5_6, gf_5_7, pf_5_7, s0, jb]
      rw [if_pos (by omega)]; rfl
theorem d_toldOn (S : RepS h b n c t ce so ha ye) (hw : Wf n c ce so ha ye) {B l : Nat} (hl : l ≤ 3) (hB : BI n ce B) : ev mScene_toldOn [vR b, vI (B : Int), vI (l : Int)] h = some (some (vI ((tok n ce l B n : Nat) : Int)), h) := by
  rw [ev_Scene_toldOn, e_Scene_toldOn_0, e_Scene_toldOn_1, e_Scene_toldOn_2, e_Scene_toldOn_3]
  exact l_toldOn S hw hl hB n 0 (by omega)
end Word
section Word2
variable {h : am_H} {G : Gl} {T : Tm} {pc : Int}
theorem lk_word {l a b : Nat} (O : CeO h (l : Int) pc) (S : RT h 10 G T) (hw : WT G T) (hl : l ≤ 3) (ha : a < G.1) (hi : ¬ T.2.1 a = -9) (hb : b < G.1) : ∀ (d k : Nat), k + d = 5 → gv mCell_word 61 [vR 1, vI (a : Int), vI (b : Int), vI ((WdI G.1 T.2.1 l a k : Nat) : Int), vI ((k : Int) + 1)] [] h = some (some (vI (fw (WdI G.1 T.2.1 l a) b (k + 1) d)), h) := by
  have hn := hw.1
  have ob := S.ob
  unfold CeO at O
  have S' : RepS h 10 G.1 G.2.1 T.1 T.2.1 T.2.2.1 G.2.2.2 T.2.2.2 := S
  intro d
  induction d with
  | zero =>
    intro k hk
    have : k = 5 := by omega
    subst this
    rw [e_Cell_word_61]
    simp (disch := omega) only [e_Cell_word_0, e_Cell_word_1, e_Cell_word_4, e_Cell_word_5, e_Cell_word_8, e_Cell_word_8b, e_Cell_word_11, e_Cell_word_12, e_Cell_word_15, e_Cell_word_16, e_Cell_word_19, e_Cell_word_19b, e_Cell_word_22, e_Cell_word_23, e_Cell_word_24, e_Cell_word_27, e_Cell_word_28, e_Cell_word_29, e_Cell_word_30, e_Cell_word_33, e_Cell_word_34, e_Cell_word_37, e_Cell_word_37b, e_Cell_word_40, e_Cell_word_41, e_Cell_word_44, e_Cell_word_45, e_Cell_word_48, e_Cell_word_48b, e_Cell_word_51, e_Cell_word_53, e_Cell_word_54, e_Cell_word_55, e_Cell_word_56, e_Cell_word_57, e_Cell_word_58, e_Cell_word_59, e_Cell_word_63, e_Cell_word_65, e_Cell_word_68, e_Cell_word_69, e_Cell_word_72, e_Cell_word_73, e_Cell_word_74, e_Cell_word_77, e_Cell_word_80, e_Cell_word_81, e_Cell_word_82, e_Cell_word_83, e_Cell_word_84, e_Cell_word_85, e_Cell_word_86, e_Cell_word_87, e_Cell_word_90, e_Cell_word_92, e_Cell_word_93, e_Cell_word_96, e_Cell_word_99, e_Cell_word_101, alk_in, ask_in, blk_in, bsk_in, qlk_in, ack_in, rcv_in, rcA_in, bk_i, bk_l, bk_v, hS_same, hS_ne, hS_hS, hS_2, am_10, am_01, am_00, if_true, if_false]
    rw [if_neg (by omega)]; rfl
  | succ d ih =>
    intro k hk
    have e1 := ih (k + 1) (by omega)
    have bi := WdI_I hw hl ha hi k
    have c1 := d_toldOn S' hw hl bi
    have bi2 := WdI_I hw hl ha hi (k + 1)
    have jb := jbit_s _ bi2.1 b (by omega)
    have e0 : tok G.1 T.2.1 l (WdI G.1 T.2.1 l a k) G.1 = WdI G.1 T.2.1 l a (k + 1) := rfl
    rw [e0] at c1
    have ef : fw (WdI G.1 T.2.1 l a) b (k + 1) (d + 1) = if (WdI G.1 T.2.1 l a (k + 1)).testBit b = true then ((k + 1 : Nat) : Int) else fw (WdI G.1 T.2.1 l a) b (k + 1 + 1) d := rfl
    rw [e_Cell_word_61, ef]
    by_cases q : (WdI G.1 T.2.1 l a (k + 1)).testBit b = true
    · rw [if_pos q] at jb ⊢
      simp (disch := omega) only [e_Cell_word_0, e_Cell_word_1, e_Cell_word_4, e_Cell_word_5, e_Cell_word_8, e_Cell_word_8b, e_Cell_word_11, e_Cell_word_12, e_Cell_word_15, e_Cell_word_16, e_Cell_word_19, e_Cell_word_19b, e_Cell_word_22, e_Cell_word_23, e_Cell_word_24, e_Cell_word_27, e_Cell_word_28, e_Cell_word_29, e_Cell_word_30, e_Cell_word_33, e_Cell_word_34, e_Cell_word_37, e_Cell_word_37b, e_Cell_word_40, e_Cell_word_41, e_Cell_word_44, e_Cell_word_45, e_Cell_word_48, e_Cell_word_48b, e_Cell_word_51, e_Cell_word_53, e_Cell_word_54, e_Cell_word_55, e_Cell_word_56, e_Cell_word_57, e_Cell_word_58, e_Cell_word_59, e_Cell_word_63, e_Cell_word_65, e_Cell_word_68, e_Cell_word_69, e_Cell_word_72, e_Cell_word_73, e_Cell_word_74, e_Cell_word_77, e_Cell_word_80, e_Cell_word_81, e_Cell_word_82, e_Cell_word_83, e_Cell_word_84, e_Cell_word_85, e_Cell_word_86, e_Cell_word_87, e_Cell_word_90, e_Cell_word_92, e_Cell_word_93, e_Cell_word_96, e_Cell_word_99, e_Cell_word_101, alk_in, ask_in, blk_in, bsk_in, qlk_in, ack_in, rcv_in, rcA_in, bk_i, bk_l, bk_v, hS_same, hS_ne, hS_hS, hS_2, am_10, am_01, am_00, if_true, if_false, gf_5_0, pf_5_0, gf_5_1, pf_5_1, gf_5_2, pf_5_2, gf_5_3, pf_5_3, gf_5_4, pf_5_4, gf_5_5, pf_5_5, gf_5_6, pf_5_6, gf_5_7, pf_5_7, gf_11_0, pf_11_0, gf_11_1, pf_11_1, gf_11_2, pf_11_2, gf_11_3, pf_11_3, gf_11_4, pf_11_4, gf_11_5, pf_11_5, gf_11_6, pf_11_6, gf_11_7, pf_11_7, gf_11_8, pf_11_8, gf_11_9, pf_11_9, gf_11_10, pf_11_10, gf_11_11, pf_11_11, O, ob, c1, jb]
      rw [if_pos (by omega)]; rfl
    · rw [if_neg q] at jb ⊢
      rw [← e1]
      simp (disch := omega) only [e_Cell_word_0, e_Cell_word_1, e_Cell_word_4, e_Cell_word_5, e_Cell_word_8, e_Cell_word_8b, e_Cell_word_11, e_Cell_word_12, e_Cell_word_15, e_Cell_word_16, e_Cell_word_19, e_Cell_word_19b, e_Cell_word_22, e_Cell_word_23, e_Cell_word_24, e_Cell_word_27, e_Cell_word_28, e_Cell_word_29, e_Cell_word_30, e_Cell_word_33, e_Cell_word_34, e_Cell_word_37, e_Cell_word_37b, e_Cell_word_40, e_Cell_word_41, e_Cell_word_44, e_Cell_word_45, e_Cell_word_48, e_Cell_word_48b, e_Cell_word_51, e_Cell_word_53, e_Cell_word_54, e_Cell_word_55, e_Cell_word_56, e_Cell_word_57, e_Cell_word_58, e_Cell_word_59, e_Cell_word_63, e_Cell_word_65, e_Cell_word_68, e_Cell_word_69, e_Cell_word_72, e_Cell_word_73, e_Cell_word_74, e_Cell_word_77, e_Cell_word_80, e_Cell_word_81, e_Cell_word_82, e_Cell_word_83, e_Cell_word_84, e_Cell_word_85, e_Cell_word_86, e_Cell_word_87, e_Cell_word_90, e_Cell_word_92, e_Cell_word_93, e_Cell_word_96, e_Cell_word_99, e_Cell_word_101, alk_in, ask_in, blk_in, bsk_in, qlk_in, ack_in, rcv_in, rcA_in, bk_i, bk_l, bk_v, hS_same, hS_ne, hS_hS, hS_2, am_10, am_01, am_00, if_true, if_false, gf_5_0, pf_5_0, gf_5_1, pf_5_1, gf_5_2, pf_5_2, gf_5_3, pf_5_3, gf_5_4, pf_5_4, gf_5_5, pf_5_5, gf_5_6, pf_5_6, gf_5_7, pf_5_7, gf_11_0, pf_11_0, gf_11_1, pf_11_1, gf_11_2, pf_11_2, gf_11_3, pf_11_3, gf_11_4, pf_11_4, gf_11_5, pf_11_5, gf_11_6, pf_11_6, gf_11_7, pf_11_7, gf_11_8, pf_11_8, gf_11_9, pf_11_9, gf_11_10, pf_11_10, gf_11_11, pf_11_11, O, ob, c1, jb]
      rw [if_pos (by omega)]; rfl
theorem k_word (O : CeO h G.2.2.1 pc) (S : RT h 10 G T) (hw : WT G T) (hlo : 0 ≤ G.2.2.1 ∧ G.2.2.1 ≤ 3) {a b : Int} (ha : rg32 a) (hb : rg32 b) : ev mCell_word [vR 1, vI a, vI b] h = some (some (vI (aWord G T a b)), h) := by
  unfold rg32 at ha hb
  have hn := hw.1
  have S' : RepS h 10 G.1 G.2.1 T.1 T.2.1 T.2.2.1 G.2.2.2 T.2.2.2 := S
  have c1 := d_hasMan S' ha hw.1
  have c2 := d_hasMan S' hb hw.1
  have ob := S.ob
  have O' := O
  unfold CeO at O
  unfold aWord
  rw [ev_Cell_word]
  by_cases q1 : 0 ≤ a ∧ a < G.1
  · rw [if_pos q1] at c1
    by_cases q2 : 0 ≤ b ∧ b < G.1
    · rw [if_pos q2] at c2
      by_cases q3 : a = b
      · rw [if_neg (fun z => z.2.2 q3)]
        simp (disch := omega) only [e_Cell_word_0, e_Cell_word_1, e_Cell_word_4, e_Cell_word_5, e_Cell_word_8, e_Cell_word_8b, e_Cell_word_11, e_Cell_word_12, e_Cell_word_15, e_Cell_word_16, e_Cell_word_19, e_Cell_word_19b, e_Cell_word_22, e_Cell_word_23, e_Cell_word_24, e_Cell_word_27, e_Cell_word_28, e_Cell_word_29, e_Cell_word_30, e_Cell_word_33, e_Cell_word_34, e_Cell_word_37, e_Cell_word_37b, e_Cell_word_40, e_Cell_word_41, e_Cell_word_44, e_Cell_word_45, e_Cell_word_48, e_Cell_word_48b, e_Cell_word_51, e_Cell_word_53, e_Cell_word_54, e_Cell_word_55, e_Cell_word_56, e_Cell_word_57, e_Cell_word_58, e_Cell_word_59, e_Cell_word_63, e_Cell_word_65, e_Cell_word_68, e_Cell_word_69, e_Cell_word_72, e_Cell_word_73, e_Cell_word_74, e_Cell_word_77, e_Cell_word_80, e_Cell_word_81, e_Cell_word_82, e_Cell_word_83, e_Cell_word_84, e_Cell_word_85, e_Cell_word_86, e_Cell_word_87, e_Cell_word_90, e_Cell_word_92, e_Cell_word_93, e_Cell_word_96, e_Cell_word_99, e_Cell_word_101, alk_in, ask_in, blk_in, bsk_in, qlk_in, ack_in, rcv_in, rcA_in, bk_i, bk_l, bk_v, hS_same, hS_ne, hS_hS, hS_2, am_10, am_01, am_00, if_true, if_false, gf_5_0, pf_5_0, gf_5_1, pf_5_1, gf_5_2, pf_5_2, gf_5_3, pf_5_3, gf_5_4, pf_5_4, gf_5_5, pf_5_5, gf_5_6, pf_5_6, gf_5_7, pf_5_7, gf_11_0, pf_11_0, gf_11_1, pf_11_1, gf_11_2, pf_11_2, gf_11_3, pf_11_3, gf_11_4, pf_11_4, gf_11_5, pf_11_5, gf_11_6, pf_11_6, gf_11_7, pf_11_7, gf_11_8, pf_11_8, gf_11_9, pf_11_9, gf_11_10, pf_11_10, gf_11_11, pf_11_11, O, ob, c1, c2]
        rw [if_pos q3]
      · rw [if_pos ⟨q1, q2, q3⟩]
        obtain ⟨a, rfl⟩ : ∃ k : Nat, a = (k : Int) := ⟨a.toNat, by omega⟩
        obtain ⟨b, rfl⟩ : ∃ k : Nat, b = (k : Int) := ⟨b.toNat, by omega⟩
        obtain ⟨l, hl⟩ : ∃ l : Nat, G.2.2.1 = (l : Int) := ⟨G.2.2.1.toNat, by omega⟩
        rw [Int.toNat_natCast, Int.toNat_natCast, hl, Int.toNat_natCast]
        have han : a < G.1 := by omega
        have hbn : b < G.1 := by omega
        have c3 := d_isIn S' hw han
        have c4 := d_isIn S' hw hbn
        by_cases y : T.2.1 a = -9
        · rw [if_pos y] at c3
          rw [if_neg (fun z => z.1 y)]
          simp (disch := omega) only [e_Cell_word_0, e_Cell_word_1, e_Cell_word_4, e_Cell_word_5, e_Cell_word_8, e_Cell_word_8b, e_Cell_word_11, e_Cell_word_12, e_Cell_word_15, e_Cell_word_16, e_Cell_word_19, e_Cell_word_19b, e_Cell_word_22, e_Cell_word_23, e_Cell_word_24, e_Cell_word_27, e_Cell_word_28, e_Cell_word_29, e_Cell_word_30, e_Cell_word_33, e_Cell_word_34, e_Cell_word_37, e_Cell_word_37b, e_Cell_word_40, e_Cell_word_41, e_Cell_word_44, e_Cell_word_45, e_Cell_word_48, e_Cell_word_48b, e_Cell_word_51, e_Cell_word_53, e_Cell_word_54, e_Cell_word_55, e_Cell_word_56, e_Cell_word_57, e_Cell_word_58, e_Cell_word_59, e_Cell_word_63, e_Cell_word_65, e_Cell_word_68, e_Cell_word_69, e_Cell_word_72, e_Cell_word_73, e_Cell_word_74, e_Cell_word_77, e_Cell_word_80, e_Cell_word_81, e_Cell_word_82, e_Cell_word_83, e_Cell_word_84, e_Cell_word_85, e_Cell_word_86, e_Cell_word_87, e_Cell_word_90, e_Cell_word_92, e_Cell_word_93, e_Cell_word_96, e_Cell_word_99, e_Cell_word_101, alk_in, ask_in, blk_in, bsk_in, qlk_in, ack_in, rcv_in, rcA_in, bk_i, bk_l, bk_v, hS_same, hS_ne, hS_hS, hS_2, am_10, am_01, am_00, if_true, if_false, gf_5_0, pf_5_0, gf_5_1, pf_5_1, gf_5_2, pf_5_2, gf_5_3, pf_5_3, gf_5_4, pf_5_4, gf_5_5, pf_5_5, gf_5_6, pf_5_6, gf_5_7, pf_5_7, gf_11_0, pf_11_0, gf_11_1, pf_11_1, gf_11_2, pf_11_2, gf_11_3, pf_11_3, gf_11_4, pf_11_4, gf_11_5, pf_11_5, gf_11_6, pf_11_6, gf_11_7, pf_11_7, gf_11_8, pf_11_8, gf_11_9, pf_11_9, gf_11_10, pf_11_10, gf_11_11, pf_11_11, O, ob, c1, c2, c3]
          rw [if_neg q3]
        · rw [if_neg y] at c3
          by_cases y2 : T.2.1 b = -9
          · rw [if_pos y2] at c4
            rw [if_neg (fun z => z.2 y2)]
            simp (disch := omega) only [e_Cell_word_0, e_Cell_word_1, e_Cell_word_4, e_Cell_word_5, e_Cell_word_8, e_Cell_word_8b, e_Cell_word_11, e_Cell_word_12, e_Cell_word_15, e_Cell_word_16, e_Cell_word_19, e_Cell_word_19b, e_Cell_word_22, e_Cell_word_23, e_Cell_word_24, e_Cell_word_27, e_Cell_word_28, e_Cell_word_29, e_Cell_word_30, e_Cell_word_33, e_Cell_word_34, e_Cell_word_37, e_Cell_word_37b, e_Cell_word_40, e_Cell_word_41, e_Cell_word_44, e_Cell_word_45, e_Cell_word_48, e_Cell_word_48b, e_Cell_word_51, e_Cell_word_53, e_Cell_word_54, e_Cell_word_55, e_Cell_word_56, e_Cell_word_57, e_Cell_word_58, e_Cell_word_59, e_Cell_word_63, e_Cell_word_65, e_Cell_word_68, e_Cell_word_69, e_Cell_word_72, e_Cell_word_73, e_Cell_word_74, e_Cell_word_77, e_Cell_word_80, e_Cell_word_81, e_Cell_word_82, e_Cell_word_83, e_Cell_word_84, e_Cell_word_85, e_Cell_word_86, e_Cell_word_87, e_Cell_word_90, e_Cell_word_92, e_Cell_word_93, e_Cell_word_96, e_Cell_word_99, e_Cell_word_101, alk_in, ask_in, blk_in, bsk_in, qlk_in, ack_in, rcv_in, rcA_in, bk_i, bk_l, bk_v, hS_same, hS_ne, hS_hS, hS_2, am_10, am_01, am_00, if_true, if_false, gf_5_0, pf_5_0, gf_5_1, pf_5_1, gf_5_2, pf_5_2, gf_5_3, pf_5_3, gf_5_4, pf_5_4, gf_5_5, pf_5_5, gf_5_6, pf_5_6, gf_5_7, pf_5_7, gf_11_0, pf_11_0, gf_11_1, pf_11_1, gf_11_2, pf_11_2, gf_11_3, pf_11_3, gf_11_4, pf_11_4, gf_11_5, pf_11_5, gf_11_6, pf_11_6, gf_11_7, pf_11_7, gf_11_8, pf_11_8, gf_11_9, pf_11_9, gf_11_10, pf_11_10, gf_11_11, pf_11_11, O, ob, c1, c2, c3, c4]
            rw [if_neg q3]
          · rw [if_neg y2] at c4
            rw [if_pos ⟨y, y2⟩]
            rw [hl] at O'
            have e1 := lk_word O' S hw (by omega) han y hbn 5 0 (by omega)
            have js := jshl_s a (by omega)
            simp (disch := omega) only [e_Cell_word_0, e_Cell_word_1, e_Cell_word_4, e_Cell_word_5, e_Cell_word_8, e_Cell_word_8b, e_Cell_word_11, e_Cell_word_12, e_Cell_word_15, e_Cell_word_16, e_Cell_word_19, e_Cell_word_19b, e_Cell_word_22, e_Cell_word_23, e_Cell_word_24, e_Cell_word_27, e_Cell_word_28, e_Cell_word_29, e_Cell_word_30, e_Cell_word_33, e_Cell_word_34, e_Cell_word_37, e_Cell_word_37b, e_Cell_word_40, e_Cell_word_41, e_Cell_word_44, e_Cell_word_45, e_Cell_word_48, e_Cell_word_48b, e_Cell_word_51, e_Cell_word_53, e_Cell_word_54, e_Cell_word_55, e_Cell_word_56, e_Cell_word_57, e_Cell_word_58, e_Cell_word_59, e_Cell_word_63, e_Cell_word_65, e_Cell_word_68, e_Cell_word_69, e_Cell_word_72, e_Cell_word_73, e_Cell_word_74, e_Cell_word_77, e_Cell_word_80, e_Cell_word_81, e_Cell_word_82, e_Cell_word_83, e_Cell_word_84, e_Cell_word_85, e_Cell_word_86, e_Cell_word_87, e_Cell_word_90, e_Cell_word_92, e_Cell_word_93, e_Cell_word_96, e_Cell_word_99, e_Cell_word_101, alk_in, ask_in, blk_in, bsk_in, qlk_in, ack_in, rcv_in, rcA_in, bk_i, bk_l, bk_v, hS_same, hS_ne, hS_hS, hS_2, am_10, am_01, am_00, if_true, if_false, gf_5_0, pf_5_0, gf_5_1, pf_5_1, gf_5_2, pf_5_2, gf_5_3, pf_5_3, gf_5_4, pf_5_4, gf_5_5, pf_5_5, gf_5_6, pf_5_6, gf_5_7, pf_5_7, gf_11_0, pf_11_0, gf_11_1, pf_11_1, gf_11_2, pf_11_2, gf_11_3, pf_11_3, gf_11_4, pf_11_4, gf_11_5, pf_11_5, gf_11_6, pf_11_6, gf_11_7, pf_11_7, gf_11_8, pf_11_8, gf_11_9, pf_11_9, gf_11_10, pf_11_10, gf_11_11, pf_11_11, O, ob, c1, c2, c3, c4, js]
            rw [if_neg q3]
            exact e1
    · rw [if_neg q2] at c2
      rw [if_neg (fun z => q2 z.2.1)]
      simp (disch := omega) only [e_Cell_word_0, e_Cell_word_1, e_Cell_word_4, e_Cell_word_5, e_Cell_word_8, e_Cell_word_8b, e_Cell_word_11, e_Cell_word_12, e_Cell_word_15, e_Cell_word_16, e_Cell_word_19, e_Cell_word_19b, e_Cell_word_22, e_Cell_word_23, e_Cell_word_24, e_Cell_word_27, e_Cell_word_28, e_Cell_word_29, e_Cell_word_30, e_Cell_word_33, e_Cell_word_34, e_Cell_word_37, e_Cell_word_37b, e_Cell_word_40, e_Cell_word_41, e_Cell_word_44, e_Cell_word_45, e_Cell_word_48, e_Cell_word_48b, e_Cell_word_51, e_Cell_word_53, e_Cell_word_54, e_Cell_word_55, e_Cell_word_56, e_Cell_word_57, e_Cell_word_58, e_Cell_word_59, e_Cell_word_63, e_Cell_word_65, e_Cell_word_68, e_Cell_word_69, e_Cell_word_72, e_Cell_word_73, e_Cell_word_74, e_Cell_word_77, e_Cell_word_80, e_Cell_word_81, e_Cell_word_82, e_Cell_word_83, e_Cell_word_84, e_Cell_word_85, e_Cell_word_86, e_Cell_word_87, e_Cell_word_90, e_Cell_word_92, e_Cell_word_93, e_Cell_word_96, e_Cell_word_99, e_Cell_word_101, alk_in, ask_in, blk_in, bsk_in, qlk_in, ack_in, rcv_in, rcA_in, bk_i, bk_l, bk_v, hS_same, hS_ne, hS_hS, hS_2, am_10, am_01, am_00, if_true, if_false, gf_5_0, pf_5_0, gf_5_1, pf_5_1, gf_5_2, pf_5_2, gf_5_3, pf_5_3, gf_5_4, pf_5_4, gf_5_5, pf_5_5, gf_5_6, pf_5_6, gf_5_7, pf_5_7, gf_11_0, pf_11_0, gf_11_1, pf_11_1, gf_11_2, pf_11_2, gf_11_3, pf_11_3, gf_11_4, pf_11_4, gf_11_5, pf_11_5, gf_11_6, pf_11_6, gf_11_7, pf_11_7, gf_11_8, pf_11_8, gf_11_9, pf_11_9, gf_11_10, pf_11_10, gf_11_11, pf_11_11, O, ob, c1, c2]
  · rw [if_neg q1] at c1
    rw [if_neg (fun z => q1 z.1)]
    simp (disch := omega) only [e_Cell_word_0, e_Cell_word_1, e_Cell_word_4, e_Cell_word_5, e_Cell_word_8, e_Cell_word_8b, e_Cell_word_11, e_Cell_word_12, e_Cell_word_15, e_Cell_word_16, e_Cell_word_19, e_Cell_word_19b, e_Cell_word_22, e_Cell_word_23, e_Cell_word_24, e_Cell_word_27, e_Cell_word_28, e_Cell_word_29, e_Cell_word_30, e_Cell_word_33, e_Cell_word_34, e_Cell_word_37, e_Cell_word_37b, e_Cell_word_40, e_Cell_word_41, e_Cell_word_44, e_Cell_word_45, e_Cell_word_48, e_Cell_word_48b, e_Cell_word_51, e_Cell_word_53, e_Cell_word_54, e_Cell_word_55, e_Cell_word_56, e_Cell_word_57, e_Cell_word_58, e_Cell_word_59, e_Cell_word_63, e_Cell_word_65, e_Cell_word_68, e_Cell_word_69, e_Cell_word_72, e_Cell_word_73, e_Cell_word_74, e_Cell_word_77, e_Cell_word_80, e_Cell_word_81, e_Cell_word_82, e_Cell_word_83, e_Cell_word_84, e_Cell_word_85, e_Cell_word_86, e_Cell_word_87, e_Cell_word_90, e_Cell_word_92, e_Cell_word_93, e_Cell_word_96, e_Cell_word_99, e_Cell_word_101, alk_in, ask_in, blk_in, bsk_in, qlk_in, ack_in, rcv_in, rcA_in, bk_i, bk_l, bk_v, hS_same, hS_ne, hS_hS, hS_2, am_10, am_01, am_00, if_true, if_false, gf_5_0, pf_5_0, gf_5_1, pf_5_1, gf_5_2, pf_5_2, gf_5_3, pf_5_3, gf_5_4, pf_5_4, gf_5_5, pf_5_5, gf_5_6, pf_5_6, gf_5_7, pf_5_7, gf_11_0, pf_11_0, gf_11_1, pf_11_1, gf_11_2, pf_11_2, gf_11_3, pf_11_3, gf_11_4, pf_11_4, gf_11_5, pf_11_5, gf_11_6, pf_11_6, gf_11_7, pf_11_7, gf_11_8, pf_11_8, gf_11_9, pf_11_9, gf_11_10, pf_11_10, gf_11_11, pf_11_11, O, ob, c1]
end Word2
