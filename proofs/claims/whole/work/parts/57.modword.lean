/-! word: the model -/
def mo1 (ce : Nat → Int) (l B i acc k : Nat) : Nat := match k with
  | 0 => acc
  | k + 1 => if B.testBit i = true ∧ ¬ ce k = -9 ∧ -(l : Int) ≤ ce k - ce i ∧ ce k - ce i ≤ (l : Int) then mo1 ce l B i acc k ||| 2 ^ k else mo1 ce l B i acc k
def mo2 (n : Nat) (ce : Nat → Int) (l B i : Nat) : Nat := match i with
  | 0 => B
  | i + 1 => mo1 ce l B i (mo2 n ce l B i) n
theorem mo1_b (ce : Nat → Int) (l B i acc : Nat) (ha : acc < 64) : ∀ k, k ≤ 6 → mo1 ce l B i acc k < 64 := by
  intro k
  induction k with
  | zero => intro _; exact ha
  | succ k ih =>
    intro hk
    unfold mo1
    split
    · exact or_b (ih (by omega)) (pw_b (by omega))
    · exact ih (by omega)
theorem mo2_b (n : Nat) (ce : Nat → Int) (l B : Nat) (hn : n ≤ 6) (hB : B < 64) : ∀ i, mo2 n ce l B i < 64 := by
  intro i
  induction i with
  | zero => exact hB
  | succ i ih => exact mo1_b ce l B i _ ih n hn
theorem mo1_bit (ce : Nat → Int) (l B i acc j : Nat) : ∀ k, (mo1 ce l B i acc k).testBit j = true ↔ acc.testBit j = true ∨ j < k ∧ B.testBit i = true ∧ ¬ ce j = -9 ∧ -(l : Int) ≤ ce j - ce i ∧ ce j - ce i ≤ (l : Int) := by
  intro k
  induction k with
  | zero => 
    constructor
    · intro z; exact Or.inl z
    · intro z
      rcases z with z | z
      · exact z
      · omega
  | succ k ih =>
    unfold mo1
    by_cases q : B.testBit i = true ∧ ¬ ce k = -9 ∧ -(l : Int) ≤ ce k - ce i ∧ ce k - ce i ≤ (l : Int)
    · rw [if_pos q, Nat.testBit_or, Bool.or_eq_true, ih, Nat.testBit_two_pow, decide_eq_true_iff]
      constructor
      · intro z
        rcases z with (z | z) | z
        · exact Or.inl z
        · exact Or.inr ⟨by omega, z.2⟩
        · subst z
          exact Or.inr ⟨by omega, q⟩
      · intro z
        rcases z with z | z
        · exact Or.inl (Or.inl z)
        · by_cases e : k = j
          · exact Or.inr e
          · exact Or.inl (Or.inr ⟨by omega, z.2⟩)
    · rw [if_neg q, ih]
      constructor
      · intro z
        rcases z with z | z
        · exact Or.inl z
        · exact Or.inr ⟨by omega, z.2⟩
      · intro z
        rcases z with z | z
        · exact Or.inl z
        · by_cases e : k = j
          · subst e; exact absurd z.2 q
          · exact Or.inr ⟨by omega, z.2⟩
theorem mo2_tok {n c : Nat} {ce so ha ye : Nat → Int} (hw : Wf n c ce so ha ye) {l B : Nat} (hl : l ≤ 3) (hB : BI n ce B) : ∀ k, k ≤ n → mo2 n ce l B k = tok n ce l B k := by
  intro k
  induction k with
  | zero => intro _; rfl
  | succ k ih =>
    intro hk
    have e : mo2 n ce l B (k + 1) = mo1 ce l B k (mo2 n ce l B k) n := rfl
    have et : tok n ce l B (k + 1) = if B.testBit k = true then tok n ce l B k ||| bw n ce (ce k - l) (2 * l + 1) else tok n ce l B k := rfl
    rw [e, ih (by omega), et]
    apply Nat.eq_of_testBit_eq
    intro j
    rw [Bool.eq_iff_iff, mo1_bit]
    by_cases q : B.testBit k = true
    · have y := (hw.2.2.2.1 k (by omega)).1
      have y2 := (hB.2 k q).2
      rw [if_pos q, Nat.testBit_or, Bool.or_eq_true, bw_bit hw (by omega)]
      constructor
      · intro z
        rcases z with z | z
        · exact Or.inl z
        · exact Or.inr ⟨z.1, by omega, by omega⟩
      · intro z
        rcases z with z | z
        · exact Or.inl z
        · exact Or.inr ⟨z.1, q, by omega, by omega, by omega⟩
    · rw [if_neg q]
      constructor
      · intro z
        rcases z with z | z
        · exact z
        · exact absurd z.2.1 q
      · intro z; exact Or.inl z
theorem pop_lt : ∀ a, a < 64 → ∀ b, b < 64 → a ||| b = b → ¬ a = b → popk a 6 < popk b 6 := by decide +kernel
theorem pop_6 : ∀ a, a < 64 → 6 ≤ popk a 6 → a = 63 := by decide +kernel
theorem pop_1 : ∀ i, i < 6 → 1 ≤ popk (2 ^ i) 6 := by decide +kernel
theorem bit_63 : ∀ i, i < 6 → (63 : Nat).testBit i = true := by decide +kernel
theorem tok_mono (n : Nat) (ce : Nat → Int) (l B k : Nat) : B ||| tok n ce l B k = tok n ce l B k := by
  induction k with
  | zero => exact Nat.or_self B
  | succ k ih =>
    unfold tok
    split
    · rw [← Nat.or_assoc, ih]
    · exact ih
theorem Wd_sat {n c : Nat} {ce so ha ye : Nat → Int} (hw : Wf n c ce so ha ye) {l a b : Nat} (hl : l ≤ 3) (hk : a < n) (hi : ¬ ce a = -9) (hb : b < 6) (h6 : (WdI n ce l a 6).testBit b = true) : (WdI n ce l a 5).testBit b = true := by
  have hn := hw.1
  have st : ∀ k, ¬ WdI n ce l a (k + 1) = WdI n ce l a k → popk (WdI n ce l a k) 6 < popk (WdI n ce l a (k + 1)) 6 := fun k q => pop_lt _ (WdI_I hw hl hk hi k).1 _ (WdI_I hw hl hk hi (k + 1)).1 (tok_mono n ce l _ n) (fun e => q e.symm)
  have nx : ∀ k, WdI n ce l a (k + 1) = WdI n ce l a k → WdI n ce l a (k + 2) = WdI n ce l a (k + 1) := fun k q => by
    show tok n ce l (WdI n ce l a (k + 1)) n = tok n ce l (WdI n ce l a k) n
    rw [q]
  by_cases q5 : WdI n ce l a 6 = WdI n ce l a 5
  · rw [q5] at h6; exact h6
  · have q4 : ¬ WdI n ce l a 5 = WdI n ce l a 4 := fun e => q5 (nx 4 e)
    have q3 : ¬ WdI n ce l a 4 = WdI n ce l a 3 := fun e => q4 (nx 3 e)
    have q2 : ¬ WdI n ce l a 3 = WdI n ce l a 2 := fun e => q3 (nx 2 e)
    have q1 : ¬ WdI n ce l a 2 = WdI n ce l a 1 := fun e => q2 (nx 1 e)
    have q0 : ¬ WdI n ce l a 1 = WdI n ce l a 0 := fun e => q1 (nx 0 e)
    have p0 : 1 ≤ popk (WdI n ce l a 0) 6 := pop_1 a (by omega)
    have p1 := st 0 q0
    have p2 := st 1 q1
    have p3 := st 2 q2
    have p4 := st 3 q3
    have p5 := st 4 q4
    simp only [Nat.reduceAdd, Nat.zero_add] at p1 p2 p3 p4 p5
    have := pop_6 _ (WdI_I hw hl hk hi 5).1 (by omega)
    rw [this]
    exact bit_63 b hb
theorem fw_66 (W : Nat → Nat) (b : Nat) (hq : (W 6).testBit b = true → (W 5).testBit b = true) : fw W b 1 6 = fw W b 1 5 := by
  simp only [fw, Nat.reduceAdd]
  by_cases q5 : (W 5).testBit b = true
  · rw [if_pos q5, if_pos q5]
  · rw [if_neg q5, if_neg q5, if_neg (fun z => q5 (hq z))]
section MWord
variable {h : am_H} {n c : Nat} {t : Int} {ce so ha ye : Nat → Int} {va vb vt : Int}
theorem lm_word76 {l B i acc : Nat} (S : RepM h n c (l : Int) t ce so ha ye) (hw : Wf n c ce so ha ye) (hl : l ≤ 3) (hB : B < 64) (ha : acc < 64) (hi : i < n) : ∀ (d k : Nat) (x8 : am_V), k + d = n → ∃ y8, gv mMod_word 76 [vR 120, vI va, vI vb, vI (B : Int), vI vt, vI ((mo1 ce l B i acc k : Nat) : Int), vI (i : Int), vI (k : Int), x8] [] h = gv mMod_word 175 [vR 120, vI va, vI vb, vI (B : Int), vI vt, vI ((mo1 ce l B i acc n : Nat) : Int), vI (i : Int), vI (n : Int), y8] [] h := by
  have hn := hw.1
  have hc9 := hw.2.2.1
  have S0 := S
  obtain ⟨x0, x2, x7, x11, x12, x13, x14, x15, T, F, o, a, b, r0, r1, r2, r3, r⟩ := S
  unfold MoA at o
  have jb := jbit_s B hB i (by omega)
  intro d
  induction d with
  | zero =>
    intro k x8 hk
    have : k = n := by omega
    subst this
    refine ⟨x8, ?_⟩
    rw [e_Mod_word_76]
    simp (disch := omega) only [e_Mod_word_0, e_Mod_word_1, e_Mod_word_2, e_Mod_word_5, e_Mod_word_5b, e_Mod_word_8, e_Mod_word_9, e_Mod_word_10, e_Mod_word_13, e_Mod_word_13b, e_Mod_word_16, e_Mod_word_17, e_Mod_word_18, e_Mod_word_21, e_Mod_word_22, e_Mod_word_23, e_Mod_word_24, e_Mod_word_25, e_Mod_word_28, e_Mod_word_28b, e_Mod_word_31, e_Mod_word_32, e_Mod_word_33, e_Mod_word_36, e_Mod_word_36b, e_Mod_word_39, e_Mod_word_41, e_Mod_word_42, e_Mod_word_43, e_Mod_word_44, e_Mod_word_45, e_Mod_word_46, e_Mod_word_47, e_Mod_word_51, e_Mod_word_53, e_Mod_word_56, e_Mod_word_57, e_Mod_word_59, e_Mod_word_60, e_Mod_word_64, e_Mod_word_65, e_Mod_word_68, e_Mod_word_69, e_Mod_word_70, e_Mod_word_73, e_Mod_word_74, e_Mod_word_78, e_Mod_word_79, e_Mod_word_82, e_Mod_word_83, e_Mod_word_84, e_Mod_word_87, e_Mod_word_88, e_Mod_word_90, e_Mod_word_91, e_Mod_word_92, e_Mod_word_93, e_Mod_word_94, e_Mod_word_97, e_Mod_word_98, e_Mod_word_100, e_Mod_word_103, e_Mod_word_103b, e_Mod_word_106, e_Mod_word_107, e_Mod_word_110, e_Mod_word_111, e_Mod_word_113, e_Mod_word_114, e_Mod_word_115, e_Mod_word_116, e_Mod_word_119, e_Mod_word_120, e_Mod_word_122, e_Mod_word_123, e_Mod_word_124, e_Mod_word_125, e_Mod_word_126, e_Mod_word_129, e_Mod_word_130, e_Mod_word_131, e_Mod_word_132, e_Mod_word_133, e_Mod_word_136, e_Mod_word_137, e_Mod_word_138, e_Mod_word_141, e_Mod_word_141b, e_Mod_word_144, e_Mod_word_145, e_Mod_word_148, e_Mod_word_149, e_Mod_word_151, e_Mod_word_153, e_Mod_word_155, e_Mod_word_155b, e_Mod_word_158, e_Mod_word_159, e_Mod_word_161, e_Mod_word_162, e_Mod_word_165, e_Mod_word_166, e_Mod_word_167, e_Mod_word_169, e_Mod_word_172, e_Mod_word_178, e_Mod_word_181, e_Mod_word_183, e_Mod_word_184, e_Mod_word_185, e_Mod_word_186, e_Mod_word_187, e_Mod_word_188, e_Mod_word_189, e_Mod_word_190, e_Mod_word_193, e_Mod_word_195, e_Mod_word_196, e_Mod_word_199, e_Mod_word_202, e_Mod_word_204, alk_in, ask_in, blk_in, bsk_in, qlk_in, ack_in, rcv_in, rcA_in, bk_i, bk_l, bk_v, hS_same, hS_ne, hS_hS, hS_2, am_10, am_01, am_00, if_true, if_false, gf_12_0, pf_12_0, gf_12_1, pf_12_1, gf_12_2, pf_12_2, gf_12_3, pf_12_3, gf_12_4, pf_12_4, gf_12_5, pf_12_5, gf_12_6, pf_12_6, gf_12_7, pf_12_7, gf_12_8, pf_12_8, gf_12_9, pf_12_9, gf_12_10, pf_12_10, gf_12_11, pf_12_11, gf_12_12, pf_12_12, gf_12_13, pf_12_13, gf_12_14, pf_12_14, gf_12_15, pf_12_15, gf_12_16, pf_12_16, gf_12_17, pf_12_17, gf_12_18, pf_12_18, gf_12_19, pf_12_19, gf_12_20, pf_12_20, o, a, tl_1, r1]
    rw [if_neg (by omega)]
  | succ d ih =>
    intro k x8 hk
    have js := jshl_s k (by omega)
    have mb := mo1_b ce l B i acc ha k (by omega)
    have jo := jor_s _ mb _ (pw_b (i := k) (by omega))
    have jo0 := jor_s _ mb 0 (by omega)
    rw [Nat.or_zero] at jo0
    have zi := (r i hi).2.1
    have zk := (r k (by omega)).2.1
    have ci := (hw.2.2.2.1 i hi).1
    have ck := (hw.2.2.2.1 k (by omega)).1
    have c1 := m_isIn S0 hw (m := k) (by omega)
    have c2 := c_min (h := h) (v := ce k - ce i) (x := -(l : Int)) (y := (l : Int)) (by omega) (by omega) (by omega)
    have e0 : mo1 ce l B i acc (k + 1) = if B.testBit i = true ∧ ¬ ce k = -9 ∧ -(l : Int) ≤ ce k - ce i ∧ ce k - ce i ≤ (l : Int) then mo1 ce l B i acc k ||| 2 ^ k else mo1 ce l B i acc k := rfl
    by_cases q : B.testBit i = true ∧ ¬ ce k = -9 ∧ -(l : Int) ≤ ce k - ce i ∧ ce k - ce i ≤ (l : Int)
    · obtain ⟨y8, e1⟩ := ih (k + 1) (vI 1) (by omega)
      refine ⟨y8, ?_⟩
      rw [e_Mod_word_76, ← e1, e0, if_pos q, ← jo]
      rw [if_pos q.1] at jb
      rw [if_neg q.2.1] at c1
      rw [if_pos q.2.2] at c2
      simp (disch := omega) only [e_Mod_word_0, e_Mod_word_1, e_Mod_word_2, e_Mod_word_5, e_Mod_word_5b, e_Mod_word_8, e_Mod_word_9, e_Mod_word_10, e_Mod_word_13, e_Mod_word_13b, e_Mod_word_16, e_Mod_word_17, e_Mod_word_18, e_Mod_word_21, e_Mod_word_22, e_Mod_word_23, e_Mod_word_24, e_Mod_word_25, e_Mod_word_28, e_Mod_word_28b, e_Mod_word_31, e_Mod_word_32, e_Mod_word_33, e_Mod_word_36, e_Mod_word_36b, e_Mod_word_39, e_Mod_word_41, e_Mod_word_42, e_Mod_word_43, e_Mod_word_44, e_Mod_word_45, e_Mod_word_46, e_Mod_word_47, e_Mod_word_51, e_Mod_word_53, e_Mod_word_56, e_Mod_word_57, e_Mod_word_59, e_Mod_word_60, e_Mod_word_64, e_Mod_word_65, e_Mod_word_68, e_Mod_word_69, e_Mod_word_70, e_Mod_word_73, e_Mod_word_74, e_Mod_word_78, e_Mod_word_79, e_Mod_word_82, e_Mod_word_83, e_Mod_word_84, e_Mod_word_87, e_Mod_word_88, e_Mod_word_90, e_Mod_word_91, e_Mod_word_92, e_Mod_word_93, e_Mod_word_94, e_Mod_word_97, e_Mod_word_98, e_Mod_word_100, e_Mod_word_103, e_Mod_word_103b, e_Mod_word_106, e_Mod_word_107, e_Mod_word_110, e_Mod_word_111, e_Mod_word_113, e_Mod_word_114, e_Mod_word_115, e_Mod_word_116, e_Mod_word_119, e_Mod_word_120, e_Mod_word_122, e_Mod_word_123, e_Mod_word_124, e_Mod_word_125, e_Mod_word_126, e_Mod_word_129, e_Mod_word_130, e_Mod_word_131, e_Mod_word_132, e_Mod_word_133, e_Mod_word_136, e_Mod_word_137, e_Mod_word_138, e_Mod_word_141, e_Mod_word_141b, e_Mod_word_144, e_Mod_word_145, e_Mod_word_148, e_Mod_word_149, e_Mod_word_151, e_Mod_word_153, e_Mod_word_155, e_Mod_word_155b, e_Mod_word_158, e_Mod_word_159, e_Mod_word_161, e_Mod_word_162, e_Mod_word_165, e_Mod_word_166, e_Mod_word_167, e_Mod_word_169, e_Mod_word_172, e_Mod_word_178, e_Mod_word_181, e_Mod_word_183, e_Mod_word_184, e_Mod_word_185, e_Mod_word_186, e_Mod_word_187, e_Mod_word_188, e_Mod_word_189, e_Mod_word_190, e_Mod_word_193, e_Mod_word_195, e_Mod_word_196, e_Mod_word_199, e_Mod_word_202, e_Mod_word_204, alk_in, ask_in, blk_in, bsk_in, qlk_in, ack_in, rcv_in, rcA_in, bk_i, bk_l, bk_v, hS_same, hS_ne, hS_hS, hS_2, am_10, am_01, am_00, if_true, if_false, gf_12_0, pf_12_0, gf_12_1, pf_12_1, gf_12_2, pf_12_2, gf_12_3, pf_12_3, gf_12_4, pf_12_4, gf_12_5, pf_12_5, gf_12_6, pf_12_6, gf_12_7, pf_12_7, gf_12_8, pf_12_8, gf_12_9, pf_12_9, gf_12_10, pf_12_10, gf_12_11, pf_12_11, gf_12_12, pf_12_12, gf_12_13, pf_12_13, gf_12_14, pf_12_14, gf_12_15, pf_12_15, gf_12_16, pf_12_16, gf_12_17, pf_12_17, gf_12_18, pf_12_18, gf_12_19, pf_12_19, gf_12_20, pf_12_20, o, a, b, tl_1, tl_2, tn_1, r1, r2, jb, c1, zi, zk, c2, js]
      rw [if_pos (by omega)]; rfl
    · obtain ⟨y8, e1⟩ := ih (k + 1) (vI 0) (by omega)
      refine ⟨y8, ?_⟩
      rw [e_Mod_word_76, ← e1, e0, if_neg q]
      simp only [show ((0 : Nat) : Int) = 0 from rfl] at jo0
      by_cases q1 : B.testBit i = true
      · rw [if_pos q1] at jb
        by_cases q2 : ce k = -9
        · rw [if_pos q2] at c1
          simp (disch := omega) only [e_Mod_word_0, e_Mod_word_1, e_Mod_word_2, e_Mod_word_5, e_Mod_word_5b, e_Mod_word_8, e_Mod_word_9, e_Mod_word_10, e_Mod_word_13, e_Mod_word_13b, e_Mod_word_16, e_Mod_word_17, e_Mod_word_18, e_Mod_word_21, e_Mod_word_22, e_Mod_word_23, e_Mod_word_24, e_Mod_word_25, e_Mod_word_28, e_Mod_word_28b, e_Mod_word_31, e_Mod_word_32, e_Mod_word_33, e_Mod_word_36, e_Mod_word_36b, e_Mod_word_39, e_Mod_word_41, e_Mod_word_42, e_Mod_word_43, e_Mod_word_44, e_Mod_word_45, e_Mod_word_46, e_Mod_word_47, e_Mod_word_51, e_Mod_word_53, e_Mod_word_56, e_Mod_word_57, e_Mod_word_59, e_Mod_word_60, e_Mod_word_64, e_Mod_word_65, e_Mod_word_68, e_Mod_word_69, e_Mod_word_70, e_Mod_word_73, e_Mod_word_74, e_Mod_word_78, e_Mod_word_79, e_Mod_word_82, e_Mod_word_83, e_Mod_word_84, e_Mod_word_87, e_Mod_word_88, e_Mod_word_90, e_Mod_word_91, e_Mod_word_92, e_Mod_word_93, e_Mod_word_94, e_Mod_word_97, e_Mod_word_98, e_Mod_word_100, e_Mod_word_103, e_Mod_word_103b, e_Mod_word_106, e_Mod_word_107, e_Mod_word_110, e_Mod_word_111, e_Mod_word_113, e_Mod_word_114, e_Mod_word_115, e_Mod_word_116, e_Mod_word_119, e_Mod_word_120, e_Mod_word_122, e_Mod_word_123, e_Mod_word_124, e_Mod_word_125, e_Mod_word_126, e_Mod_word_129, e_Mod_word_130, e_Mod_word_131, e_Mod_word_132, e_Mod_word_133, e_Mod_word_136, e_Mod_word_137, e_Mod_word_138, e_Mod_word_141, e_Mod_word_141b, e_Mod_word_144, e_Mod_word_145, e_Mod_word_148, e_Mod_word_149, e_Mod_word_151, e_Mod_word_153, e_Mod_word_155, e_Mod_word_155b, e_Mod_word_158, e_Mod_word_159, e_Mod_word_161, e_Mod_word_162, e_Mod_word_165, e_Mod_word_166, e_Mod_word_167, e_Mod_word_169, e_Mod_word_172, e_Mod_word_178, e_Mod_word_181, e_Mod_word_183, e_Mod_word_184, e_Mod_word_185, e_Mod_word_186, e_Mod_word_187, e_Mod_word_188, e_Mod_word_189, e_Mod_word_190, e_Mod_word_193, e_Mod_word_195, e_Mod_word_196, e_Mod_word_199, e_Mod_word_202, e_Mod_word_204, alk_in, ask_in, blk_in, bsk_in, qlk_in, ack_in, rcv_in, rcA_in, bk_i, bk_l, bk_v, hS_same, hS_ne, hS_hS, hS_2, am_10, am_01, am_00, if_true, if_false, gf_12_0, pf_12_0, gf_12_1, pf_12_1, gf_12_2, pf_12_2, gf_12_3, pf_12_3, gf_12_4, pf_12_4, gf_12_5, pf_12_5, gf_12_6, pf_12_6, gf_12_7, pf_12_7, gf_12_8, pf_12_8, gf_12_9, pf_12_9, gf_12_10, pf_12_10, gf_12_11, pf_12_11, gf_12_12, pf_12_12, gf_12_13, pf_12_13, gf_12_14, pf_12_14, gf_12_15, pf_12_15, gf_12_16, pf_12_16, gf_12_17, pf_12_17, gf_12_18, pf_12_18, gf_12_19, pf_12_19, gf_12_20, pf_12_20, o, a, b, tl_1, tl_2, tn_1, r1, r2, jb, c1, jo0]
          rw [if_pos (by omega)]; rfl
        · rw [if_neg q2] at c1
          rw [if_neg (fun z => q ⟨q1, q2, z⟩)] at c2
          simp (disch := omega) only [e_Mod_word_0, e_Mod_word_1, e_Mod_word_2, e_Mod_word_5, e_Mod_word_5b, e_Mod_word_8, e_Mod_word_9, e_Mod_word_10, e_Mod_word_13, e_Mod_word_13b, e_Mod_word_16, e_Mod_word_17, e_Mod_word_18, e_Mod_word_21, e_Mod_word_22, e_Mod_word_23, e_Mod_word_24, e_Mod_word_25, e_Mod_word_28, e_Mod_word_28b, e_Mod_word_31, e_Mod_word_32, e_Mod_word_33, e_Mod_word_36, e_Mod_word_36b, e_Mod_word_39, e_Mod_word_41, e_Mod_word_42, e_Mod_word_43, e_Mod_word_44, e_Mod_word_45, e_Mod_word_46, e_Mod_word_47, e_Mod_word_51, e_Mod_word_53, e_Mod_word_56, e_Mod_word_57, e_Mod_word_59, e_Mod_word_60, e_Mod_word_64, e_Mod_word_65, e_Mod_word_68, e_Mod_word_69, e_Mod_word_70, e_Mod_word_73, e_Mod_word_74, e_Mod_word_78, e_Mod_word_79, e_Mod_word_82, e_Mod_word_83, e_Mod_word_84, e_Mod_word_87, e_Mod_word_88, e_Mod_word_90, e_Mod_word_91, e_Mod_word_92, e_Mod_word_93, e_Mod_word_94, e_Mod_word_97, e_Mod_word_98, e_Mod_word_100, e_Mod_word_103, e_Mod_word_103b, e_Mod_word_106, e_Mod_word_107, e_Mod_word_110, e_Mod_word_111, e_Mod_word_113, e_Mod_word_114, e_Mod_word_115, e_Mod_word_116, e_Mod_word_119, e_Mod_word_120, e_Mod_word_122, e_Mod_word_123, e_Mod_word_124, e_Mod_word_125, e_Mod_word_126, e_Mod_word_129, e_Mod_word_130, e_Mod_word_131, e_Mod_word_132, e_Mod_word_133, e_Mod_word_136, e_Mod_word_137, e_Mod_word_138, e_Mod_word_141, e_Mod_word_141b, e_Mod_word_144, e_Mod_word_145, e_Mod_word_148, e_Mod_word_149, e_Mod_word_151, e_Mod_word_153, e_Mod_word_155, e_Mod_word_155b, e_Mod_word_158, e_Mod_word_159, e_Mod_word_161, e_Mod_word_162, e_Mod_word_165, e_Mod_word_166, e_Mod_word_167, e_Mod_word_169, e_Mod_word_172, e_Mod_word_178, e_Mod_word_181, e_Mod_word_183, e_Mod_word_184, e_Mod_word_185, e_Mod_word_186, e_Mod_word_187, e_Mod_word_188, e_Mod_word_189, e_Mod_word_190, e_Mod_word_193, e_Mod_word_195, e_Mod_word_196, e_Mod_word_199, e_Mod_word_202, e_Mod_word_204, alk_in, ask_in, blk_in, bsk_in, qlk_in, ack_in, rcv_in, rcA_in, bk_i, bk_l, bk_v, hS_same, hS_ne, hS_hS, hS_2, am_10, am_01, am_00, if_true, if_false, gf_12_0, pf_12_0, gf_12_1, pf_12_1, gf_12_2, pf_12_2, gf_12_3, pf_12_3, gf_12_4, pf_12_4, gf_12_5, pf_12_5, gf_12_6, pf_12_6, gf_12_7, pf_12_7, gf_12_8, pf_12_8, gf_12_9, pf_12_9, gf_12_10, pf_12_10, gf_12_11, pf_12_11, gf_12_12, pf_12_12, gf_12_13, pf_12_13, gf_12_14, pf_12_14, gf_12_15, pf_12_15, gf_12_16, pf_12_16, gf_12_17, pf_12_17, gf_12_18, pf_12_18, gf_12_19, pf_12_19, gf_12_20, pf_12_20, o, a, b, tl_1, tl_2, tn_1, r1, r2, jb, c1, zi, zk, c2, jo0]
          rw [if_pos (by omega)]; rfl
      · rw [if_neg q1] at jb
        simp (disch := omega) only [e_Mod_word_0, e_Mod_word_1, e_Mod_word_2, e_Mod_word_5, e_Mod_word_5b, e_Mod_word_8, e_Mod_word_9, e_Mod_word_10, e_Mod_word_13, e_Mod_word_13b, e_Mod_word_16, e_Mod_word_17, e_Mod_word_18, e_Mod_word_21, e_Mod_word_22, e_Mod_word_23, e_Mod_word_24, e_Mod_word_25, e_Mod_word_28, e_Mod_word_28b, e_Mod_word_31, e_Mod_word_32, e_Mod_word_33, e_Mod_word_36, e_Mod_word_36b, e_Mod_word_39, e_Mod_word_41, e_Mod_word_42, e_Mod_word_43, e_Mod_word_44, e_Mod_word_45, e_Mod_word_46, e_Mod_word_47, e_Mod_word_51, e_Mod_word_53, e_Mod_word_56, e_Mod_word_57, e_Mod_word_59, e_Mod_word_60, e_Mod_word_64, e_Mod_word_65, e_Mod_word_68, e_Mod_word_69, e_Mod_word_70, e_Mod_word_73, e_Mod_word_74, e_Mod_word_78, e_Mod_word_79, e_Mod_word_82, e_Mod_word_83, e_Mod_word_84, e_Mod_word_87, e_Mod_word_88, e_Mod_word_90, e_Mod_word_91, e_Mod_word_92, e_Mod_word_93, e_Mod_word_94, e_Mod_word_97, e_Mod_word_98, e_Mod_word_100, e_Mod_word_103, e_Mod_word_103b, e_Mod_word_106, e_Mod_word_107, e_Mod_word_110, e_Mod_word_111, e_Mod_word_113, e_Mod_word_114, e_Mod_word_115, e_Mod_word_116, e_Mod_word_119, e_Mod_word_120, e_Mod_word_122, e_Mod_word_123, e_Mod_word_124, e_Mod_word_125, e_Mod_word_126, e_Mod_word_129, e_Mod_word_130, e_Mod_word_131, e_Mod_word_132, e_Mod_word_133, e_Mod_word_136, e_Mod_word_137, e_Mod_word_138, e_Mod_word_141, e_Mod_word_141b, e_Mod_word_144, e_Mod_word_145, e_Mod_word_148, e_Mod_word_149, e_Mod_word_151, e_Mod_word_153, e_Mod_word_155, e_Mod_word_155b, e_Mod_word_158, e_Mod_word_159, e_Mod_word_161, e_Mod_word_162, e_Mod_word_165, e_Mod_word_166, e_Mod_word_167, e_Mod_word_169, e_Mod_word_172, e_Mod_word_178, e_Mod_word_181, e_Mod_word_183, e_Mod_word_184, e_Mod_word_185, e_Mod_word_186, e_Mod_word_187, e_Mod_word_188, e_Mod_word_189, e_Mod_word_190, e_Mod_word_193, e_Mod_word_195, e_Mod_word_196, e_Mod_word_199, e_Mod_word_202, e_Mod_word_204, alk_in, ask_in, blk_in, bsk_in, qlk_in, ack_in, rcv_in, rcA_in, bk_i, bk_l, bk_v, hS_same, hS_ne, hS_hS, hS_2, am_10, am_01, am_00, if_true, if_false, gf_12_0, pf_12_0, gf_12_1, pf_12_1, gf_12_2, pf_12_2, gf_12_3, pf_12_3, gf_12_4, pf_12_4, gf_12_5, pf_12_5, gf_12_6, pf_12_6, gf_12_7, pf_12_7, gf_12_8, pf_12_8, gf_12_9, pf_12_9, gf_12_10, pf_12_10, gf_12_11, pf_12_11, gf_12_12, pf_12_12, gf_12_13, pf_12_13, gf_12_14, pf_12_14, gf_12_15, pf_12_15, gf_12_16, pf_12_16, gf_12_17, pf_12_17, gf_12_18, pf_12_18, gf_12_19, pf_12_19, gf_12_20, pf_12_20, o, a, b, tl_1, tl_2, tn_1, r1, r2, jb, jo0]
        rw [if_pos (by omega)]; rfl
theorem lm_word62 {l B : Nat} (S : RepM h n c (l : Int) t ce so ha ye) (hw : Wf n c ce so ha ye) (hl : l ≤ 3) (hB : B < 64) : ∀ (d i : Nat) (x7 x8 : am_V), i + d = n → ∃ y7 y8, gv mMod_word 62 [vR 120, vI va, vI vb, vI (B : Int), vI vt, vI ((mo2 n ce l B i : Nat) : Int), vI (i : Int), x7, x8] [] h = gv mMod_word 181 [vR 120, vI va, vI vb, vI (B : Int), vI vt, vI ((mo2 n ce l B n : Nat) : Int), vI (n : Int), y7, y8] [] h := by
  have hn := hw.1
  have S0 := S
  obtain ⟨x0, x2, x7, x11, x12, x13, x14, x15, T, F, o, a, b, r0, r1, r2, r3, r⟩ := S
  unfold MoA at o
  intro d
  induction d with
  | zero =>
    intro i x7 x8 hi
    have : i = n := by omega
    subst this
    refine ⟨x7, x8, ?_⟩
    rw [e_Mod_word_62]
    simp (disch := omega) only [e_Mod_word_0, e_Mod_word_1, e_Mod_word_2, e_Mod_word_5, e_Mod_word_5b, e_Mod_word_8, e_Mod_word_9, e_Mod_word_10, e_Mod_word_13, e_Mod_word_13b, e_Mod_word_16, e_Mod_word_17, e_Mod_word_18, e_Mod_word_21, e_Mod_word_22, e_Mod_word_23, e_Mod_word_24, e_Mod_word_25, e_Mod_word_28, e_Mod_word_28b, e_Mod_word_31, e_Mod_word_32, e_Mod_word_33, e_Mod_word_36, e_Mod_word_36b, e_Mod_word_39, e_Mod_word_41, e_Mod_word_42, e_Mod_word_43, e_Mod_word_44, e_Mod_word_45, e_Mod_word_46, e_Mod_word_47, e_Mod_word_51, e_Mod_word_53, e_Mod_word_56, e_Mod_word_57, e_Mod_word_59, e_Mod_word_60, e_Mod_word_64, e_Mod_word_65, e_Mod_word_68, e_Mod_word_69, e_Mod_word_70, e_Mod_word_73, e_Mod_word_74, e_Mod_word_78, e_Mod_word_79, e_Mod_word_82, e_Mod_word_83, e_Mod_word_84, e_Mod_word_87, e_Mod_word_88, e_Mod_word_90, e_Mod_word_91, e_Mod_word_92, e_Mod_word_93, e_Mod_word_94, e_Mod_word_97, e_Mod_word_98, e_Mod_word_100, e_Mod_word_103, e_Mod_word_103b, e_Mod_word_106, e_Mod_word_107, e_Mod_word_110, e_Mod_word_111, e_Mod_word_113, e_Mod_word_114, e_Mod_word_115, e_Mod_word_116, e_Mod_word_119, e_Mod_word_120, e_Mod_word_122, e_Mod_word_123, e_Mod_word_124, e_Mod_word_125, e_Mod_word_126, e_Mod_word_129, e_Mod_word_130, e_Mod_word_131, e_Mod_word_132, e_Mod_word_133, e_Mod_word_136, e_Mod_word_137, e_Mod_word_138, e_Mod_word_141, e_Mod_word_141b, e_Mod_word_144, e_Mod_word_145, e_Mod_word_148, e_Mod_word_149, e_Mod_word_151, e_Mod_word_153, e_Mod_word_155, e_Mod_word_155b, e_Mod_word_158, e_Mod_word_159, e_Mod_word_161, e_Mod_word_162, e_Mod_word_165, e_Mod_word_166, e_Mod_word_167, e_Mod_word_169, e_Mod_word_172, e_Mod_word_175, e_Mod_word_178, e_Mod_word_183, e_Mod_word_184, e_Mod_word_185, e_Mod_word_186, e_Mod_word_187, e_Mod_word_188, e_Mod_word_189, e_Mod_word_190, e_Mod_word_193, e_Mod_word_195, e_Mod_word_196, e_Mod_word_199, e_Mod_word_202, e_Mod_word_204, alk_in, ask_in, blk_in, bsk_in, qlk_in, ack_in, rcv_in, rcA_in, bk_i, bk_l, bk_v, hS_same, hS_ne, hS_hS, hS_2, am_10, am_01, am_00, if_true, if_false, gf_12_0, pf_12_0, gf_12_1, pf_12_1, gf_12_2, pf_12_2, gf_12_3, pf_12_3, gf_12_4, pf_12_4, gf_12_5, pf_12_5, gf_12_6, pf_12_6, gf_12_7, pf_12_7, gf_12_8, pf_12_8, gf_12_9, pf_12_9, gf_12_10, pf_12_10, gf_12_11, pf_12_11, gf_12_12, pf_12_12, gf_12_13, pf_12_13, gf_12_14, pf_12_14, gf_12_15, pf_12_15, gf_12_16, pf_12_16, gf_12_17, pf_12_17, gf_12_18, pf_12_18, gf_12_19, pf_12_19, gf_12_20, pf_12_20, o, a, tl_1, r1]
    rw [if_neg (by omega)]
  | succ d ih =>
    intro i x7 x8 hi
    obtain ⟨y8, e1⟩ := lm_word76 (va := va) (vb := vb) (vt := vt) S0 hw hl hB (mo2_b n ce l B hn hB i) (show i < n by omega) n 0 x8 (by omega)
    obtain ⟨z7, z8, e2⟩ := ih (i + 1) (vI (n : Int)) y8 (by omega)
    refine ⟨z7, z8, ?_⟩
    rw [e_Mod_word_62, ← e2]
    simp (disch := omega) only [e_Mod_word_0, e_Mod_word_1, e_Mod_word_2, e_Mod_word_5, e_Mod_word_5b, e_Mod_word_8, e_Mod_word_9, e_Mod_word_10, e_Mod_word_13, e_Mod_word_13b, e_Mod_word_16, e_Mod_word_17, e_Mod_word_18, e_Mod_word_21, e_Mod_word_22, e_Mod_word_23, e_Mod_word_24, e_Mod_word_25, e_Mod_word_28, e_Mod_word_28b, e_Mod_word_31, e_Mod_word_32, e_Mod_word_33, e_Mod_word_36, e_Mod_word_36b, e_Mod_word_39, e_Mod_word_41, e_Mod_word_42, e_Mod_word_43, e_Mod_word_44, e_Mod_word_45, e_Mod_word_46, e_Mod_word_47, e_Mod_word_51, e_Mod_word_53, e_Mod_word_56, e_Mod_word_57, e_Mod_word_59, e_Mod_word_60, e_Mod_word_64, e_Mod_word_65, e_Mod_word_68, e_Mod_word_69, e_Mod_word_70, e_Mod_word_73, e_Mod_word_74, e_Mod_word_78, e_Mod_word_79, e_Mod_word_82, e_Mod_word_83, e_Mod_word_84, e_Mod_word_87, e_Mod_word_88, e_Mod_word_90, e_Mod_word_91, e_Mod_word_92, e_Mod_word_93, e_Mod_word_94, e_Mod_word_97, e_Mod_word_98, e_Mod_word_100, e_Mod_word_103, e_Mod_word_103b, e_Mod_word_106, e_Mod_word_107, e_Mod_word_110, e_Mod_word_111, e_Mod_word_113, e_Mod_word_114, e_Mod_word_115, e_Mod_word_116, e_Mod_word_119, e_Mod_word_120, e_Mod_word_122, e_Mod_word_123, e_Mod_word_124, e_Mod_word_125, e_Mod_word_126, e_Mod_word_129, e_Mod_word_130, e_Mod_word_131, e_Mod_word_132, e_Mod_word_133, e_Mod_word_136, e_Mod_word_137, e_Mod_word_138, e_Mod_word_141, e_Mod_word_141b, e_Mod_word_144, e_Mod_word_145, e_Mod_word_148, e_Mod_word_149, e_Mod_word_151, e_Mod_word_153, e_Mod_word_155, e_Mod_word_155b, e_Mod_word_158, e_Mod_word_159, e_Mod_word_161, e_Mod_word_162, e_Mod_word_165, e_Mod_word_166, e_Mod_word_167, e_Mod_word_169, e_Mod_word_172, e_Mod_word_175, e_Mod_word_178, e_Mod_word_183, e_Mod_word_184, e_Mod_word_185, e_Mod_word_186, e_Mod_word_187, e_Mod_word_188, e_Mod_word_189, e_Mod_word_190, e_Mod_word_193, e_Mod_word_195, e_Mod_word_196, e_Mod_word_199, e_Mod_word_202, e_Mod_word_204, alk_in, ask_in, blk_in, bsk_in, qlk_in, ack_in, rcv_in, rcA_in, bk_i, bk_l, bk_v, hS_same, hS_ne, hS_hS, hS_2, am_10, am_01, am_00, if_true, if_false, gf_12_0, pf_12_0, gf_12_1, pf_12_1, gf_12_2, pf_12_2, gf_12_3, pf_12_3, gf_12_4, pf_12_4, gf_12_5, pf_12_5, gf_12_6, pf_12_6, gf_12_7, pf_12_7, gf_12_8, pf_12_8, gf_12_9, pf_12_9, gf_12_10, pf_12_10, gf_12_11, pf_12_11, gf_12_12, pf_12_12, gf_12_13, pf_12_13, gf_12_14, pf_12_14, gf_12_15, pf_12_15, gf_12_16, pf_12_16, gf_12_17, pf_12_17, gf_12_18, pf_12_18, gf_12_19, pf_12_19, gf_12_20, pf_12_20, o, a, tl_1, r1]
    rw [if_pos (by omega)]
    refine Eq.trans e1 ?_
    rw [e_Mod_word_175, e_Mod_word_178]; rfl
theorem lm_word49 {l a b : Nat} (S : RepM h n c (l : Int) t ce so ha ye) (hw : Wf n c ce so ha ye) (hl : l ≤ 3) (hk : a < n) (hi : ¬ ce a = -9) (hb : b < n) : ∀ (d k : Nat) (x5 x6 x7 x8 : am_V), k + d = 6 → gv mMod_word 49 [vR 120, vI va, vI (b : Int), vI ((WdI n ce l a k : Nat) : Int), vI ((k : Int) + 1), x5, x6, x7, x8] [] h = some (some (vI (fw (WdI n ce l a) b (k + 1) d)), h) := by
  have hn := hw.1
  intro d
  induction d with
  | zero =>
    intro k x5 x6 x7 x8 hk
    have : k = 6 := by omega
    subst this
    rw [e_Mod_word_49]
    simp (disch := omega) only [e_Mod_word_0, e_Mod_word_1, e_Mod_word_2, e_Mod_word_5, e_Mod_word_5b, e_Mod_word_8, e_Mod_word_9, e_Mod_word_10, e_Mod_word_13, e_Mod_word_13b, e_Mod_word_16, e_Mod_word_17, e_Mod_word_18, e_Mod_word_21, e_Mod_word_22, e_Mod_word_23, e_Mod_word_24, e_Mod_word_25, e_Mod_word_28, e_Mod_word_28b, e_Mod_word_31, e_Mod_word_32, e_Mod_word_33, e_Mod_word_36, e_Mod_word_36b, e_Mod_word_39, e_Mod_word_41, e_Mod_word_42, e_Mod_word_43, e_Mod_word_44, e_Mod_word_45, e_Mod_word_46, e_Mod_word_47, e_Mod_word_51, e_Mod_word_53, e_Mod_word_56, e_Mod_word_57, e_Mod_word_59, e_Mod_word_60, e_Mod_word_64, e_Mod_word_65, e_Mod_word_68, e_Mod_word_69, e_Mod_word_70, e_Mod_word_73, e_Mod_word_74, e_Mod_word_78, e_Mod_word_79, e_Mod_word_82, e_Mod_word_83, e_Mod_word_84, e_Mod_word_87, e_Mod_word_88, e_Mod_word_90, e_Mod_word_91, e_Mod_word_92, e_Mod_word_93, e_Mod_word_94, e_Mod_word_97, e_Mod_word_98, e_Mod_word_100, e_Mod_word_103, e_Mod_word_103b, e_Mod_word_106, e_Mod_word_107, e_Mod_word_110, e_Mod_word_111, e_Mod_word_113, e_Mod_word_114, e_Mod_word_115, e_Mod_word_116, e_Mod_word_119, e_Mod_word_120, e_Mod_word_122, e_Mod_word_123, e_Mod_word_124, e_Mod_word_125, e_Mod_word_126, e_Mod_word_129, e_Mod_word_130, e_Mod_word_131, e_Mod_word_132, e_Mod_word_133, e_Mod_word_136, e_Mod_word_137, e_Mod_word_138, e_Mod_word_141, e_Mod_word_141b, e_Mod_word_144, e_Mod_word_145, e_Mod_word_148, e_Mod_word_149, e_Mod_word_151, e_Mod_word_153, e_Mod_word_155, e_Mod_word_155b, e_Mod_word_158, e_Mod_word_159, e_Mod_word_161, e_Mod_word_162, e_Mod_word_165, e_Mod_word_166, e_Mod_word_167, e_Mod_word_169, e_Mod_word_172, e_Mod_word_175, e_Mod_word_178, e_Mod_word_181, e_Mod_word_183, e_Mod_word_184, e_Mod_word_185, e_Mod_word_186, e_Mod_word_187, e_Mod_word_188, e_Mod_word_189, e_Mod_word_190, e_Mod_word_193, e_Mod_word_195, e_Mod_word_196, e_Mod_word_199, e_Mod_word_202, e_Mod_word_204, alk_in, ask_in, blk_in, bsk_in, qlk_in, ack_in, rcv_in, rcA_in, bk_i, bk_l, bk_v, hS_same, hS_ne, hS_hS, hS_2, am_10, am_01, am_00, if_true, if_false]
    rw [if_pos (by omega)]; rfl
  | succ d ih =>
    intro k x5 x6 x7 x8 hkd
    have bi := WdI_I hw hl hk hi k
    have bi2 := WdI_I hw hl hk hi (k + 1)
    have jb := jbit_s _ bi2.1 b (by omega)
    have ew : mo2 n ce l (WdI n ce l a k) n = WdI n ce l a (k + 1) := mo2_tok hw hl bi n (Nat.le_refl n)
    obtain ⟨y7, y8, e1⟩ := lm_word62 (va := va) (vb := (b : Int)) (vt := (k : Int) + 1) S hw hl bi.1 n 0 x7 x8 (by omega)
    rw [ew] at e1
    have e2 := ih (k + 1) (vI ((WdI n ce l a (k + 1) : Nat) : Int)) (vI (n : Int)) y7 y8 (by omega)
    have ef : fw (WdI n ce l a) b (k + 1) (d + 1) = if (WdI n ce l a (k + 1)).testBit b = true then ((k + 1 : Nat) : Int) else fw (WdI n ce l a) b (k + 1 + 1) d := rfl
    rw [e_Mod_word_49, ef]
    simp (disch := omega) only [e_Mod_word_0, e_Mod_word_1, e_Mod_word_2, e_Mod_word_5, e_Mod_word_5b, e_Mod_word_8, e_Mod_word_9, e_Mod_word_10, e_Mod_word_13, e_Mod_word_13b, e_Mod_word_16, e_Mod_word_17, e_Mod_word_18, e_Mod_word_21, e_Mod_word_22, e_Mod_word_23, e_Mod_word_24, e_Mod_word_25, e_Mod_word_28, e_Mod_word_28b, e_Mod_word_31, e_Mod_word_32, e_Mod_word_33, e_Mod_word_36, e_Mod_word_36b, e_Mod_word_39, e_Mod_word_41, e_Mod_word_42, e_Mod_word_43, e_Mod_word_44, e_Mod_word_45, e_Mod_word_46, e_Mod_word_47, e_Mod_word_51, e_Mod_word_53, e_Mod_word_56, e_Mod_word_57, e_Mod_word_59, e_Mod_word_60, e_Mod_word_64, e_Mod_word_65, e_Mod_word_68, e_Mod_word_69, e_Mod_word_70, e_Mod_word_73, e_Mod_word_74, e_Mod_word_78, e_Mod_word_79, e_Mod_word_82, e_Mod_word_83, e_Mod_word_84, e_Mod_word_87, e_Mod_word_88, e_Mod_word_90, e_Mod_word_91, e_Mod_word_92, e_Mod_word_93, e_Mod_word_94, e_Mod_word_97, e_Mod_word_98, e_Mod_word_100, e_Mod_word_103, e_Mod_word_103b, e_Mod_word_106, e_Mod_word_107, e_Mod_word_110, e_Mod_word_111, e_Mod_word_113, e_Mod_word_114, e_Mod_word_115, e_Mod_word_116, e_Mod_word_119, e_Mod_word_120, e_Mod_word_122, e_Mod_word_123, e_Mod_word_124, e_Mod_word_125, e_Mod_word_126, e_Mod_word_129, e_Mod_word_130, e_Mod_word_131, e_Mod_word_132, e_Mod_word_133, e_Mod_word_136, e_Mod_word_137, e_Mod_word_138, e_Mod_word_141, e_Mod_word_141b, e_Mod_word_144, e_Mod_word_145, e_Mod_word_148, e_Mod_word_149, e_Mod_word_151, e_Mod_word_153, e_Mod_word_155, e_Mod_word_155b, e_Mod_word_158, e_Mod_word_159, e_Mod_word_161, e_Mod_word_162, e_Mod_word_165, e_Mod_word_166, e_Mod_word_167, e_Mod_word_169, e_Mod_word_172, e_Mod_word_175, e_Mod_word_178, e_Mod_word_181, e_Mod_word_183, e_Mod_word_184, e_Mod_word_185, e_Mod_word_186, e_Mod_word_187, e_Mod_word_188, e_Mod_word_189, e_Mod_word_190, e_Mod_word_193, e_Mod_word_195, e_Mod_word_196, e_Mod_word_199, e_Mod_word_202, e_Mod_word_204, alk_in, ask_in, blk_in, bsk_in, qlk_in, ack_in, rcv_in, rcA_in, bk_i, bk_l, bk_v, hS_same, hS_ne, hS_hS, hS_2, am_10, am_01, am_00, if_true, if_false]
    rw [if_neg (by omega)]
    refine Eq.trans e1 ?_
    by_cases q : (WdI n ce l a (k + 1)).testBit b = true
    · rw [if_pos q] at jb ⊢
      simp (disch := omega) only [e_Mod_word_0, e_Mod_word_1, e_Mod_word_2, e_Mod_word_5, e_Mod_word_5b, e_Mod_word_8, e_Mod_word_9, e_Mod_word_10, e_Mod_word_13, e_Mod_word_13b, e_Mod_word_16, e_Mod_word_17, e_Mod_word_18, e_Mod_word_21, e_Mod_word_22, e_Mod_word_23, e_Mod_word_24, e_Mod_word_25, e_Mod_word_28, e_Mod_word_28b, e_Mod_word_31, e_Mod_word_32, e_Mod_word_33, e_Mod_word_36, e_Mod_word_36b, e_Mod_word_39, e_Mod_word_41, e_Mod_word_42, e_Mod_word_43, e_Mod_word_44, e_Mod_word_45, e_Mod_word_46, e_Mod_word_47, e_Mod_word_51, e_Mod_word_53, e_Mod_word_56, e_Mod_word_57, e_Mod_word_59, e_Mod_word_60, e_Mod_word_64, e_Mod_word_65, e_Mod_word_68, e_Mod_word_69, e_Mod_word_70, e_Mod_word_73, e_Mod_word_74, e_Mod_word_78, e_Mod_word_79, e_Mod_word_82, e_Mod_word_83, e_Mod_word_84, e_Mod_word_87, e_Mod_word_88, e_Mod_word_90, e_Mod_word_91, e_Mod_word_92, e_Mod_word_93, e_Mod_word_94, e_Mod_word_97, e_Mod_word_98, e_Mod_word_100, e_Mod_word_103, e_Mod_word_103b, e_Mod_word_106, e_Mod_word_107, e_Mod_word_110, e_Mod_word_111, e_Mod_word_113, e_Mod_word_114, e_Mod_word_115, e_Mod_word_116, e_Mod_word_119, e_Mod_word_120, e_Mod_word_122, e_Mod_word_123, e_Mod_word_124, e_Mod_word_125, e_Mod_word_126, e_Mod_word_129, e_Mod_word_130, e_Mod_word_131, e_Mod_word_132, e_Mod_word_133, e_Mod_word_136, e_Mod_word_137, e_Mod_word_138, e_Mod_word_141, e_Mod_word_141b, e_Mod_word_144, e_Mod_word_145, e_Mod_word_148, e_Mod_word_149, e_Mod_word_151, e_Mod_word_153, e_Mod_word_155, e_Mod_word_155b, e_Mod_word_158, e_Mod_word_159, e_Mod_word_161, e_Mod_word_162, e_Mod_word_165, e_Mod_word_166, e_Mod_word_167, e_Mod_word_169, e_Mod_word_172, e_Mod_word_175, e_Mod_word_178, e_Mod_word_181, e_Mod_word_183, e_Mod_word_184, e_Mod_word_185, e_Mod_word_186, e_Mod_word_187, e_Mod_word_188, e_Mod_word_189, e_Mod_word_190, e_Mod_word_193, e_Mod_word_195, e_Mod_word_196, e_Mod_word_199, e_Mod_word_202, e_Mod_word_204, alk_in, ask_in, blk_in, bsk_in, qlk_in, ack_in, rcv_in, rcA_in, bk_i, bk_l, bk_v, hS_same, hS_ne, hS_hS, hS_2, am_10, am_01, am_00, if_true, if_false, jb]
      rfl
    · rw [if_neg q] at jb ⊢
      rw [← e2]
      simp (disch := omega) only [e_Mod_word_0, e_Mod_word_1, e_Mod_word_2, e_Mod_word_5, e_Mod_word_5b, e_Mod_word_8, e_Mod_word_9, e_Mod_word_10, e_Mod_word_13, e_Mod_word_13b, e_Mod_word_16, e_Mod_word_17, e_Mod_word_18, e_Mod_word_21, e_Mod_word_22, e_Mod_word_23, e_Mod_word_24, e_Mod_word_25, e_Mod_word_28, e_Mod_word_28b, e_Mod_word_31, e_Mod_word_32, e_Mod_word_33, e_Mod_word_36, e_Mod_word_36b, e_Mod_word_39, e_Mod_word_41, e_Mod_word_42, e_Mod_word_43, e_Mod_word_44, e_Mod_word_45, e_Mod_word_46, e_Mod_word_47, e_Mod_word_51, e_Mod_word_53, e_Mod_word_56, e_Mod_word_57, e_Mod_word_59, e_Mod_word_60, e_Mod_word_64, e_Mod_word_65, e_Mod_word_68, e_Mod_word_69, e_Mod_word_70, e_Mod_word_73, e_Mod_word_74, e_Mod_word_78, e_Mod_word_79, e_Mod_word_82, e_Mod_word_83, e_Mod_word_84, e_Mod_word_87, e_Mod_word_88, e_Mod_word_90, e_Mod_word_91, e_Mod_word_92, e_Mod_word_93, e_Mod_word_94, e_Mod_word_97, e_Mod_word_98, e_Mod_word_100, e_Mod_word_103, e_Mod_word_103b, e_Mod_word_106, e_Mod_word_107, e_Mod_word_110, e_Mod_word_111, e_Mod_word_113, e_Mod_word_114, e_Mod_word_115, e_Mod_word_116, e_Mod_word_119, e_Mod_word_120, e_Mod_word_122, e_Mod_word_123, e_Mod_word_124, e_Mod_word_125, e_Mod_word_126, e_Mod_word_129, e_Mod_word_130, e_Mod_word_131, e_Mod_word_132, e_Mod_word_133, e_Mod_word_136, e_Mod_word_137, e_Mod_word_138, e_Mod_word_141, e_Mod_word_141b, e_Mod_word_144, e_Mod_word_145, e_Mod_word_148, e_Mod_word_149, e_Mod_word_151, e_Mod_word_153, e_Mod_word_155, e_Mod_word_155b, e_Mod_word_158, e_Mod_word_159, e_Mod_word_161, e_Mod_word_162, e_Mod_word_165, e_Mod_word_166, e_Mod_word_167, e_Mod_word_169, e_Mod_word_172, e_Mod_word_175, e_Mod_word_178, e_Mod_word_181, e_Mod_word_183, e_Mod_word_184, e_Mod_word_185, e_Mod_word_186, e_Mod_word_187, e_Mod_word_188, e_Mod_word_189, e_Mod_word_190, e_Mod_word_193, e_Mod_word_195, e_Mod_word_196, e_Mod_word_199, e_Mod_word_202, e_Mod_word_204, alk_in, ask_in, blk_in, bsk_in, qlk_in, ack_in, rcv_in, rcA_in, bk_i, bk_l, bk_v, hS_same, hS_ne, hS_hS, hS_2, am_10, am_01, am_00, if_true, if_false, jb]
      rfl
end MWord
section MWord2
variable {h : am_H} {G : Gl} {T : Tm}
theorem q_word (S : RM h G T) (hw : WT G T) (hlo : 0 ≤ G.2.2.1 ∧ G.2.2.1 ≤ 3) {a b : Int} (ha : rg32 a) (hb : rg32 b) : ev mMod_word [vR 120, vI a, vI b] h = some (some (vI (aWord G T a b)), h) := by
  unfold rg32 at ha hb
  have hn := hw.1
  have S' : RepM h G.1 G.2.1 G.2.2.1 T.1 T.2.1 T.2.2.1 G.2.2.2 T.2.2.2 := S
  have c1 := m_isMan S' hw.1 ha
  have c2 := m_isMan S' hw.1 hb
  have S0 := S
  obtain ⟨x0, x2, x7, x11, x12, x13, x14, x15, T', F, o, -⟩ := S0
  unfold MoA at o
  unfold aWord
  rw [ev_Mod_word]
  by_cases q1 : 0 ≤ a ∧ a < G.1
  · rw [if_pos q1] at c1
    by_cases q2 : 0 ≤ b ∧ b < G.1
    · rw [if_pos q2] at c2
      by_cases q3 : a = b
      · rw [if_neg (fun z => z.2.2 q3)]
        simp (disch := omega) only [e_Mod_word_0, e_Mod_word_1, e_Mod_word_2, e_Mod_word_5, e_Mod_word_5b, e_Mod_word_8, e_Mod_word_9, e_Mod_word_10, e_Mod_word_13, e_Mod_word_13b, e_Mod_word_16, e_Mod_word_17, e_Mod_word_18, e_Mod_word_21, e_Mod_word_22, e_Mod_word_23, e_Mod_word_24, e_Mod_word_25, e_Mod_word_28, e_Mod_word_28b, e_Mod_word_31, e_Mod_word_32, e_Mod_word_33, e_Mod_word_36, e_Mod_word_36b, e_Mod_word_39, e_Mod_word_41, e_Mod_word_42, e_Mod_word_43, e_Mod_word_44, e_Mod_word_45, e_Mod_word_46, e_Mod_word_47, e_Mod_word_51, e_Mod_word_53, e_Mod_word_56, e_Mod_word_57, e_Mod_word_59, e_Mod_word_60, e_Mod_word_64, e_Mod_word_65, e_Mod_word_68, e_Mod_word_69, e_Mod_word_70, e_Mod_word_73, e_Mod_word_74, e_Mod_word_78, e_Mod_word_79, e_Mod_word_82, e_Mod_word_83, e_Mod_word_84, e_Mod_word_87, e_Mod_word_88, e_Mod_word_90, e_Mod_word_91, e_Mod_word_92, e_Mod_word_93, e_Mod_word_94, e_Mod_word_97, e_Mod_word_98, e_Mod_word_100, e_Mod_word_103, e_Mod_word_103b, e_Mod_word_106, e_Mod_word_107, e_Mod_word_110, e_Mod_word_111, e_Mod_word_113, e_Mod_word_114, e_Mod_word_115, e_Mod_word_116, e_Mod_word_119, e_Mod_word_120, e_Mod_word_122, e_Mod_word_123, e_Mod_word_124, e_Mod_word_125, e_Mod_word_126, e_Mod_word_129, e_Mod_word_130, e_Mod_word_131, e_Mod_word_132, e_Mod_word_133, e_Mod_word_136, e_Mod_word_137, e_Mod_word_138, e_Mod_word_141, e_Mod_word_141b, e_Mod_word_144, e_Mod_word_145, e_Mod_word_148, e_Mod_word_149, e_Mod_word_151, e_Mod_word_153, e_Mod_word_155, e_Mod_word_155b, e_Mod_word_158, e_Mod_word_159, e_Mod_word_161, e_Mod_word_162, e_Mod_word_165, e_Mod_word_166, e_Mod_word_167, e_Mod_word_169, e_Mod_word_172, e_Mod_word_175, e_Mod_word_178, e_Mod_word_181, e_Mod_word_183, e_Mod_word_184, e_Mod_word_185, e_Mod_word_186, e_Mod_word_187, e_Mod_word_188, e_Mod_word_189, e_Mod_word_190, e_Mod_word_193, e_Mod_word_195, e_Mod_word_196, e_Mod_word_199, e_Mod_word_202, e_Mod_word_204, alk_in, ask_in, blk_in, bsk_in, qlk_in, ack_in, rcv_in, rcA_in, bk_i, bk_l, bk_v, hS_same, hS_ne, hS_hS, hS_2, am_10, am_01, am_00, if_true, if_false, gf_12_0, pf_12_0, gf_12_1, pf_12_1, gf_12_2, pf_12_2, gf_12_3, pf_12_3, gf_12_4, pf_12_4, gf_12_5, pf_12_5, gf_12_6, pf_12_6, gf_12_7, pf_12_7, gf_12_8, pf_12_8, gf_12_9, pf_12_9, gf_12_10, pf_12_10, gf_12_11, pf_12_11, gf_12_12, pf_12_12, gf_12_13, pf_12_13, gf_12_14, pf_12_14, gf_12_15, pf_12_15, gf_12_16, pf_12_16, gf_12_17, pf_12_17, gf_12_18, pf_12_18, gf_12_19, pf_12_19, gf_12_20, pf_12_20, o, c1, c2]
        rw [if_pos q3]
      · rw [if_pos ⟨q1, q2, q3⟩]
        obtain ⟨a, rfl⟩ : ∃ k : Nat, a = (k : Int) := ⟨a.toNat, by omega⟩
        obtain ⟨b, rfl⟩ : ∃ k : Nat, b = (k : Int) := ⟨b.toNat, by omega⟩
        obtain ⟨l, hl⟩ : ∃ l : Nat, G.2.2.1 = (l : Int) := ⟨G.2.2.1.toNat, by omega⟩
        rw [Int.toNat_natCast, Int.toNat_natCast, hl, Int.toNat_natCast]
        have han : a < G.1 := by omega
        have hbn : b < G.1 := by omega
        have c3 := m_isIn S' hw han
        have c4 := m_isIn S' hw hbn
        by_cases y : T.2.1 a = -9
        · rw [if_pos y] at c3
          rw [if_neg (fun z => z.1 y)]
          simp (disch := omega) only [e_Mod_word_0, e_Mod_word_1, e_Mod_word_2, e_Mod_word_5, e_Mod_word_5b, e_Mod_word_8, e_Mod_word_9, e_Mod_word_10, e_Mod_word_13, e_Mod_word_13b, e_Mod_word_16, e_Mod_word_17, e_Mod_word_18, e_Mod_word_21, e_Mod_word_22, e_Mod_word_23, e_Mod_word_24, e_Mod_word_25, e_Mod_word_28, e_Mod_word_28b, e_Mod_word_31, e_Mod_word_32, e_Mod_word_33, e_Mod_word_36, e_Mod_word_36b, e_Mod_word_39, e_Mod_word_41, e_Mod_word_42, e_Mod_word_43, e_Mod_word_44, e_Mod_word_45, e_Mod_word_46, e_Mod_word_47, e_Mod_word_51, e_Mod_word_53, e_Mod_word_56, e_Mod_word_57, e_Mod_word_59, e_Mod_word_60, e_Mod_word_64, e_Mod_word_65, e_Mod_word_68, e_Mod_word_69, e_Mod_word_70, e_Mod_word_73, e_Mod_word_74, e_Mod_word_78, e_Mod_word_79, e_Mod_word_82, e_Mod_word_83, e_Mod_word_84, e_Mod_word_87, e_Mod_word_88, e_Mod_word_90, e_Mod_word_91, e_Mod_word_92, e_Mod_word_93, e_Mod_word_94, e_Mod_word_97, e_Mod_word_98, e_Mod_word_100, e_Mod_word_103, e_Mod_word_103b, e_Mod_word_106, e_Mod_word_107, e_Mod_word_110, e_Mod_word_111, e_Mod_word_113, e_Mod_word_114, e_Mod_word_115, e_Mod_word_116, e_Mod_word_119, e_Mod_word_120, e_Mod_word_122, e_Mod_word_123, e_Mod_word_124, e_Mod_word_125, e_Mod_word_126, e_Mod_word_129, e_Mod_word_130, e_Mod_word_131, e_Mod_word_132, e_Mod_word_133, e_Mod_word_136, e_Mod_word_137, e_Mod_word_138, e_Mod_word_141, e_Mod_word_141b, e_Mod_word_144, e_Mod_word_145, e_Mod_word_148, e_Mod_word_149, e_Mod_word_151, e_Mod_word_153, e_Mod_word_155, e_Mod_word_155b, e_Mod_word_158, e_Mod_word_159, e_Mod_word_161, e_Mod_word_162, e_Mod_word_165, e_Mod_word_166, e_Mod_word_167, e_Mod_word_169, e_Mod_word_172, e_Mod_word_175, e_Mod_word_178, e_Mod_word_181, e_Mod_word_183, e_Mod_word_184, e_Mod_word_185, e_Mod_word_186, e_Mod_word_187, e_Mod_word_188, e_Mod_word_189, e_Mod_word_190, e_Mod_word_193, e_Mod_word_195, e_Mod_word_196, e_Mod_word_199, e_Mod_word_202, e_Mod_word_204, alk_in, ask_in, blk_in, bsk_in, qlk_in, ack_in, rcv_in, rcA_in, bk_i, bk_l, bk_v, hS_same, hS_ne, hS_hS, hS_2, am_10, am_01, am_00, if_true, if_false, gf_12_0, pf_12_0, gf_12_1, pf_12_1, gf_12_2, pf_12_2, gf_12_3, pf_12_3, gf_12_4, pf_12_4, gf_12_5, pf_12_5, gf_12_6, pf_12_6, gf_12_7, pf_12_7, gf_12_8, pf_12_8, gf_12_9, pf_12_9, gf_12_10, pf_12_10, gf_12_11, pf_12_11, gf_12_12, pf_12_12, gf_12_13, pf_12_13, gf_12_14, pf_12_14, gf_12_15, pf_12_15, gf_12_16, pf_12_16, gf_12_17, pf_12_17, gf_12_18, pf_12_18, gf_12_19, pf_12_19, gf_12_20, pf_12_20, o, c1, c2, c3]
          rw [if_neg q3]
        · rw [if_neg y] at c3
          by_cases y2 : T.2.1 b = -9
          · rw [if_pos y2] at c4
            rw [if_neg (fun z => z.2 y2)]
            simp (disch := omega) only [e_Mod_word_0, e_Mod_word_1, e_Mod_word_2, e_Mod_word_5, e_Mod_word_5b, e_Mod_word_8, e_Mod_word_9, e_Mod_word_10, e_Mod_word_13, e_Mod_word_13b, e_Mod_word_16, e_Mod_word_17, e_Mod_word_18, e_Mod_word_21, e_Mod_word_22, e_Mod_word_23, e_Mod_word_24, e_Mod_word_25, e_Mod_word_28, e_Mod_word_28b, e_Mod_word_31, e_Mod_word_32, e_Mod_word_33, e_Mod_word_36, e_Mod_word_36b, e_Mod_word_39, e_Mod_word_41, e_Mod_word_42, e_Mod_word_43, e_Mod_word_44, e_Mod_word_45, e_Mod_word_46, e_Mod_word_47, e_Mod_word_51, e_Mod_word_53, e_Mod_word_56, e_Mod_word_57, e_Mod_word_59, e_Mod_word_60, e_Mod_word_64, e_Mod_word_65, e_Mod_word_68, e_Mod_word_69, e_Mod_word_70, e_Mod_word_73, e_Mod_word_74, e_Mod_word_78, e_Mod_word_79, e_Mod_word_82, e_Mod_word_83, e_Mod_word_84, e_Mod_word_87, e_Mod_word_88, e_Mod_word_90, e_Mod_word_91, e_Mod_word_92, e_Mod_word_93, e_Mod_word_94, e_Mod_word_97, e_Mod_word_98, e_Mod_word_100, e_Mod_word_103, e_Mod_word_103b, e_Mod_word_106, e_Mod_word_107, e_Mod_word_110, e_Mod_word_111, e_Mod_word_113, e_Mod_word_114, e_Mod_word_115, e_Mod_word_116, e_Mod_word_119, e_Mod_word_120, e_Mod_word_122, e_Mod_word_123, e_Mod_word_124, e_Mod_word_125, e_Mod_word_126, e_Mod_word_129, e_Mod_word_130, e_Mod_word_131, e_Mod_word_132, e_Mod_word_133, e_Mod_word_136, e_Mod_word_137, e_Mod_word_138, e_Mod_word_141, e_Mod_word_141b, e_Mod_word_144, e_Mod_word_145, e_Mod_word_148, e_Mod_word_149, e_Mod_word_151, e_Mod_word_153, e_Mod_word_155, e_Mod_word_155b, e_Mod_word_158, e_Mod_word_159, e_Mod_word_161, e_Mod_word_162, e_Mod_word_165, e_Mod_word_166, e_Mod_word_167, e_Mod_word_169, e_Mod_word_172, e_Mod_word_175, e_Mod_word_178, e_Mod_word_181, e_Mod_word_183, e_Mod_word_184, e_Mod_word_185, e_Mod_word_186, e_Mod_word_187, e_Mod_word_188, e_Mod_word_189, e_Mod_word_190, e_Mod_word_193, e_Mod_word_195, e_Mod_word_196, e_Mod_word_199, e_Mod_word_202, e_Mod_word_204, alk_in, ask_in, blk_in, bsk_in, qlk_in, ack_in, rcv_in, rcA_in, bk_i, bk_l, bk_v, hS_same, hS_ne, hS_hS, hS_2, am_10, am_01, am_00, if_true, if_false, gf_12_0, pf_12_0, gf_12_1, pf_12_1, gf_12_2, pf_12_2, gf_12_3, pf_12_3, gf_12_4, pf_12_4, gf_12_5, pf_12_5, gf_12_6, pf_12_6, gf_12_7, pf_12_7, gf_12_8, pf_12_8, gf_12_9, pf_12_9, gf_12_10, pf_12_10, gf_12_11, pf_12_11, gf_12_12, pf_12_12, gf_12_13, pf_12_13, gf_12_14, pf_12_14, gf_12_15, pf_12_15, gf_12_16, pf_12_16, gf_12_17, pf_12_17, gf_12_18, pf_12_18, gf_12_19, pf_12_19, gf_12_20, pf_12_20, o, c1, c2, c3, c4]
            rw [if_neg q3]
          · rw [if_neg y2] at c4
            rw [if_pos ⟨y, y2⟩]
            rw [hl] at S'
            have e1 := lm_word49 (va := (a : Int)) S' hw (by omega) han y hbn 6 0 vU vU vU vU (by omega)
            rw [fw_66 _ _ (Wd_sat hw (by omega) han y (by omega))] at e1
            have js := jshl_s a (by omega)
            simp (disch := omega) only [e_Mod_word_0, e_Mod_word_1, e_Mod_word_2, e_Mod_word_5, e_Mod_word_5b, e_Mod_word_8, e_Mod_word_9, e_Mod_word_10, e_Mod_word_13, e_Mod_word_13b, e_Mod_word_16, e_Mod_word_17, e_Mod_word_18, e_Mod_word_21, e_Mod_word_22, e_Mod_word_23, e_Mod_word_24, e_Mod_word_25, e_Mod_word_28, e_Mod_word_28b, e_Mod_word_31, e_Mod_word_32, e_Mod_word_33, e_Mod_word_36, e_Mod_word_36b, e_Mod_word_39, e_Mod_word_41, e_Mod_word_42, e_Mod_word_43, e_Mod_word_44, e_Mod_word_45, e_Mod_word_46, e_Mod_word_47, e_Mod_word_51, e_Mod_word_53, e_Mod_word_56, e_Mod_word_57, e_Mod_word_59, e_Mod_word_60, e_Mod_word_64, e_Mod_word_65, e_Mod_word_68, e_Mod_word_69, e_Mod_word_70, e_Mod_word_73, e_Mod_word_74, e_Mod_word_78, e_Mod_word_79, e_Mod_word_82, e_Mod_word_83, e_Mod_word_84, e_Mod_word_87, e_Mod_word_88, e_Mod_word_90, e_Mod_word_91, e_Mod_word_92, e_Mod_word_93, e_Mod_word_94, e_Mod_word_97, e_Mod_word_98, e_Mod_word_100, e_Mod_word_103, e_Mod_word_103b, e_Mod_word_106, e_Mod_word_107, e_Mod_word_110, e_Mod_word_111, e_Mod_word_113, e_Mod_word_114, e_Mod_word_115, e_Mod_word_116, e_Mod_word_119, e_Mod_word_120, e_Mod_word_122, e_Mod_word_123, e_Mod_word_124, e_Mod_word_125, e_Mod_word_126, e_Mod_word_129, e_Mod_word_130, e_Mod_word_131, e_Mod_word_132, e_Mod_word_133, e_Mod_word_136, e_Mod_word_137, e_Mod_word_138, e_Mod_word_141, e_Mod_word_141b, e_Mod_word_144, e_Mod_word_145, e_Mod_word_148, e_Mod_word_149, e_Mod_word_151, e_Mod_word_153, e_Mod_word_155, e_Mod_word_155b, e_Mod_word_158, e_Mod_word_159, e_Mod_word_161, e_Mod_word_162, e_Mod_word_165, e_Mod_word_166, e_Mod_word_167, e_Mod_word_169, e_Mod_word_172, e_Mod_word_175, e_Mod_word_178, e_Mod_word_181, e_Mod_word_183, e_Mod_word_184, e_Mod_word_185, e_Mod_word_186, e_Mod_word_187, e_Mod_word_188, e_Mod_word_189, e_Mod_word_190, e_Mod_word_193, e_Mod_word_195, e_Mod_word_196, e_Mod_word_199, e_Mod_word_202, e_Mod_word_204, alk_in, ask_in, blk_in, bsk_in, qlk_in, ack_in, rcv_in, rcA_in, bk_i, bk_l, bk_v, hS_same, hS_ne, hS_hS, hS_2, am_10, am_01, am_00, if_true, if_false, gf_12_0, pf_12_0, gf_12_1, pf_12_1, gf_12_2, pf_12_2, gf_12_3, pf_12_3, gf_12_4, pf_12_4, gf_12_5, pf_12_5, gf_12_6, pf_12_6, gf_12_7, pf_12_7, gf_12_8, pf_12_8, gf_12_9, pf_12_9, gf_12_10, pf_12_10, gf_12_11, pf_12_11, gf_12_12, pf_12_12, gf_12_13, pf_12_13, gf_12_14, pf_12_14, gf_12_15, pf_12_15, gf_12_16, pf_12_16, gf_12_17, pf_12_17, gf_12_18, pf_12_18, gf_12_19, pf_12_19, gf_12_20, pf_12_20, o, c1, c2, c3, c4, js]
            rw [if_neg q3]
            exact e1
    · rw [if_neg q2] at c2
      rw [if_neg (fun z => q2 z.2.1)]
      simp (disch := omega) only [e_Mod_word_0, e_Mod_word_1, e_Mod_word_2, e_Mod_word_5, e_Mod_word_5b, e_Mod_word_8, e_Mod_word_9, e_Mod_word_10, e_Mod_word_13, e_Mod_word_13b, e_Mod_word_16, e_Mod_word_17, e_Mod_word_18, e_Mod_word_21, e_Mod_word_22, e_Mod_word_23, e_Mod_word_24, e_Mod_word_25, e_Mod_word_28, e_Mod_word_28b, e_Mod_word_31, e_Mod_word_32, e_Mod_word_33, e_Mod_word_36, e_Mod_word_36b, e_Mod_word_39, e_Mod_word_41, e_Mod_word_42, e_Mod_word_43, e_Mod_word_44, e_Mod_word_45, e_Mod_word_46, e_Mod_word_47, e_Mod_word_51, e_Mod_word_53, e_Mod_word_56, e_Mod_word_57, e_Mod_word_59, e_Mod_word_60, e_Mod_word_64, e_Mod_word_65, e_Mod_word_68, e_Mod_word_69, e_Mod_word_70, e_Mod_word_73, e_Mod_word_74, e_Mod_word_78, e_Mod_word_79, e_Mod_word_82, e_Mod_word_83, e_Mod_word_84, e_Mod_word_87, e_Mod_word_88, e_Mod_word_90, e_Mod_word_91, e_Mod_word_92, e_Mod_word_93, e_Mod_word_94, e_Mod_word_97, e_Mod_word_98, e_Mod_word_100, e_Mod_word_103, e_Mod_word_103b, e_Mod_word_106, e_Mod_word_107, e_Mod_word_110, e_Mod_word_111, e_Mod_word_113, e_Mod_word_114, e_Mod_word_115, e_Mod_word_116, e_Mod_word_119, e_Mod_word_120, e_Mod_word_122, e_Mod_word_123, e_Mod_word_124, e_Mod_word_125, e_Mod_word_126, e_Mod_word_129, e_Mod_word_130, e_Mod_word_131, e_Mod_word_132, e_Mod_word_133, e_Mod_word_136, e_Mod_word_137, e_Mod_word_138, e_Mod_word_141, e_Mod_word_141b, e_Mod_word_144, e_Mod_word_145, e_Mod_word_148, e_Mod_word_149, e_Mod_word_151, e_Mod_word_153, e_Mod_word_155, e_Mod_word_155b, e_Mod_word_158, e_Mod_word_159, e_Mod_word_161, e_Mod_word_162, e_Mod_word_165, e_Mod_word_166, e_Mod_word_167, e_Mod_word_169, e_Mod_word_172, e_Mod_word_175, e_Mod_word_178, e_Mod_word_181, e_Mod_word_183, e_Mod_word_184, e_Mod_word_185, e_Mod_word_186, e_Mod_word_187, e_Mod_word_188, e_Mod_word_189, e_Mod_word_190, e_Mod_word_193, e_Mod_word_195, e_Mod_word_196, e_Mod_word_199, e_Mod_word_202, e_Mod_word_204, alk_in, ask_in, blk_in, bsk_in, qlk_in, ack_in, rcv_in, rcA_in, bk_i, bk_l, bk_v, hS_same, hS_ne, hS_hS, hS_2, am_10, am_01, am_00, if_true, if_false, gf_12_0, pf_12_0, gf_12_1, pf_12_1, gf_12_2, pf_12_2, gf_12_3, pf_12_3, gf_12_4, pf_12_4, gf_12_5, pf_12_5, gf_12_6, pf_12_6, gf_12_7, pf_12_7, gf_12_8, pf_12_8, gf_12_9, pf_12_9, gf_12_10, pf_12_10, gf_12_11, pf_12_11, gf_12_12, pf_12_12, gf_12_13, pf_12_13, gf_12_14, pf_12_14, gf_12_15, pf_12_15, gf_12_16, pf_12_16, gf_12_17, pf_12_17, gf_12_18, pf_12_18, gf_12_19, pf_12_19, gf_12_20, pf_12_20, o, c1, c2]
  · rw [if_neg q1] at c1
    rw [if_neg (fun z => q1 z.1)]
    simp (disch := omega) only [e_Mod_word_0, e_Mod_word_1, e_Mod_word_2, e_Mod_word_5, e_Mod_word_5b, e_Mod_word_8, e_Mod_word_9, e_Mod_word_10, e_Mod_word_13, e_Mod_word_13b, e_Mod_word_16, e_Mod_word_17, e_Mod_word_18, e_Mod_word_21, e_Mod_word_22, e_Mod_word_23, e_Mod_word_24, e_Mod_word_25, e_Mod_word_28, e_Mod_word_28b, e_Mod_word_31, e_Mod_word_32, e_Mod_word_33, e_Mod_word_36, e_Mod_word_36b, e_Mod_word_39, e_Mod_word_41, e_Mod_word_42, e_Mod_word_43, e_Mod_word_44, e_Mod_word_45, e_Mod_word_46, e_Mod_word_47, e_Mod_word_51, e_Mod_word_53, e_Mod_word_56, e_Mod_word_57, e_Mod_word_59, e_Mod_word_60, e_Mod_word_64, e_Mod_word_65, e_Mod_word_68, e_Mod_word_69, e_Mod_word_70, e_Mod_word_73, e_Mod_word_74, e_Mod_word_78, e_Mod_word_79, e_Mod_word_82, e_Mod_word_83, e_Mod_word_84, e_Mod_word_87, e_Mod_word_88, e_Mod_word_90, e_Mod_word_91, e_Mod_word_92, e_Mod_word_93, e_Mod_word_94, e_Mod_word_97, e_Mod_word_98, e_Mod_word_100, e_Mod_word_103, e_Mod_word_103b, e_Mod_word_106, e_Mod_word_107, e_Mod_word_110, e_Mod_word_111, e_Mod_word_113, e_Mod_word_114, e_Mod_word_115, e_Mod_word_116, e_Mod_word_119, e_Mod_word_120, e_Mod_word_122, e_Mod_word_123, e_Mod_word_124, e_Mod_word_125, e_Mod_word_126, e_Mod_word_129, e_Mod_word_130, e_Mod_word_131, e_Mod_word_132, e_Mod_word_133, e_Mod_word_136, e_Mod_word_137, e_Mod_word_138, e_Mod_word_141, e_Mod_word_141b, e_Mod_word_144, e_Mod_word_145, e_Mod_word_148, e_Mod_word_149, e_Mod_word_151, e_Mod_word_153, e_Mod_word_155, e_Mod_word_155b, e_Mod_word_158, e_Mod_word_159, e_Mod_word_161, e_Mod_word_162, e_Mod_word_165, e_Mod_word_166, e_Mod_word_167, e_Mod_word_169, e_Mod_word_172, e_Mod_word_175, e_Mod_word_178, e_Mod_word_181, e_Mod_word_183, e_Mod_word_184, e_Mod_word_185, e_Mod_word_186, e_Mod_word_187, e_Mod_word_188, e_Mod_word_189, e_Mod_word_190, e_Mod_word_193, e_Mod_word_195, e_Mod_word_196, e_Mod_word_199, e_Mod_word_202, e_Mod_word_204, alk_in, ask_in, blk_in, bsk_in, qlk_in, ack_in, rcv_in, rcA_in, bk_i, bk_l, bk_v, hS_same, hS_ne, hS_hS, hS_2, am_10, am_01, am_00, if_true, if_false, gf_12_0, pf_12_0, gf_12_1, pf_12_1, gf_12_2, pf_12_2, gf_12_3, pf_12_3, gf_12_4, pf_12_4, gf_12_5, pf_12_5, gf_12_6, pf_12_6, gf_12_7, pf_12_7, gf_12_8, pf_12_8, gf_12_9, pf_12_9, gf_12_10, pf_12_10, gf_12_11, pf_12_11, gf_12_12, pf_12_12, gf_12_13, pf_12_13, gf_12_14, pf_12_14, gf_12_15, pf_12_15, gf_12_16, pf_12_16, gf_12_17, pf_12_17, gf_12_18, pf_12_18, gf_12_19, pf_12_19, gf_12_20, pf_12_20, o, c1]
end MWord2
