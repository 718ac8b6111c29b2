/-! making the class's object -/
theorem c_iMan {h : am_H} {a : Nat} : ev mMan_init [vR a] h = some (none, h) := by
  rw [ev_Man_init]
  simp (disch := omega) only [e_Man_init_0, e_Man_init_1, e_Man_init_4, alk_in, ask_in, blk_in, bsk_in, qlk_in, ack_in, rcv_in, rcA_in, bk_i, bk_l, bk_v, hS_same, hS_ne, hS_hS, hS_2, am_10, am_01, am_00, if_true, if_false]
theorem c_iThief {h : am_H} {a ci : Nat} {fs : List am_V} (O : h.1 a = cO ci fs) : ev mThief_init [vR a] h = some (none, h) := by
  rw [ev_Thief_init]
  simp (disch := omega) only [e_Thief_init_0, e_Thief_init_1, e_Thief_init_4, alk_in, ask_in, blk_in, bsk_in, qlk_in, ack_in, rcv_in, rcA_in, bk_i, bk_l, bk_v, hS_same, hS_ne, hS_hS, hS_2, am_10, am_01, am_00, if_true, if_false, O, c_iMan]
theorem c_iBoy {h : am_H} {a ci : Nat} {fs : List am_V} (O : h.1 a = cO ci fs) : ev mBoy_init [vR a] h = some (none, h) := by
  rw [ev_Boy_init]
  simp (disch := omega) only [e_Boy_init_0, e_Boy_init_1, e_Boy_init_4, alk_in, ask_in, blk_in, bsk_in, qlk_in, ack_in, rcv_in, rcA_in, bk_i, bk_l, bk_v, hS_same, hS_ne, hS_hS, hS_2, am_10, am_01, am_00, if_true, if_false, O, c_iMan]
theorem c_iWarder {h : am_H} {a ci : Nat} {fs : List am_V} (O : h.1 a = cO ci fs) : ev mWarder_init [vR a] h = some (none, h) := by
  rw [ev_Warder_init]
  simp (disch := omega) only [e_Warder_init_0, e_Warder_init_1, e_Warder_init_4, alk_in, ask_in, blk_in, bsk_in, qlk_in, ack_in, rcv_in, rcA_in, bk_i, bk_l, bk_v, hS_same, hS_ne, hS_hS, hS_2, am_10, am_01, am_00, if_true, if_false, O, c_iMan]
theorem c_iLawyer {h : am_H} {a ci : Nat} {fs : List am_V} (O : h.1 a = cO ci fs) : ev mLawyer_init [vR a] h = some (none, h) := by
  have c1 := c_iThief O
  rw [ev_Lawyer_init]
  simp (disch := omega) only [e_Lawyer_init_0, e_Lawyer_init_1, e_Lawyer_init_4, alk_in, ask_in, blk_in, bsk_in, qlk_in, ack_in, rcv_in, rcA_in, bk_i, bk_l, bk_v, hS_same, hS_ne, hS_hS, hS_2, am_10, am_01, am_00, if_true, if_false, O, c1]
theorem c_iPear {h : am_H} {a ci : Nat} {fs : List am_V} (O : h.1 a = cO ci fs) : ev mPear_init [vR a] h = some (none, h) := by
  have c1 := c_iBoy O
  rw [ev_Pear_init]
  simp (disch := omega) only [e_Pear_init_0, e_Pear_init_1, e_Pear_init_4, alk_in, ask_in, blk_in, bsk_in, qlk_in, ack_in, rcv_in, rcA_in, bk_i, bk_l, bk_v, hS_same, hS_ne, hS_hS, hS_2, am_10, am_01, am_00, if_true, if_false, O, c1]
theorem c_iTally {h : am_H} {a : Nat} : ev mTally_init [vR a] h = some (none, h) := by
  rw [ev_Tally_init]
  simp (disch := omega) only [e_Tally_init_0, e_Tally_init_1, e_Tally_init_4, alk_in, ask_in, blk_in, bsk_in, qlk_in, ack_in, rcv_in, rcA_in, bk_i, bk_l, bk_v, hS_same, hS_ne, hS_hS, hS_2, am_10, am_01, am_00, if_true, if_false]
section Init2
variable {y0 y1 y2 y3 y4 y5 y6 y7 y8 y9 y10 y11 : am_V}
theorem li_past : ∀ (d k : Nat) (h : am_H) (P : Nat → Option Nat), k + d = 10 → h.1 1 = cO 11 [y0, y1, y2, y3, vR 22, y5, y6, y7, y8, y9, y10, y11] → h.2.1 = 42 + 6 * k → h.1 22 = cQ 2 10 P → (∀ j, j < k → P j = some (42 + 6 * j) ∧ ScSh h (42 + 6 * j)) → ∃ h' P', gv mCell_init 110 [vR 1, vI (k : Int)] [] h = gv mCell_init 135 [vR 1, vI 10] [] h' ∧ h'.1 22 = cQ 2 10 P' ∧ (∀ j, j < 10 → P' j = some (42 + 6 * j) ∧ ScSh h' (42 + 6 * j)) ∧ h'.2.1 = 102 ∧ h'.2.2 = h.2.2 + 41 * d ∧ ∀ x, x < 42 → ¬ x = 22 → h'.1 x = h.1 x := by
  intro d
  induction d with
  | zero =>
    intro k h P hk O hn P1 H
    have : k = 10 := by omega
    subst this
    refine ⟨h, P, ?_, P1, H, by omega, by omega, fun x _ _ => rfl⟩
    rw [e_Cell_init_110]
    simp (disch := omega) only [e_Cell_init_0, e_Cell_init_1, e_Cell_init_4, e_Cell_init_5, e_Cell_init_8, e_Cell_init_9, e_Cell_init_12, e_Cell_init_15, e_Cell_init_16, e_Cell_init_19, e_Cell_init_20, e_Cell_init_23, e_Cell_init_26, e_Cell_init_27, e_Cell_init_30, e_Cell_init_31, e_Cell_init_34, e_Cell_init_37, e_Cell_init_38, e_Cell_init_40, e_Cell_init_43, e_Cell_init_46, e_Cell_init_47, e_Cell_init_48, e_Cell_init_51, e_Cell_init_54, e_Cell_init_55, e_Cell_init_56, e_Cell_init_58, e_Cell_init_61, e_Cell_init_62, e_Cell_init_65, e_Cell_init_66, e_Cell_init_69, e_Cell_init_72, e_Cell_init_73, e_Cell_init_76, e_Cell_init_77, e_Cell_init_80, e_Cell_init_83, e_Cell_init_84, e_Cell_init_86, e_Cell_init_89, e_Cell_init_92, e_Cell_init_93, e_Cell_init_96, e_Cell_init_97, e_Cell_init_100, e_Cell_init_103, e_Cell_init_104, e_Cell_init_105, e_Cell_init_108, e_Cell_init_109, e_Cell_init_111, e_Cell_init_113, e_Cell_init_116, e_Cell_init_117, e_Cell_init_120, e_Cell_init_121, e_Cell_init_124, e_Cell_init_125, e_Cell_init_128, e_Cell_init_129, e_Cell_init_132, e_Cell_init_136, e_Cell_init_137, e_Cell_init_138, e_Cell_init_139, e_Cell_init_142, e_Cell_init_143, e_Cell_init_146, e_Cell_init_147, e_Cell_init_150, e_Cell_init_151, e_Cell_init_154, e_Cell_init_155, e_Cell_init_158, e_Cell_init_161, e_Cell_init_162, e_Cell_init_165, e_Cell_init_166, e_Cell_init_169, e_Cell_init_170, e_Cell_init_173, e_Cell_init_174, e_Cell_init_175, e_Cell_init_178, e_Cell_init_179, e_Cell_init_182, e_Cell_init_183, e_Cell_init_186, e_Cell_init_187, e_Cell_init_188, e_Cell_init_191, e_Cell_init_192, e_Cell_init_195, e_Cell_init_196, e_Cell_init_199, e_Cell_init_200, e_Cell_init_201, e_Cell_init_204, e_Cell_init_205, e_Cell_init_208, e_Cell_init_209, e_Cell_init_212, e_Cell_init_213, e_Cell_init_214, e_Cell_init_217, e_Cell_init_218, e_Cell_init_221, e_Cell_init_222, e_Cell_init_225, e_Cell_init_226, e_Cell_init_227, e_Cell_init_230, e_Cell_init_231, e_Cell_init_234, e_Cell_init_235, e_Cell_init_238, e_Cell_init_239, alk_in, ask_in, blk_in, bsk_in, qlk_in, ack_in, rcv_in, rcA_in, bk_i, bk_l, bk_v, hS_same, hS_ne, hS_hS, hS_2, am_10, am_01, am_00, if_true, if_false]
    rw [if_neg (by omega)]; rfl
  | succ d ih =>
    intro k h P hk O hn P1 H
    obtain ⟨h2, ce, so, ha, ye, I, e2, S2, I2, a1, a2, a3⟩ := d_sinit (h := hA h (cO 5 [vI 0, vI 0, vI 0, vN, vN, vN, vN, vN]) 8) (b := 42 + 6 * k) (hA_at hn.symm) (by rw [hA_21, hn])
    have e29 : (hA h (cO 5 [vI 0, vI 0, vI 0, vN, vN, vN, vN, vN]) 8).1 (42 + 6 * k) = cO 5 [vI 0, vI 0, vI 0, vN, vN, vN, vN, vN] := hA_at hn.symm
    have fr : ∀ x, x < 42 + 6 * k → h2.1 x = h.1 x := fun x hx => by rw [a3 x (by omega) (by omega), hA_ne (by omega)]
    have P2 := (fr 22 (by omega)).trans P1
    have fr3 : ∀ x, x < 42 + 6 * k → ¬ x = 22 → (hS h2 22 (cQ 2 10 (fun j => if j = k then some (42 + 6 * k) else P j))).1 x = h.1 x := fun x hx h22 => by rw [hS_ne h22]; exact fr x hx
    obtain ⟨h4, P', e4, P4, H4, n4, r4, f4⟩ := ih (k + 1) (hS h2 22 (cQ 2 10 (fun j => if j = k then some (42 + 6 * k) else P j))) _ (by omega) ((fr3 1 (by omega) (by omega)).trans O) (show h2.2.1 = _ by rw [a1]; omega) hS_same (fun j hj => by
      by_cases q : j = k
      · subst q
        exact ⟨if_pos rfl, ScSh.on ⟨_, _, _, _, _, _, _, _, S2⟩ (fun x hx => hS_ne (by omega))⟩
      · exact ⟨(if_neg q).trans (H j (by omega)).1, (H j (by omega)).2.on (fun x hx => fr3 x (by omega) (by omega))⟩)
    refine ⟨h4, P', ?_, P4, H4, n4, ?_, fun x hx h22 => (f4 x hx h22).trans (fr3 x (by omega) h22)⟩
    · have s0 := S2.1
      rw [e_Cell_init_110, ← e4]
      simp (disch := omega) only [e_Cell_init_0, e_Cell_init_1, e_Cell_init_4, e_Cell_init_5, e_Cell_init_8, e_Cell_init_9, e_Cell_init_12, e_Cell_init_15, e_Cell_init_16, e_Cell_init_19, e_Cell_init_20, e_Cell_init_23, e_Cell_init_26, e_Cell_init_27, e_Cell_init_30, e_Cell_init_31, e_Cell_init_34, e_Cell_init_37, e_Cell_init_38, e_Cell_init_40, e_Cell_init_43, e_Cell_init_46, e_Cell_init_47, e_Cell_init_48, e_Cell_init_51, e_Cell_init_54, e_Cell_init_55, e_Cell_init_56, e_Cell_init_58, e_Cell_init_61, e_Cell_init_62, e_Cell_init_65, e_Cell_init_66, e_Cell_init_69, e_Cell_init_72, e_Cell_init_73, e_Cell_init_76, e_Cell_init_77, e_Cell_init_80, e_Cell_init_83, e_Cell_init_84, e_Cell_init_86, e_Cell_init_89, e_Cell_init_92, e_Cell_init_93, e_Cell_init_96, e_Cell_init_97, e_Cell_init_100, e_Cell_init_103, e_Cell_init_104, e_Cell_init_105, e_Cell_init_108, e_Cell_init_109, e_Cell_init_111, e_Cell_init_113, e_Cell_init_116, e_Cell_init_117, e_Cell_init_120, e_Cell_init_121, e_Cell_init_124, e_Cell_init_125, e_Cell_init_128, e_Cell_init_129, e_Cell_init_132, e_Cell_init_136, e_Cell_init_137, e_Cell_init_138, e_Cell_init_139, e_Cell_init_142, e_Cell_init_143, e_Cell_init_146, e_Cell_init_147, e_Cell_init_150, e_Cell_init_151, e_Cell_init_154, e_Cell_init_155, e_Cell_init_158, e_Cell_init_161, e_Cell_init_162, e_Cell_init_165, e_Cell_init_166, e_Cell_init_169, e_Cell_init_170, e_Cell_init_173, e_Cell_init_174, e_Cell_init_175, e_Cell_init_178, e_Cell_init_179, e_Cell_init_182, e_Cell_init_183, e_Cell_init_186, e_Cell_init_187, e_Cell_init_188, e_Cell_init_191, e_Cell_init_192, e_Cell_init_195, e_Cell_init_196, e_Cell_init_199, e_Cell_init_200, e_Cell_init_201, e_Cell_init_204, e_Cell_init_205, e_Cell_init_208, e_Cell_init_209, e_Cell_init_212, e_Cell_init_213, e_Cell_init_214, e_Cell_init_217, e_Cell_init_218, e_Cell_init_221, e_Cell_init_222, e_Cell_init_225, e_Cell_init_226, e_Cell_init_227, e_Cell_init_230, e_Cell_init_231, e_Cell_init_234, e_Cell_init_235, e_Cell_init_238, e_Cell_init_239, alk_in, ask_in, blk_in, bsk_in, qlk_in, ack_in, rcv_in, rcA_in, bk_i, bk_l, bk_v, hS_same, hS_ne, hS_hS, hS_2, am_10, am_01, am_00, if_true, if_false, qsk_5, gf_11_0, pf_11_0, gf_11_1, pf_11_1, gf_11_2, pf_11_2, gf_11_3, pf_11_3, gf_11_4, pf_11_4, gf_11_5, pf_11_5, gf_11_6, pf_11_6, gf_11_7, pf_11_7, gf_11_8, pf_11_8, gf_11_9, pf_11_9, gf_11_10, pf_11_10, gf_11_11, pf_11_11, O, hn, e29, e2, P2, s0, Int.toNat_natCast]
      rw [if_pos (by omega)]; rfl
    · have z : (hS h2 22 (cQ 2 10 (fun j => if j = k then some (42 + 6 * k) else P j))).2.2 = h2.2.2 := rfl
      rw [z, a2, hA_22] at r4
      omega
theorem li_im : ∀ (d k : Nat) (h : am_H) (P : Nat → Option Nat), k + d = 2 → h.1 1 = cO 11 [y0, y1, y2, y3, y4, y5, vR 23, y7, y8, y9, y10, y11] → h.2.1 = 102 + 6 * k → h.1 23 = cQ 2 2 P → (∀ j, j < k → P j = some (102 + 6 * j) ∧ ScSh h (102 + 6 * j)) → ∃ h' P', gv mCell_init 137 [vR 1, vI (k : Int)] [] h = gv mCell_init 161 [vR 1, vI 2] [] h' ∧ h'.1 23 = cQ 2 2 P' ∧ (∀ j, j < 2 → P' j = some (102 + 6 * j) ∧ ScSh h' (102 + 6 * j)) ∧ h'.2.1 = 114 ∧ h'.2.2 = h.2.2 + 41 * d ∧ ∀ x, x < 102 → ¬ x = 23 → h'.1 x = h.1 x := by
  intro d
  induction d with
  | zero =>
    intro k h P hk O hn P1 H
    have : k = 2 := by omega
    subst this
    refine ⟨h, P, ?_, P1, H, by omega, by omega, fun x _ _ => rfl⟩
    rw [e_Cell_init_137]
    simp (disch := omega) only [e_Cell_init_0, e_Cell_init_1, e_Cell_init_4, e_Cell_init_5, e_Cell_init_8, e_Cell_init_9, e_Cell_init_12, e_Cell_init_15, e_Cell_init_16, e_Cell_init_19, e_Cell_init_20, e_Cell_init_23, e_Cell_init_26, e_Cell_init_27, e_Cell_init_30, e_Cell_init_31, e_Cell_init_34, e_Cell_init_37, e_Cell_init_38, e_Cell_init_40, e_Cell_init_43, e_Cell_init_46, e_Cell_init_47, e_Cell_init_48, e_Cell_init_51, e_Cell_init_54, e_Cell_init_55, e_Cell_init_56, e_Cell_init_58, e_Cell_init_61, e_Cell_init_62, e_Cell_init_65, e_Cell_init_66, e_Cell_init_69, e_Cell_init_72, e_Cell_init_73, e_Cell_init_76, e_Cell_init_77, e_Cell_init_80, e_Cell_init_83, e_Cell_init_84, e_Cell_init_86, e_Cell_init_89, e_Cell_init_92, e_Cell_init_93, e_Cell_init_96, e_Cell_init_97, e_Cell_init_100, e_Cell_init_103, e_Cell_init_104, e_Cell_init_105, e_Cell_init_108, e_Cell_init_109, e_Cell_init_110, e_Cell_init_111, e_Cell_init_113, e_Cell_init_116, e_Cell_init_117, e_Cell_init_120, e_Cell_init_121, e_Cell_init_124, e_Cell_init_125, e_Cell_init_128, e_Cell_init_129, e_Cell_init_132, e_Cell_init_135, e_Cell_init_136, e_Cell_init_138, e_Cell_init_139, e_Cell_init_142, e_Cell_init_143, e_Cell_init_146, e_Cell_init_147, e_Cell_init_150, e_Cell_init_151, e_Cell_init_154, e_Cell_init_155, e_Cell_init_158, e_Cell_init_162, e_Cell_init_165, e_Cell_init_166, e_Cell_init_169, e_Cell_init_170, e_Cell_init_173, e_Cell_init_174, e_Cell_init_175, e_Cell_init_178, e_Cell_init_179, e_Cell_init_182, e_Cell_init_183, e_Cell_init_186, e_Cell_init_187, e_Cell_init_188, e_Cell_init_191, e_Cell_init_192, e_Cell_init_195, e_Cell_init_196, e_Cell_init_199, e_Cell_init_200, e_Cell_init_201, e_Cell_init_204, e_Cell_init_205, e_Cell_init_208, e_Cell_init_209, e_Cell_init_212, e_Cell_init_213, e_Cell_init_214, e_Cell_init_217, e_Cell_init_218, e_Cell_init_221, e_Cell_init_222, e_Cell_init_225, e_Cell_init_226, e_Cell_init_227, e_Cell_init_230, e_Cell_init_231, e_Cell_init_234, e_Cell_init_235, e_Cell_init_238, e_Cell_init_239, alk_in, ask_in, blk_in, bsk_in, qlk_in, ack_in, rcv_in, rcA_in, bk_i, bk_l, bk_v, hS_same, hS_ne, hS_hS, hS_2, am_10, am_01, am_00, if_true, if_false]
    rw [if_neg (by omega)]; rfl
  | succ d ih =>
    intro k h P hk O hn P1 H
    obtain ⟨h2, ce, so, ha, ye, I, e2, S2, I2, a1, a2, a3⟩ := d_sinit (h := hA h (cO 5 [vI 0, vI 0, vI 0, vN, vN, vN, vN, vN]) 8) (b := 102 + 6 * k) (hA_at hn.symm) (by rw [hA_21, hn])
    have e29 : (hA h (cO 5 [vI 0, vI 0, vI 0, vN, vN, vN, vN, vN]) 8).1 (102 + 6 * k) = cO 5 [vI 0, vI 0, vI 0, vN, vN, vN, vN, vN] := hA_at hn.symm
    have fr : ∀ x, x < 102 + 6 * k → h2.1 x = h.1 x := fun x hx => by rw [a3 x (by omega) (by omega), hA_ne (by omega)]
    have P2 := (fr 23 (by omega)).trans P1
    have fr3 : ∀ x, x < 102 + 6 * k → ¬ x = 23 → (hS h2 23 (cQ 2 2 (fun j => if j = k then some (102 + 6 * k) else P j))).1 x = h.1 x := fun x hx h22 => by rw [hS_ne h22]; exact fr x hx
    obtain ⟨h4, P', e4, P4, H4, n4, r4, f4⟩ := ih (k + 1) (hS h2 23 (cQ 2 2 (fun j => if j = k then some (102 + 6 * k) else P j))) _ (by omega) ((fr3 1 (by omega) (by omega)).trans O) (show h2.2.1 = _ by rw [a1]; omega) hS_same (fun j hj => by
      by_cases q : j = k
      · subst q
        exact ⟨if_pos rfl, ScSh.on ⟨_, _, _, _, _, _, _, _, S2⟩ (fun x hx => hS_ne (by omega))⟩
      · exact ⟨(if_neg q).trans (H j (by omega)).1, (H j (by omega)).2.on (fun x hx => fr3 x (by omega) (by omega))⟩)
    refine ⟨h4, P', ?_, P4, H4, n4, ?_, fun x hx h22 => (f4 x hx h22).trans (fr3 x (by omega) h22)⟩
    · have s0 := S2.1
      rw [e_Cell_init_137, ← e4]
      simp (disch := omega) only [e_Cell_init_0, e_Cell_init_1, e_Cell_init_4, e_Cell_init_5, e_Cell_init_8, e_Cell_init_9, e_Cell_init_12, e_Cell_init_15, e_Cell_init_16, e_Cell_init_19, e_Cell_init_20, e_Cell_init_23, e_Cell_init_26, e_Cell_init_27, e_Cell_init_30, e_Cell_init_31, e_Cell_init_34, e_Cell_init_37, e_Cell_init_38, e_Cell_init_40, e_Cell_init_43, e_Cell_init_46, e_Cell_init_47, e_Cell_init_48, e_Cell_init_51, e_Cell_init_54, e_Cell_init_55, e_Cell_init_56, e_Cell_init_58, e_Cell_init_61, e_Cell_init_62, e_Cell_init_65, e_Cell_init_66, e_Cell_init_69, e_Cell_init_72, e_Cell_init_73, e_Cell_init_76, e_Cell_init_77, e_Cell_init_80, e_Cell_init_83, e_Cell_init_84, e_Cell_init_86, e_Cell_init_89, e_Cell_init_92, e_Cell_init_93, e_Cell_init_96, e_Cell_init_97, e_Cell_init_100, e_Cell_init_103, e_Cell_init_104, e_Cell_init_105, e_Cell_init_108, e_Cell_init_109, e_Cell_init_110, e_Cell_init_111, e_Cell_init_113, e_Cell_init_116, e_Cell_init_117, e_Cell_init_120, e_Cell_init_121, e_Cell_init_124, e_Cell_init_125, e_Cell_init_128, e_Cell_init_129, e_Cell_init_132, e_Cell_init_135, e_Cell_init_136, e_Cell_init_138, e_Cell_init_139, e_Cell_init_142, e_Cell_init_143, e_Cell_init_146, e_Cell_init_147, e_Cell_init_150, e_Cell_init_151, e_Cell_init_154, e_Cell_init_155, e_Cell_init_158, e_Cell_init_162, e_Cell_init_165, e_Cell_init_166, e_Cell_init_169, e_Cell_init_170, e_Cell_init_173, e_Cell_init_174, e_Cell_init_175, e_Cell_init_178, e_Cell_init_179, e_Cell_init_182, e_Cell_init_183, e_Cell_init_186, e_Cell_init_187, e_Cell_init_188, e_Cell_init_191, e_Cell_init_192, e_Cell_init_195, e_Cell_init_196, e_Cell_init_199, e_Cell_init_200, e_Cell_init_201, e_Cell_init_204, e_Cell_init_205, e_Cell_init_208, e_Cell_init_209, e_Cell_init_212, e_Cell_init_213, e_Cell_init_214, e_Cell_init_217, e_Cell_init_218, e_Cell_init_221, e_Cell_init_222, e_Cell_init_225, e_Cell_init_226, e_Cell_init_227, e_Cell_init_230, e_Cell_init_231, e_Cell_init_234, e_Cell_init_235, e_Cell_init_238, e_Cell_init_239, alk_in, ask_in, blk_in, bsk_in, qlk_in, ack_in, rcv_in, rcA_in, bk_i, bk_l, bk_v, hS_same, hS_ne, hS_hS, hS_2, am_10, am_01, am_00, if_true, if_false, qsk_5, gf_11_0, pf_11_0, gf_11_1, pf_11_1, gf_11_2, pf_11_2, gf_11_3, pf_11_3, gf_11_4, pf_11_4, gf_11_5, pf_11_5, gf_11_6, pf_11_6, gf_11_7, pf_11_7, gf_11_8, pf_11_8, gf_11_9, pf_11_9, gf_11_10, pf_11_10, gf_11_11, pf_11_11, O, hn, e29, e2, P2, s0, Int.toNat_natCast]
      rw [if_pos (by omega)]; rfl
    · have z : (hS h2 23 (cQ 2 2 (fun j => if j = k then some (102 + 6 * k) else P j))).2.2 = h2.2.2 := rfl
      rw [z, a2, hA_22] at r4
      omega
theorem li_kinds {h : am_H} {l1 : am_V} {K : Nat → Option Nat} (O : h.1 1 = cO 11 [y0, y1, y2, y3, y4, y5, y6, y7, y8, y9, vR 40, y11]) (hn : h.2.1 = 114) (K1 : h.1 40 = cQ 3 6 K) : ∃ h', gv mCell_init 161 [vR 1, l1] [] h = some (none, h') ∧ CKi h' ∧ h'.2.1 = 120 ∧ h'.2.2 = h.2.2 ∧ ∀ x, x < 114 → ¬ x = 40 → h'.1 x = h.1 x := by
  refine ⟨_, by
    simp (disch := (first | omega | (simp only [hS_21, hA_21, hn]; done) | (simp only [hS_21, hA_21, hn]; omega))) only [e_Cell_init_161, e_Cell_init_162, e_Cell_init_165, e_Cell_init_166, e_Cell_init_169, e_Cell_init_170, e_Cell_init_173, e_Cell_init_174, e_Cell_init_175, e_Cell_init_178, e_Cell_init_179, e_Cell_init_182, e_Cell_init_183, e_Cell_init_186, e_Cell_init_187, e_Cell_init_188, e_Cell_init_191, e_Cell_init_192, e_Cell_init_195, e_Cell_init_196, e_Cell_init_199, e_Cell_init_200, e_Cell_init_201, e_Cell_init_204, e_Cell_init_205, e_Cell_init_208, e_Cell_init_209, e_Cell_init_212, e_Cell_init_213, e_Cell_init_214, e_Cell_init_217, e_Cell_init_218, e_Cell_init_221, e_Cell_init_222, e_Cell_init_225, e_Cell_init_226, e_Cell_init_227, e_Cell_init_230, e_Cell_init_231, e_Cell_init_234, e_Cell_init_235, e_Cell_init_238, e_Cell_init_239, alk_in, ask_in, blk_in, bsk_in, qlk_in, ack_in, rcv_in, rcA_in, bk_i, bk_l, bk_v, hS_same, hS_ne, hS_hS, hS_2, am_10, am_01, am_00, if_true, if_false, qsk_3, gf_11_0, pf_11_0, gf_11_1, pf_11_1, gf_11_2, pf_11_2, gf_11_3, pf_11_3, gf_11_4, pf_11_4, gf_11_5, pf_11_5, gf_11_6, pf_11_6, gf_11_7, pf_11_7, gf_11_8, pf_11_8, gf_11_9, pf_11_9, gf_11_10, pf_11_10, gf_11_11, pf_11_11, O, K1, hn, hA_at, hA_ne, hS_21, hA_21, Nat.reduceAdd, c_iMan, ev_Thief_init, e_Thief_init_0, e_Thief_init_1, e_Thief_init_4, ev_Boy_init, e_Boy_init_0, e_Boy_init_1, e_Boy_init_4, ev_Warder_init, e_Warder_init_0, e_Warder_init_1, e_Warder_init_4, ev_Lawyer_init, e_Lawyer_init_0, e_Lawyer_init_1, e_Lawyer_init_4, ev_Pear_init, e_Pear_init_0, e_Pear_init_1, e_Pear_init_4]
    rfl, ⟨fun j => if j = 5 then some 119 else if j = 4 then some 118 else if j = 3 then some 117 else if j = 2 then some 116 else if j = 1 then some 115 else if j = 0 then some 114 else K j, ?_, ?_, ?_, ?_, ?_, ?_, ?_, ?_⟩, ?_, ?_, fun x hx hb => ?_⟩
  · simp (disch := (first | omega | (simp only [hS_21, hA_21, hn]; done) | (simp only [hS_21, hA_21, hn]; omega))) only [hS_same, hS_ne, hA_at, hA_ne]
    rfl
  · intro i hi
    have z : i = 0 ∨ i = 1 ∨ i = 2 ∨ i = 3 ∨ i = 4 ∨ i = 5 := by omega
    rcases z with z | z | z | z | z | z <;> subst z <;> rfl
  · simp (disch := (first | omega | (simp only [hS_21, hA_21, hn]; done) | (simp only [hS_21, hA_21, hn]; omega))) only [hS_same, hS_ne, hA_at, hA_ne]
  · simp (disch := (first | omega | (simp only [hS_21, hA_21, hn]; done) | (simp only [hS_21, hA_21, hn]; omega))) only [hS_same, hS_ne, hA_at, hA_ne]
  · simp (disch := (first | omega | (simp only [hS_21, hA_21, hn]; done) | (simp only [hS_21, hA_21, hn]; omega))) only [hS_same, hS_ne, hA_at, hA_ne]
  · simp (disch := (first | omega | (simp only [hS_21, hA_21, hn]; done) | (simp only [hS_21, hA_21, hn]; omega))) only [hS_same, hS_ne, hA_at, hA_ne]
  · simp (disch := (first | omega | (simp only [hS_21, hA_21, hn]; done) | (simp only [hS_21, hA_21, hn]; omega))) only [hS_same, hS_ne, hA_at, hA_ne]
  · simp (disch := (first | omega | (simp only [hS_21, hA_21, hn]; done) | (simp only [hS_21, hA_21, hn]; omega))) only [hS_same, hS_ne, hA_at, hA_ne]
  · simp only [hS_21, hA_21, hn]
  · simp only [hS_22, hA_22, Nat.add_assoc]; rfl
  · simp (disch := (first | omega | (simp only [hS_21, hA_21, hn]; done) | (simp only [hS_21, hA_21, hn]; omega))) only [hS_same, hS_ne, hA_at, hA_ne]
end Init2
