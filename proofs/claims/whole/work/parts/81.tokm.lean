/-! the text: the model's tokens -/
def mvV (f : Nat → Int) (v : Int) (d p : Nat) (a : Int) : Int := match d with
  | 0 => a
  | d + 1 => if 48 ≤ f p ∧ f p ≤ 57 then mvV f v d (p + 1) (if v = 48 ∨ 99 < a then 1000 else 10 * a + f p - 48) else a
theorem mv_1 {f : Nat → Int} {v : Int} {d p : Nat} {a : Int} (h : dgE f d p = p) : mvV f v d p a = a := by
  cases d with
  | zero => rfl
  | succ d =>
    unfold dgE at h
    unfold mvV
    by_cases q : 48 ≤ f p ∧ f p ≤ 57
    · rw [if_pos q] at h
      have := dgE_b f d (p + 1)
      omega
    · rw [if_neg q]
theorem mv_2 {f : Nat → Int} {v : Int} {d p : Nat} {a : Int} (h : dgE f d p = p + 1) : (48 ≤ f p ∧ f p ≤ 57) ∧ mvV f v d p a = if v = 48 ∨ 99 < a then 1000 else 10 * a + f p - 48 := by
  cases d with
  | zero => unfold dgE at h; omega
  | succ d =>
    unfold dgE at h
    unfold mvV
    by_cases q : 48 ≤ f p ∧ f p ≤ 57
    · rw [if_pos q] at h
      rw [if_pos q]
      exact ⟨q, mv_1 h⟩
    · rw [if_neg q] at h; omega
theorem mv_big {f : Nat → Int} {v : Int} : ∀ (d p : Nat) (a : Int), 99 < a ∧ a ≤ 1000 → 99 < mvV f v d p a ∧ mvV f v d p a ≤ 1000 := by
  intro d
  induction d with
  | zero => intro p a h; exact h
  | succ d ih =>
    intro p a h
    unfold mvV
    by_cases q : 48 ≤ f p ∧ f p ≤ 57
    · rw [if_pos q, if_pos (Or.inr h.1)]
      exact ih _ _ (by omega)
    · rw [if_neg q]; exact h
theorem mv_r {f : Nat → Int} {v : Int} : ∀ (d p : Nat) (a : Int), 0 ≤ a ∧ a ≤ 1000 → 0 ≤ mvV f v d p a ∧ mvV f v d p a ≤ 1000 := by
  intro d
  induction d with
  | zero => intro p a h; exact h
  | succ d ih =>
    intro p a h
    unfold mvV
    by_cases q : 48 ≤ f p ∧ f p ≤ 57
    · rw [if_pos q]
      refine ih _ _ ?_
      split <;> omega
    · rw [if_neg q]; exact h
theorem mv_3 {f : Nat → Int} {v : Int} {d p : Nat} {a : Int} (ha : 0 ≤ a ∧ a ≤ 1000) (hv : v = 48 ∨ 1 ≤ a) (h : p + 2 ≤ dgE f d p) : 99 < mvV f v d p a := by
  cases d with
  | zero => unfold dgE at h; omega
  | succ d =>
    unfold dgE at h
    unfold mvV
    by_cases q : 48 ≤ f p ∧ f p ≤ 57
    · rw [if_pos q] at h
      rw [if_pos q]
      cases d with
      | zero => unfold dgE at h; omega
      | succ d =>
        unfold dgE at h
        unfold mvV
        by_cases q2 : 48 ≤ f (p + 1) ∧ f (p + 1) ≤ 57
        · rw [if_pos q2]
          refine (mv_big d _ _ ?_).1
          by_cases w : v = 48 ∨ 99 < a
          · rw [if_pos w, if_pos (Or.inr (by omega))]; omega
          · rw [if_neg w]
            by_cases w2 : v = 48 ∨ 99 < 10 * a + f p - 48
            · rw [if_pos w2]; omega
            · rw [if_neg w2]; omega
        · rw [if_neg q2] at h; omega
    · rw [if_neg q] at h; omega
def MTk (C N s v : Int) : Prop := (-1 ≤ v ∧ v ≤ 1000) ∧ (C = 0 ∧ s = 0 ∨ C = 1 ∧ s = 2 ∧ v = N ∨ C = 2 ∧ (s = 4 ∨ s = 2 ∧ 99 < v) ∨ C = 59 ∧ s = 3 ∨ (C = 108 ∨ C = 109 ∨ C = 110) ∧ s = 1 ∧ v = C)
section TokM
variable {L : Nat} {f g : Nat → Int} {x0 x7 x11 : am_V}
theorem m_dig {h : am_H} {x : Int} (hx : rg32 x) : ev mMod_isDigit [vI x] h = some (some (vI (if 48 ≤ x ∧ x ≤ 57 then 1 else 0)), h) := by
  have c1 := c_min (h := h) (v := x) (x := 48) (y := 57) hx (by omega) (by omega)
  rw [ev_Mod_isDigit]
  simp (disch := omega) only [e_Mod_isDigit_0, e_Mod_isDigit_1, e_Mod_isDigit_3, e_Mod_isDigit_5, e_Mod_isDigit_8, alk_in, ask_in, blk_in, bsk_in, qlk_in, ack_in, rcv_in, rcA_in, bk_i, bk_l, bk_v, hS_same, hS_ne, hS_hS, hS_2, am_10, am_01, am_00, if_true, if_false, c1]
theorem m_let1 {h : am_H} {x12 x13 x14 x15 : am_V} {k : Nat} (hL : L ≤ 120) (hg : EqB L g f) (o : MoA h x0 (vI (L : Int)) x7 x11 x12 x13 x14 x15) (G : h.1 121 = cI 0 120 g) (hk : k < L) : ev mMod_letterAt [vR 120, vI (k : Int)] h = some (some (vI (f k)), h) := by
  unfold MoA at o
  rw [ev_Mod_letterAt]
  simp (disch := omega) only [e_Mod_letterAt_0, e_Mod_letterAt_1, e_Mod_letterAt_2, e_Mod_letterAt_5, e_Mod_letterAt_8, e_Mod_letterAt_9, e_Mod_letterAt_12, e_Mod_letterAt_13, e_Mod_letterAt_14, e_Mod_letterAt_17, e_Mod_letterAt_18, alk_in, ask_in, blk_in, bsk_in, qlk_in, ack_in, rcv_in, rcA_in, bk_i, bk_l, bk_v, hS_same, hS_ne, hS_hS, hS_2, am_10, am_01, am_00, if_true, if_false, gf_12_0, pf_12_0, gf_12_1, pf_12_1, gf_12_2, pf_12_2, gf_12_3, pf_12_3, gf_12_4, pf_12_4, gf_12_5, pf_12_5, gf_12_6, pf_12_6, gf_12_7, pf_12_7, gf_12_8, pf_12_8, gf_12_9, pf_12_9, gf_12_10, pf_12_10, gf_12_11, pf_12_11, gf_12_12, pf_12_12, gf_12_13, pf_12_13, gf_12_14, pf_12_14, gf_12_15, pf_12_15, gf_12_16, pf_12_16, gf_12_17, pf_12_17, gf_12_18, pf_12_18, gf_12_19, pf_12_19, gf_12_20, pf_12_20, o, G, Int.toNat_natCast, hg k hk]
  rw [if_pos (by omega)]
theorem m_let0 {h : am_H} {x12 x13 x14 x15 : am_V} (hL : L ≤ 120) (o : MoA h x0 (vI (L : Int)) x7 x11 x12 x13 x14 x15) : ev mMod_letterAt [vR 120, vI (L : Int)] h = some (some (vI (-1)), h) := by
  unfold MoA at o
  rw [ev_Mod_letterAt]
  simp (disch := omega) only [e_Mod_letterAt_0, e_Mod_letterAt_1, e_Mod_letterAt_2, e_Mod_letterAt_5, e_Mod_letterAt_9, e_Mod_letterAt_12, e_Mod_letterAt_13, e_Mod_letterAt_14, e_Mod_letterAt_17, e_Mod_letterAt_18, alk_in, ask_in, blk_in, bsk_in, qlk_in, ack_in, rcv_in, rcA_in, bk_i, bk_l, bk_v, hS_same, hS_ne, hS_hS, hS_2, am_10, am_01, am_00, if_true, if_false, gf_12_0, pf_12_0, gf_12_1, pf_12_1, gf_12_2, pf_12_2, gf_12_3, pf_12_3, gf_12_4, pf_12_4, gf_12_5, pf_12_5, gf_12_6, pf_12_6, gf_12_7, pf_12_7, gf_12_8, pf_12_8, gf_12_9, pf_12_9, gf_12_10, pf_12_10, gf_12_11, pf_12_11, gf_12_12, pf_12_12, gf_12_13, pf_12_13, gf_12_14, pf_12_14, gf_12_15, pf_12_15, gf_12_16, pf_12_16, gf_12_17, pf_12_17, gf_12_18, pf_12_18, gf_12_19, pf_12_19, gf_12_20, pf_12_20, o]
  rw [if_neg (by omega)]
theorem lt_sk (hL : L ≤ 120) (hg : EqB L g f) (hf : ∀ j, j < L → 0 ≤ f j ∧ f j ≤ 255) {x13 x14 x15 l1 : am_V} : ∀ (d p : Nat) (h : am_H), p + d = L → MoA h x0 (vI (L : Int)) x7 x11 (vI (p : Int)) x13 x14 x15 → h.1 121 = cI 0 120 g → ∃ h', gv mMod_token 0 [vR 120, l1] [] h = gv mMod_token 26 [vR 120, l1] [] h' ∧ MoA h' x0 (vI (L : Int)) x7 x11 (vI (sk f d p : Int)) x13 x14 x15 ∧ FE [120] h h' := by
  intro d
  induction d with
  | zero =>
    intro p h hp o G
    have : p = L := by omega
    subst this
    have c1 := m_let0 hL o
    refine ⟨h, ?_, o, FE.rf⟩
    unfold MoA at o
    rw [e_Mod_token_0]
    simp (disch := omega) only [e_Mod_token_1, e_Mod_token_2, e_Mod_token_5, e_Mod_token_8, e_Mod_token_10, e_Mod_token_13, e_Mod_token_14, e_Mod_token_15, e_Mod_token_18, e_Mod_token_19, e_Mod_token_20, e_Mod_token_23, e_Mod_token_27, e_Mod_token_28, e_Mod_token_31, e_Mod_token_34, e_Mod_token_35, e_Mod_token_36, e_Mod_token_39, e_Mod_token_42, e_Mod_token_43, e_Mod_token_44, e_Mod_token_45, e_Mod_token_48, e_Mod_token_49, e_Mod_token_52, e_Mod_token_53, e_Mod_token_55, e_Mod_token_58, e_Mod_token_59, e_Mod_token_61, e_Mod_token_64, e_Mod_token_65, e_Mod_token_67, e_Mod_token_70, e_Mod_token_71, e_Mod_token_74, e_Mod_token_75, e_Mod_token_78, e_Mod_token_78b, e_Mod_token_81, e_Mod_token_82, e_Mod_token_85, e_Mod_token_86, e_Mod_token_88, e_Mod_token_91, e_Mod_token_92, e_Mod_token_95, e_Mod_token_96, e_Mod_token_99, e_Mod_token_100, e_Mod_token_101, e_Mod_token_104, e_Mod_token_105, e_Mod_token_106, e_Mod_token_109, e_Mod_token_110, e_Mod_token_113, e_Mod_token_113b, e_Mod_token_116, e_Mod_token_117, e_Mod_token_120, e_Mod_token_121, e_Mod_token_122, e_Mod_token_125, e_Mod_token_126, e_Mod_token_129, e_Mod_token_130, e_Mod_token_133, e_Mod_token_134, e_Mod_token_135, e_Mod_token_137, e_Mod_token_138, e_Mod_token_141, e_Mod_token_142, e_Mod_token_143, e_Mod_token_146, e_Mod_token_149, e_Mod_token_152, e_Mod_token_152b, e_Mod_token_155, e_Mod_token_156, e_Mod_token_157, e_Mod_token_159, e_Mod_token_162, e_Mod_token_163, e_Mod_token_166, e_Mod_token_168, e_Mod_token_171, e_Mod_token_174, e_Mod_token_177, e_Mod_token_179, e_Mod_token_180, e_Mod_token_183, e_Mod_token_184, e_Mod_token_185, e_Mod_token_188, e_Mod_token_189, e_Mod_token_192, e_Mod_token_193, e_Mod_token_194, e_Mod_token_196, e_Mod_token_197, e_Mod_token_200, e_Mod_token_201, e_Mod_token_202, e_Mod_token_205, e_Mod_token_206, e_Mod_token_207, e_Mod_token_210, e_Mod_token_213, alk_in, ask_in, blk_in, bsk_in, qlk_in, ack_in, rcv_in, rcA_in, bk_i, bk_l, bk_v, hS_same, hS_ne, hS_hS, hS_2, am_10, am_01, am_00, if_true, if_false, gf_12_0, pf_12_0, gf_12_1, pf_12_1, gf_12_2, pf_12_2, gf_12_3, pf_12_3, gf_12_4, pf_12_4, gf_12_5, pf_12_5, gf_12_6, pf_12_6, gf_12_7, pf_12_7, gf_12_8, pf_12_8, gf_12_9, pf_12_9, gf_12_10, pf_12_10, gf_12_11, pf_12_11, gf_12_12, pf_12_12, gf_12_13, pf_12_13, gf_12_14, pf_12_14, gf_12_15, pf_12_15, gf_12_16, pf_12_16, gf_12_17, pf_12_17, gf_12_18, pf_12_18, gf_12_19, pf_12_19, gf_12_20, pf_12_20, o, c1]
    first | done | rw [if_neg (by omega)]
  | succ d ih =>
    intro p h hp o G
    have c1 := m_let1 hL hg o G (show p < L by omega)
    have r := hf p (by omega)
    unfold sk
    by_cases q : f p = 32
    · rw [if_pos q]
      rw [q] at c1
      have f1 : FE [120] h (hS h 120 (cO 12 [x0, vR 121, vI (L : Int), vR 122, vR 123, vR 124, vR 125, x7, vR 126, vR 127, vR 128, x11, vI ((p : Int) + 1), x13, x14, x15, vR 129, vR 130, vR 131, vR 132, vR 133])) := FE.st (by decide)
      obtain ⟨h2, e2, o2, f2⟩ := ih (p + 1) (hS h 120 (cO 12 [x0, vR 121, vI (L : Int), vR 122, vR 123, vR 124, vR 125, x7, vR 126, vR 127, vR 128, x11, vI ((p : Int) + 1), x13, x14, x15, vR 129, vR 130, vR 131, vR 132, vR 133])) (by omega) (by first | exact hS_same | (unfold MoA; rw [hS_same]; rfl)) (f1.at G (by decide))
      refine ⟨h2, ?_, o2, f1.tr f2⟩
      unfold MoA at o
      rw [e_Mod_token_0, ← e2]
      simp (disch := omega) only [e_Mod_token_1, e_Mod_token_2, e_Mod_token_5, e_Mod_token_8, e_Mod_token_10, e_Mod_token_13, e_Mod_token_14, e_Mod_token_15, e_Mod_token_18, e_Mod_token_19, e_Mod_token_20, e_Mod_token_23, e_Mod_token_27, e_Mod_token_28, e_Mod_token_31, e_Mod_token_34, e_Mod_token_35, e_Mod_token_36, e_Mod_token_39, e_Mod_token_42, e_Mod_token_43, e_Mod_token_44, e_Mod_token_45, e_Mod_token_48, e_Mod_token_49, e_Mod_token_52, e_Mod_token_53, e_Mod_token_55, e_Mod_token_58, e_Mod_token_59, e_Mod_token_61, e_Mod_token_64, e_Mod_token_65, e_Mod_token_67, e_Mod_token_70, e_Mod_token_71, e_Mod_token_74, e_Mod_token_75, e_Mod_token_78, e_Mod_token_78b, e_Mod_token_81, e_Mod_token_82, e_Mod_token_85, e_Mod_token_86, e_Mod_token_88, e_Mod_token_91, e_Mod_token_92, e_Mod_token_95, e_Mod_token_96, e_Mod_token_99, e_Mod_token_100, e_Mod_token_101, e_Mod_token_104, e_Mod_token_105, e_Mod_token_106, e_Mod_token_109, e_Mod_token_110, e_Mod_token_113, e_Mod_token_113b, e_Mod_token_116, e_Mod_token_117, e_Mod_token_120, e_Mod_token_121, e_Mod_token_122, e_Mod_token_125, e_Mod_token_126, e_Mod_token_129, e_Mod_token_130, e_Mod_token_133, e_Mod_token_134, e_Mod_token_135, e_Mod_token_137, e_Mod_token_138, e_Mod_token_141, e_Mod_token_142, e_Mod_token_143, e_Mod_token_146, e_Mod_token_149, e_Mod_token_152, e_Mod_token_152b, e_Mod_token_155, e_Mod_token_156, e_Mod_token_157, e_Mod_token_159, e_Mod_token_162, e_Mod_token_163, e_Mod_token_166, e_Mod_token_168, e_Mod_token_171, e_Mod_token_174, e_Mod_token_177, e_Mod_token_179, e_Mod_token_180, e_Mod_token_183, e_Mod_token_184, e_Mod_token_185, e_Mod_token_188, e_Mod_token_189, e_Mod_token_192, e_Mod_token_193, e_Mod_token_194, e_Mod_token_196, e_Mod_token_197, e_Mod_token_200, e_Mod_token_201, e_Mod_token_202, e_Mod_token_205, e_Mod_token_206, e_Mod_token_207, e_Mod_token_210, e_Mod_token_213, alk_in, ask_in, blk_in, bsk_in, qlk_in, ack_in, rcv_in, rcA_in, bk_i, bk_l, bk_v, hS_same, hS_ne, hS_hS, hS_2, am_10, am_01, am_00, if_true, if_false, gf_12_0, pf_12_0, gf_12_1, pf_12_1, gf_12_2, pf_12_2, gf_12_3, pf_12_3, gf_12_4, pf_12_4, gf_12_5, pf_12_5, gf_12_6, pf_12_6, gf_12_7, pf_12_7, gf_12_8, pf_12_8, gf_12_9, pf_12_9, gf_12_10, pf_12_10, gf_12_11, pf_12_11, gf_12_12, pf_12_12, gf_12_13, pf_12_13, gf_12_14, pf_12_14, gf_12_15, pf_12_15, gf_12_16, pf_12_16, gf_12_17, pf_12_17, gf_12_18, pf_12_18, gf_12_19, pf_12_19, gf_12_20, pf_12_20, o, c1]
    · rw [if_neg q]
      refine ⟨h, ?_, o, FE.rf⟩
      unfold MoA at o
      rw [e_Mod_token_0]
      simp (disch := omega) only [e_Mod_token_1, e_Mod_token_2, e_Mod_token_5, e_Mod_token_8, e_Mod_token_10, e_Mod_token_13, e_Mod_token_14, e_Mod_token_15, e_Mod_token_18, e_Mod_token_19, e_Mod_token_20, e_Mod_token_23, e_Mod_token_27, e_Mod_token_28, e_Mod_token_31, e_Mod_token_34, e_Mod_token_35, e_Mod_token_36, e_Mod_token_39, e_Mod_token_42, e_Mod_token_43, e_Mod_token_44, e_Mod_token_45, e_Mod_token_48, e_Mod_token_49, e_Mod_token_52, e_Mod_token_53, e_Mod_token_55, e_Mod_token_58, e_Mod_token_59, e_Mod_token_61, e_Mod_token_64, e_Mod_token_65, e_Mod_token_67, e_Mod_token_70, e_Mod_token_71, e_Mod_token_74, e_Mod_token_75, e_Mod_token_78, e_Mod_token_78b, e_Mod_token_81, e_Mod_token_82, e_Mod_token_85, e_Mod_token_86, e_Mod_token_88, e_Mod_token_91, e_Mod_token_92, e_Mod_token_95, e_Mod_token_96, e_Mod_token_99, e_Mod_token_100, e_Mod_token_101, e_Mod_token_104, e_Mod_token_105, e_Mod_token_106, e_Mod_token_109, e_Mod_token_110, e_Mod_token_113, e_Mod_token_113b, e_Mod_token_116, e_Mod_token_117, e_Mod_token_120, e_Mod_token_121, e_Mod_token_122, e_Mod_token_125, e_Mod_token_126, e_Mod_token_129, e_Mod_token_130, e_Mod_token_133, e_Mod_token_134, e_Mod_token_135, e_Mod_token_137, e_Mod_token_138, e_Mod_token_141, e_Mod_token_142, e_Mod_token_143, e_Mod_token_146, e_Mod_token_149, e_Mod_token_152, e_Mod_token_152b, e_Mod_token_155, e_Mod_token_156, e_Mod_token_157, e_Mod_token_159, e_Mod_token_162, e_Mod_token_163, e_Mod_token_166, e_Mod_token_168, e_Mod_token_171, e_Mod_token_174, e_Mod_token_177, e_Mod_token_179, e_Mod_token_180, e_Mod_token_183, e_Mod_token_184, e_Mod_token_185, e_Mod_token_188, e_Mod_token_189, e_Mod_token_192, e_Mod_token_193, e_Mod_token_194, e_Mod_token_196, e_Mod_token_197, e_Mod_token_200, e_Mod_token_201, e_Mod_token_202, e_Mod_token_205, e_Mod_token_206, e_Mod_token_207, e_Mod_token_210, e_Mod_token_213, alk_in, ask_in, blk_in, bsk_in, qlk_in, ack_in, rcv_in, rcA_in, bk_i, bk_l, bk_v, hS_same, hS_ne, hS_hS, hS_2, am_10, am_01, am_00, if_true, if_false, gf_12_0, pf_12_0, gf_12_1, pf_12_1, gf_12_2, pf_12_2, gf_12_3, pf_12_3, gf_12_4, pf_12_4, gf_12_5, pf_12_5, gf_12_6, pf_12_6, gf_12_7, pf_12_7, gf_12_8, pf_12_8, gf_12_9, pf_12_9, gf_12_10, pf_12_10, gf_12_11, pf_12_11, gf_12_12, pf_12_12, gf_12_13, pf_12_13, gf_12_14, pf_12_14, gf_12_15, pf_12_15, gf_12_16, pf_12_16, gf_12_17, pf_12_17, gf_12_18, pf_12_18, gf_12_19, pf_12_19, gf_12_20, pf_12_20, o, c1]
      rw [if_neg q]
theorem lt_dg (hL : L ≤ 120) (hg : EqB L g f) (hf : ∀ j, j < L → 0 ≤ f j ∧ f j ≤ 255) {x14 : am_V} {v : Int} (hv : 0 ≤ v ∧ v ≤ 255) : ∀ (d p : Nat) (a : Int) (h : am_H), p + d = L → (0 ≤ a ∧ a ≤ 1000) → MoA h x0 (vI (L : Int)) x7 x11 (vI (p : Int)) (vI 2) x14 (vI a) → h.1 121 = cI 0 120 g → ∃ h', gv mMod_token 141 [vR 120, vI v] [] h = gv mMod_token 213 [vR 120, vI v] [] h' ∧ MoA h' x0 (vI (L : Int)) x7 x11 (vI (dgE f d p : Int)) (vI 2) x14 (vI (mvV f v d p a)) ∧ FE [120] h h' := by
  intro d
  induction d with
  | zero =>
    intro p a h hp ha o G
    have : p = L := by omega
    subst this
    have c1 := m_let0 hL o
    have c2 := m_dig (h := h) (x := -1) (by unfold rg32; omega)
    rw [if_neg (by omega)] at c2
    refine ⟨h, ?_, o, FE.rf⟩
    unfold MoA at o
    rw [e_Mod_token_141]
    simp (disch := omega) only [e_Mod_token_0, e_Mod_token_1, e_Mod_token_2, e_Mod_token_5, e_Mod_token_8, e_Mod_token_10, e_Mod_token_13, e_Mod_token_14, e_Mod_token_15, e_Mod_token_18, e_Mod_token_19, e_Mod_token_20, e_Mod_token_23, e_Mod_token_26, e_Mod_token_27, e_Mod_token_28, e_Mod_token_31, e_Mod_token_34, e_Mod_token_35, e_Mod_token_36, e_Mod_token_39, e_Mod_token_42, e_Mod_token_43, e_Mod_token_44, e_Mod_token_45, e_Mod_token_48, e_Mod_token_49, e_Mod_token_52, e_Mod_token_53, e_Mod_token_55, e_Mod_token_58, e_Mod_token_59, e_Mod_token_61, e_Mod_token_64, e_Mod_token_65, e_Mod_token_67, e_Mod_token_70, e_Mod_token_71, e_Mod_token_74, e_Mod_token_75, e_Mod_token_78, e_Mod_token_78b, e_Mod_token_81, e_Mod_token_82, e_Mod_token_85, e_Mod_token_86, e_Mod_token_88, e_Mod_token_91, e_Mod_token_92, e_Mod_token_95, e_Mod_token_96, e_Mod_token_99, e_Mod_token_100, e_Mod_token_101, e_Mod_token_104, e_Mod_token_105, e_Mod_token_106, e_Mod_token_109, e_Mod_token_110, e_Mod_token_113, e_Mod_token_113b, e_Mod_token_116, e_Mod_token_117, e_Mod_token_120, e_Mod_token_121, e_Mod_token_122, e_Mod_token_125, e_Mod_token_126, e_Mod_token_129, e_Mod_token_130, e_Mod_token_133, e_Mod_token_134, e_Mod_token_135, e_Mod_token_137, e_Mod_token_138, e_Mod_token_142, e_Mod_token_143, e_Mod_token_146, e_Mod_token_149, e_Mod_token_152, e_Mod_token_152b, e_Mod_token_155, e_Mod_token_156, e_Mod_token_157, e_Mod_token_159, e_Mod_token_162, e_Mod_token_163, e_Mod_token_166, e_Mod_token_168, e_Mod_token_171, e_Mod_token_174, e_Mod_token_177, e_Mod_token_179, e_Mod_token_180, e_Mod_token_183, e_Mod_token_184, e_Mod_token_185, e_Mod_token_188, e_Mod_token_189, e_Mod_token_192, e_Mod_token_193, e_Mod_token_194, e_Mod_token_196, e_Mod_token_197, e_Mod_token_200, e_Mod_token_201, e_Mod_token_202, e_Mod_token_205, e_Mod_token_206, e_Mod_token_207, e_Mod_token_210, alk_in, ask_in, blk_in, bsk_in, qlk_in, ack_in, rcv_in, rcA_in, bk_i, bk_l, bk_v, hS_same, hS_ne, hS_hS, hS_2, am_10, am_01, am_00, if_true, if_false, gf_12_0, pf_12_0, gf_12_1, pf_12_1, gf_12_2, pf_12_2, gf_12_3, pf_12_3, gf_12_4, pf_12_4, gf_12_5, pf_12_5, gf_12_6, pf_12_6, gf_12_7, pf_12_7, gf_12_8, pf_12_8, gf_12_9, pf_12_9, gf_12_10, pf_12_10, gf_12_11, pf_12_11, gf_12_12, pf_12_12, gf_12_13, pf_12_13, gf_12_14, pf_12_14, gf_12_15, pf_12_15, gf_12_16, pf_12_16, gf_12_17, pf_12_17, gf_12_18, pf_12_18, gf_12_19, pf_12_19, gf_12_20, pf_12_20, o, c1, c2]
  | succ d ih =>
    intro p a h hp ha o G
    have c1 := m_let1 hL hg o G (show p < L by omega)
    have r := hf p (by omega)
    have eg := hg p (by omega)
    have c2 := m_dig (h := h) (x := f p) (by unfold rg32; omega)
    unfold dgE mvV
    by_cases q : 48 ≤ f p ∧ f p ≤ 57
    · rw [if_pos q, if_pos q]
      rw [if_pos q] at c2
      have key : ∀ b : Int, (0 ≤ b ∧ b ≤ 1000) → gv mMod_token 141 [vR 120, vI v] [] h = gv mMod_token 141 [vR 120, vI v] [] (hS h 120 (cO 12 [x0, vR 121, vI (L : Int), vR 122, vR 123, vR 124, vR 125, x7, vR 126, vR 127, vR 128, x11, vI ((p : Int) + 1), vI 2, x14, vI b, vR 129, vR 130, vR 131, vR 132, vR 133])) → ∃ h', gv mMod_token 141 [vR 120, vI v] [] h = gv mMod_token 213 [vR 120, vI v] [] h' ∧ MoA h' x0 (vI (L : Int)) x7 x11 (vI (dgE f d (p + 1) : Int)) (vI 2) x14 (vI (mvV f v d (p + 1) b)) ∧ FE [120] h h' := by
        intro b hb e
        have f1 : FE [120] h (hS h 120 (cO 12 [x0, vR 121, vI (L : Int), vR 122, vR 123, vR 124, vR 125, x7, vR 126, vR 127, vR 128, x11, vI ((p : Int) + 1), vI 2, x14, vI b, vR 129, vR 130, vR 131, vR 132, vR 133])) := FE.st (by decide)
        obtain ⟨h2, e2, o2, f2⟩ := ih (p + 1) b (hS h 120 (cO 12 [x0, vR 121, vI (L : Int), vR 122, vR 123, vR 124, vR 125, x7, vR 126, vR 127, vR 128, x11, vI ((p : Int) + 1), vI 2, x14, vI b, vR 129, vR 130, vR 131, vR 132, vR 133])) (by omega) hb (by first | exact hS_same | (unfold MoA; rw [hS_same]; rfl)) (f1.at G (by decide))
        exact ⟨h2, e.trans e2, o2, f1.tr f2⟩
      unfold MoA at o
      by_cases w : v = 48 ∨ 99 < a
      · rw [if_pos w]
        refine key 1000 (by omega) ?_
        rw [e_Mod_token_141]
        by_cases w1 : v = 48
        · simp (disch := omega) only [e_Mod_token_0, e_Mod_token_1, e_Mod_token_2, e_Mod_token_5, e_Mod_token_8, e_Mod_token_10, e_Mod_token_13, e_Mod_token_14, e_Mod_token_15, e_Mod_token_18, e_Mod_token_19, e_Mod_token_20, e_Mod_token_23, e_Mod_token_26, e_Mod_token_27, e_Mod_token_28, e_Mod_token_31, e_Mod_token_34, e_Mod_token_35, e_Mod_token_36, e_Mod_token_39, e_Mod_token_42, e_Mod_token_43, e_Mod_token_44, e_Mod_token_45, e_Mod_token_48, e_Mod_token_49, e_Mod_token_52, e_Mod_token_53, e_Mod_token_55, e_Mod_token_58, e_Mod_token_59, e_Mod_token_61, e_Mod_token_64, e_Mod_token_65, e_Mod_token_67, e_Mod_token_70, e_Mod_token_71, e_Mod_token_74, e_Mod_token_75, e_Mod_token_78, e_Mod_token_78b, e_Mod_token_81, e_Mod_token_82, e_Mod_token_85, e_Mod_token_86, e_Mod_token_88, e_Mod_token_91, e_Mod_token_92, e_Mod_token_95, e_Mod_token_96, e_Mod_token_99, e_Mod_token_100, e_Mod_token_101, e_Mod_token_104, e_Mod_token_105, e_Mod_token_106, e_Mod_token_109, e_Mod_token_110, e_Mod_token_113, e_Mod_token_113b, e_Mod_token_116, e_Mod_token_117, e_Mod_token_120, e_Mod_token_121, e_Mod_token_122, e_Mod_token_125, e_Mod_token_126, e_Mod_token_129, e_Mod_token_130, e_Mod_token_133, e_Mod_token_134, e_Mod_token_135, e_Mod_token_137, e_Mod_token_138, e_Mod_token_142, e_Mod_token_143, e_Mod_token_146, e_Mod_token_149, e_Mod_token_152, e_Mod_token_152b, e_Mod_token_155, e_Mod_token_156, e_Mod_token_157, e_Mod_token_159, e_Mod_token_162, e_Mod_token_163, e_Mod_token_166, e_Mod_token_168, e_Mod_token_171, e_Mod_token_174, e_Mod_token_177, e_Mod_token_179, e_Mod_token_180, e_Mod_token_183, e_Mod_token_184, e_Mod_token_185, e_Mod_token_188, e_Mod_token_189, e_Mod_token_192, e_Mod_token_193, e_Mod_token_194, e_Mod_token_196, e_Mod_token_197, e_Mod_token_200, e_Mod_token_201, e_Mod_token_202, e_Mod_token_205, e_Mod_token_206, e_Mod_token_207, e_Mod_token_210, alk_in, ask_in, blk_in, bsk_in, qlk_in, ack_in, rcv_in, rcA_in, bk_i, bk_l, bk_v, hS_same, hS_ne, hS_hS, hS_2, am_10, am_01, am_00, if_true, if_false, gf_12_0, pf_12_0, gf_12_1, pf_12_1, gf_12_2, pf_12_2, gf_12_3, pf_12_3, gf_12_4, pf_12_4, gf_12_5, pf_12_5, gf_12_6, pf_12_6, gf_12_7, pf_12_7, gf_12_8, pf_12_8, gf_12_9, pf_12_9, gf_12_10, pf_12_10, gf_12_11, pf_12_11, gf_12_12, pf_12_12, gf_12_13, pf_12_13, gf_12_14, pf_12_14, gf_12_15, pf_12_15, gf_12_16, pf_12_16, gf_12_17, pf_12_17, gf_12_18, pf_12_18, gf_12_19, pf_12_19, gf_12_20, pf_12_20, o, c1, c2]
          rw [if_pos w1]
        · simp (disch := omega) only [e_Mod_token_0, e_Mod_token_1, e_Mod_token_2, e_Mod_token_5, e_Mod_token_8, e_Mod_token_10, e_Mod_token_13, e_Mod_token_14, e_Mod_token_15, e_Mod_token_18, e_Mod_token_19, e_Mod_token_20, e_Mod_token_23, e_Mod_token_26, e_Mod_token_27, e_Mod_token_28, e_Mod_token_31, e_Mod_token_34, e_Mod_token_35, e_Mod_token_36, e_Mod_token_39, e_Mod_token_42, e_Mod_token_43, e_Mod_token_44, e_Mod_token_45, e_Mod_token_48, e_Mod_token_49, e_Mod_token_52, e_Mod_token_53, e_Mod_token_55, e_Mod_token_58, e_Mod_token_59, e_Mod_token_61, e_Mod_token_64, e_Mod_token_65, e_Mod_token_67, e_Mod_token_70, e_Mod_token_71, e_Mod_token_74, e_Mod_token_75, e_Mod_token_78, e_Mod_token_78b, e_Mod_token_81, e_Mod_token_82, e_Mod_token_85, e_Mod_token_86, e_Mod_token_88, e_Mod_token_91, e_Mod_token_92, e_Mod_token_95, e_Mod_token_96, e_Mod_token_99, e_Mod_token_100, e_Mod_token_101, e_Mod_token_104, e_Mod_token_105, e_Mod_token_106, e_Mod_token_109, e_Mod_token_110, e_Mod_token_113, e_Mod_token_113b, e_Mod_token_116, e_Mod_token_117, e_Mod_token_120, e_Mod_token_121, e_Mod_token_122, e_Mod_token_125, e_Mod_token_126, e_Mod_token_129, e_Mod_token_130, e_Mod_token_133, e_Mod_token_134, e_Mod_token_135, e_Mod_token_137, e_Mod_token_138, e_Mod_token_142, e_Mod_token_143, e_Mod_token_146, e_Mod_token_149, e_Mod_token_152, e_Mod_token_152b, e_Mod_token_155, e_Mod_token_156, e_Mod_token_157, e_Mod_token_159, e_Mod_token_162, e_Mod_token_163, e_Mod_token_166, e_Mod_token_168, e_Mod_token_171, e_Mod_token_174, e_Mod_token_177, e_Mod_token_179, e_Mod_token_180, e_Mod_token_183, e_Mod_token_184, e_Mod_token_185, e_Mod_token_188, e_Mod_token_189, e_Mod_token_192, e_Mod_token_193, e_Mod_token_194, e_Mod_token_196, e_Mod_token_197, e_Mod_token_200, e_Mod_token_201, e_Mod_token_202, e_Mod_token_205, e_Mod_token_206, e_Mod_token_207, e_Mod_token_210, alk_in, ask_in, blk_in, bsk_in, qlk_in, ack_in, rcv_in, rcA_in, bk_i, bk_l, bk_v, hS_same, hS_ne, hS_hS, hS_2, am_10, am_01, am_00, if_true, if_false, gf_12_0, pf_12_0, gf_12_1, pf_12_1, gf_12_2, pf_12_2, gf_12_3, pf_12_3, gf_12_4, pf_12_4, gf_12_5, pf_12_5, gf_12_6, pf_12_6, gf_12_7, pf_12_7, gf_12_8, pf_12_8, gf_12_9, pf_12_9, gf_12_10, pf_12_10, gf_12_11, pf_12_11, gf_12_12, pf_12_12, gf_12_13, pf_12_13, gf_12_14, pf_12_14, gf_12_15, pf_12_15, gf_12_16, pf_12_16, gf_12_17, pf_12_17, gf_12_18, pf_12_18, gf_12_19, pf_12_19, gf_12_20, pf_12_20, o, c1, c2]
          rw [if_neg w1, if_pos (by omega)]
      · rw [if_neg w]
        refine key (10 * a + f p - 48) (by omega) ?_
        rw [e_Mod_token_141]
        simp (disch := omega) only [e_Mod_token_0, e_Mod_token_1, e_Mod_token_2, e_Mod_token_5, e_Mod_token_8, e_Mod_token_10, e_Mod_token_13, e_Mod_token_14, e_Mod_token_15, e_Mod_token_18, e_Mod_token_19, e_Mod_token_20, e_Mod_token_23, e_Mod_token_26, e_Mod_token_27, e_Mod_token_28, e_Mod_token_31, e_Mod_token_34, e_Mod_token_35, e_Mod_token_36, e_Mod_token_39, e_Mod_token_42, e_Mod_token_43, e_Mod_token_44, e_Mod_token_45, e_Mod_token_48, e_Mod_token_49, e_Mod_token_52, e_Mod_token_53, e_Mod_token_55, e_Mod_token_58, e_Mod_token_59, e_Mod_token_61, e_Mod_token_64, e_Mod_token_65, e_Mod_token_67, e_Mod_token_70, e_Mod_token_71, e_Mod_token_74, e_Mod_token_75, e_Mod_token_78, e_Mod_token_78b, e_Mod_token_81, e_Mod_token_82, e_Mod_token_85, e_Mod_token_86, e_Mod_token_88, e_Mod_token_91, e_Mod_token_92, e_Mod_token_95, e_Mod_token_96, e_Mod_token_99, e_Mod_token_100, e_Mod_token_101, e_Mod_token_104, e_Mod_token_105, e_Mod_token_106, e_Mod_token_109, e_Mod_token_110, e_Mod_token_113, e_Mod_token_113b, e_Mod_token_116, e_Mod_token_117, e_Mod_token_120, e_Mod_token_121, e_Mod_token_122, e_Mod_token_125, e_Mod_token_126, e_Mod_token_129, e_Mod_token_130, e_Mod_token_133, e_Mod_token_134, e_Mod_token_135, e_Mod_token_137, e_Mod_token_138, e_Mod_token_142, e_Mod_token_143, e_Mod_token_146, e_Mod_token_149, e_Mod_token_152, e_Mod_token_152b, e_Mod_token_155, e_Mod_token_156, e_Mod_token_157, e_Mod_token_159, e_Mod_token_162, e_Mod_token_163, e_Mod_token_166, e_Mod_token_168, e_Mod_token_171, e_Mod_token_174, e_Mod_token_177, e_Mod_token_179, e_Mod_token_180, e_Mod_token_183, e_Mod_token_184, e_Mod_token_185, e_Mod_token_188, e_Mod_token_189, e_Mod_token_192, e_Mod_token_193, e_Mod_token_194, e_Mod_token_196, e_Mod_token_197, e_Mod_token_200, e_Mod_token_201, e_Mod_token_202, e_Mod_token_205, e_Mod_token_206, e_Mod_token_207, e_Mod_token_210, alk_in, ask_in, blk_in, bsk_in, qlk_in, ack_in, rcv_in, rcA_in, bk_i, bk_l, bk_v, hS_same, hS_ne, hS_hS, hS_2, am_10, am_01, am_00, if_true, if_false, gf_12_0, pf_12_0, gf_12_1, pf_12_1, gf_12_2, pf_12_2, gf_12_3, pf_12_3, gf_12_4, pf_12_4, gf_12_5, pf_12_5, gf_12_6, pf_12_6, gf_12_7, pf_12_7, gf_12_8, pf_12_8, gf_12_9, pf_12_9, gf_12_10, pf_12_10, gf_12_11, pf_12_11, gf_12_12, pf_12_12, gf_12_13, pf_12_13, gf_12_14, pf_12_14, gf_12_15, pf_12_15, gf_12_16, pf_12_16, gf_12_17, pf_12_17, gf_12_18, pf_12_18, gf_12_19, pf_12_19, gf_12_20, pf_12_20, o, c1, c2, G, Int.toNat_natCast, eg]
        rw [if_neg (by omega), if_neg (by omega)]
    · rw [if_neg q, if_neg q]
      rw [if_neg q] at c2
      refine ⟨h, ?_, o, FE.rf⟩
      unfold MoA at o
      rw [e_Mod_token_141]
      simp (disch := omega) only [e_Mod_token_0, e_Mod_token_1, e_Mod_token_2, e_Mod_token_5, e_Mod_token_8, e_Mod_token_10, e_Mod_token_13, e_Mod_token_14, e_Mod_token_15, e_Mod_token_18, e_Mod_token_19, e_Mod_token_20, e_Mod_token_23, e_Mod_token_26, e_Mod_token_27, e_Mod_token_28, e_Mod_token_31, e_Mod_token_34, e_Mod_token_35, e_Mod_token_36, e_Mod_token_39, e_Mod_token_42, e_Mod_token_43, e_Mod_token_44, e_Mod_token_45, e_Mod_token_48, e_Mod_token_49, e_Mod_token_52, e_Mod_token_53, e_Mod_token_55, e_Mod_token_58, e_Mod_token_59, e_Mod_token_61, e_Mod_token_64, e_Mod_token_65, e_Mod_token_67, e_Mod_token_70, e_Mod_token_71, e_Mod_token_74, e_Mod_token_75, e_Mod_token_78, e_Mod_token_78b, e_Mod_token_81, e_Mod_token_82, e_Mod_token_85, e_Mod_token_86, e_Mod_token_88, e_Mod_token_91, e_Mod_token_92, e_Mod_token_95, e_Mod_token_96, e_Mod_token_99, e_Mod_token_100, e_Mod_token_101, e_Mod_token_104, e_Mod_token_105, e_Mod_token_106, e_Mod_token_109, e_Mod_token_110, e_Mod_token_113, e_Mod_token_113b, e_Mod_token_116, e_Mod_token_117, e_Mod_token_120, e_Mod_token_121, e_Mod_token_122, e_Mod_token_125, e_Mod_token_126, e_Mod_token_129, e_Mod_token_130, e_Mod_token_133, e_Mod_token_134, e_Mod_token_135, e_Mod_token_137, e_Mod_token_138, e_Mod_token_142, e_Mod_token_143, e_Mod_token_146, e_Mod_token_149, e_Mod_token_152, e_Mod_token_152b, e_Mod_token_155, e_Mod_token_156, e_Mod_token_157, e_Mod_token_159, e_Mod_token_162, e_Mod_token_163, e_Mod_token_166, e_Mod_token_168, e_Mod_token_171, e_Mod_token_174, e_Mod_token_177, e_Mod_token_179, e_Mod_token_180, e_Mod_token_183, e_Mod_token_184, e_Mod_token_185, e_Mod_token_188, e_Mod_token_189, e_Mod_token_192, e_Mod_token_193, e_Mod_token_194, e_Mod_token_196, e_Mod_token_197, e_Mod_token_200, e_Mod_token_201, e_Mod_token_202, e_Mod_token_205, e_Mod_token_206, e_Mod_token_207, e_Mod_token_210, alk_in, ask_in, blk_in, bsk_in, qlk_in, ack_in, rcv_in, rcA_in, bk_i, bk_l, bk_v, hS_same, hS_ne, hS_hS, hS_2, am_10, am_01, am_00, if_true, if_false, gf_12_0, pf_12_0, gf_12_1, pf_12_1, gf_12_2, pf_12_2, gf_12_3, pf_12_3, gf_12_4, pf_12_4, gf_12_5, pf_12_5, gf_12_6, pf_12_6, gf_12_7, pf_12_7, gf_12_8, pf_12_8, gf_12_9, pf_12_9, gf_12_10, pf_12_10, gf_12_11, pf_12_11, gf_12_12, pf_12_12, gf_12_13, pf_12_13, gf_12_14, pf_12_14, gf_12_15, pf_12_15, gf_12_16, pf_12_16, gf_12_17, pf_12_17, gf_12_18, pf_12_18, gf_12_19, pf_12_19, gf_12_20, pf_12_20, o, c1, c2]
theorem m_token {h : am_H} {p : Nat} {x13 x14 x15 : am_V} (hL : L ≤ 120) (hg : EqB L g f) (hf : ∀ j, j < L → 0 ≤ f j ∧ f j ≤ 255) (hp : p ≤ L) (o : MoA h x0 (vI (L : Int)) x7 x11 (vI (p : Int)) x13 x14 x15) (G : h.1 121 = cI 0 120 g) : ∃ h' s v, ev mMod_token [vR 120] h = some (none, h') ∧ MoA h' x0 (vI (L : Int)) x7 x11 (vI (tkE L f p : Int)) (vI s) (vI (tkS L f p : Int)) (vI v) ∧ MTk (tkC L f p) (tkN L f p) s v ∧ FE [120] h h' := by
  have bS := tkS_b f hp
  have bX := tkX_b f hp
  obtain ⟨h1, e1, o1, f1⟩ := lt_sk (l1 := vU) hL hg hf (L - p) p h (by omega) o G
  have o1' : MoA h1 x0 (vI (L : Int)) x7 x11 (vI (tkS L f p : Int)) x13 x14 x15 := o1
  have G1 := f1.at G (by decide)
  have f2 : FE [120] h1 (hS h1 120 (cO 12 [x0, vR 121, vI (L : Int), vR 122, vR 123, vR 124, vR 125, x7, vR 126, vR 127, vR 128, x11, vI (tkS L f p : Int), x13, vI (tkS L f p : Int), x15, vR 129, vR 130, vR 131, vR 132, vR 133])) := FE.st (by decide)
  have o2 : MoA (hS h1 120 (cO 12 [x0, vR 121, vI (L : Int), vR 122, vR 123, vR 124, vR 125, x7, vR 126, vR 127, vR 128, x11, vI (tkS L f p : Int), x13, vI (tkS L f p : Int), x15, vR 129, vR 130, vR 131, vR 132, vR 133])) x0 (vI (L : Int)) x7 x11 (vI (tkS L f p : Int)) x13 (vI (tkS L f p : Int)) x15 := hS_same
  have G2 := f2.at G1 (by decide)
  have eX : tkX L f p = dgE f (L - tkS L f p) (tkS L f p) := rfl
  have eN : tkN L f p = dgV f (L - tkS L f p) (tkS L f p) 0 := rfl
  unfold tkE tkC
  rw [eN]
  generalize tkX L f p = X at *
  generalize tkS L f p = q at *
  have st : ev mMod_token [vR 120] h = gv mMod_token 26 [vR 120, vU] [] h1 := by
    rw [ev_Mod_token]
    exact e1
  rw [st]
  have o1'' := o1'
  unfold MoA at o1''
  by_cases r : q < L
  · have c1 := m_let1 hL hg o2 G2 r
    have fr := hf q r
    obtain ⟨d, hd⟩ : ∃ d, L - q = d + 1 := ⟨L - q - 1, by omega⟩
    have c2 := fun (hh : am_H) => m_dig (h := hh) (x := f q) (by unfold rg32; omega)
    by_cases dg : 48 ≤ f q ∧ f q ≤ 57
    · have eX2 : X = dgE f d (q + 1) := by
        rw [eX, hd]
        show (if 48 ≤ f q ∧ f q ≤ 57 then dgE f d (q + 1) else q) = _
        rw [if_pos dg]
      have dgb := dgE_b f d (q + 1)
      simp only [dg, and_self, if_true] at c2
      have f3 : FE [120] h1 (hS h1 120 (cO 12 [x0, vR 121, vI (L : Int), vR 122, vR 123, vR 124, vR 125, x7, vR 126, vR 127, vR 128, x11, vI ((q : Int) + 1), vI 2, vI (q : Int), vI (f q - 48), vR 129, vR 130, vR 131, vR 132, vR 133])) := FE.st (by decide)
      obtain ⟨h4, e4, o4, f4⟩ := lt_dg (x14 := vI (q : Int)) hL hg hf (v := f q) (by omega) d (q + 1) (f q - 48) (hS h1 120 (cO 12 [x0, vR 121, vI (L : Int), vR 122, vR 123, vR 124, vR 125, x7, vR 126, vR 127, vR 128, x11, vI ((q : Int) + 1), vI 2, vI (q : Int), vI (f q - 48), vR 129, vR 130, vR 131, vR 132, vR 133])) (by omega) (by omega) hS_same (f3.at G1 (by decide))
      rw [if_pos (show q < X by omega), if_pos (show q < X by omega)]
      refine ⟨h4, 2, mvV f (f q) d (q + 1) (f q - 48), ?_, by rw [eX2]; exact o4, ?_, (f1.tr f3).tr f4⟩
      · simp (disch := omega) only [e_Mod_token_1, e_Mod_token_2, e_Mod_token_5, e_Mod_token_8, e_Mod_token_10, e_Mod_token_13, e_Mod_token_14, e_Mod_token_15, e_Mod_token_18, e_Mod_token_19, e_Mod_token_20, e_Mod_token_23, e_Mod_token_26, e_Mod_token_27, e_Mod_token_28, e_Mod_token_31, e_Mod_token_34, e_Mod_token_35, e_Mod_token_36, e_Mod_token_39, e_Mod_token_42, e_Mod_token_43, e_Mod_token_44, e_Mod_token_45, e_Mod_token_48, e_Mod_token_49, e_Mod_token_52, e_Mod_token_53, e_Mod_token_55, e_Mod_token_58, e_Mod_token_59, e_Mod_token_61, e_Mod_token_64, e_Mod_token_65, e_Mod_token_67, e_Mod_token_70, e_Mod_token_71, e_Mod_token_74, e_Mod_token_75, e_Mod_token_78, e_Mod_token_78b, e_Mod_token_81, e_Mod_token_82, e_Mod_token_85, e_Mod_token_86, e_Mod_token_88, e_Mod_token_91, e_Mod_token_92, e_Mod_token_95, e_Mod_token_96, e_Mod_token_99, e_Mod_token_100, e_Mod_token_101, e_Mod_token_104, e_Mod_token_105, e_Mod_token_106, e_Mod_token_109, e_Mod_token_110, e_Mod_token_113, e_Mod_token_113b, e_Mod_token_116, e_Mod_token_117, e_Mod_token_120, e_Mod_token_121, e_Mod_token_122, e_Mod_token_125, e_Mod_token_126, e_Mod_token_129, e_Mod_token_130, e_Mod_token_133, e_Mod_token_134, e_Mod_token_135, e_Mod_token_137, e_Mod_token_138, e_Mod_token_142, e_Mod_token_143, e_Mod_token_146, e_Mod_token_149, e_Mod_token_152, e_Mod_token_152b, e_Mod_token_155, e_Mod_token_156, e_Mod_token_157, e_Mod_token_159, e_Mod_token_162, e_Mod_token_163, e_Mod_token_166, e_Mod_token_168, e_Mod_token_171, e_Mod_token_174, e_Mod_token_177, e_Mod_token_179, e_Mod_token_180, e_Mod_token_183, e_Mod_token_184, e_Mod_token_185, e_Mod_token_188, e_Mod_token_189, e_Mod_token_192, e_Mod_token_193, e_Mod_token_194, e_Mod_token_196, e_Mod_token_197, e_Mod_token_200, e_Mod_token_201, e_Mod_token_202, e_Mod_token_205, e_Mod_token_206, e_Mod_token_207, e_Mod_token_210, alk_in, ask_in, blk_in, bsk_in, qlk_in, ack_in, rcv_in, rcA_in, bk_i, bk_l, bk_v, hS_same, hS_ne, hS_hS, hS_2, am_10, am_01, am_00, if_true, if_false, gf_12_0, pf_12_0, gf_12_1, pf_12_1, gf_12_2, pf_12_2, gf_12_3, pf_12_3, gf_12_4, pf_12_4, gf_12_5, pf_12_5, gf_12_6, pf_12_6, gf_12_7, pf_12_7, gf_12_8, pf_12_8, gf_12_9, pf_12_9, gf_12_10, pf_12_10, gf_12_11, pf_12_11, gf_12_12, pf_12_12, gf_12_13, pf_12_13, gf_12_14, pf_12_14, gf_12_15, pf_12_15, gf_12_16, pf_12_16, gf_12_17, pf_12_17, gf_12_18, pf_12_18, gf_12_19, pf_12_19, gf_12_20, pf_12_20, o1'', c1, c2]
        rw [if_neg (by omega), if_neg (by omega), if_neg (by omega), if_neg (by omega)]
        refine Eq.trans e4 ?_
        simp (disch := omega) only [e_Mod_token_213]
      · have rr := mv_r (f := f) (v := f q) d (q + 1) (f q - 48) (by omega)
        refine ⟨by omega, ?_⟩
        by_cases z1 : X - q = 1
        · have y1 := mv_1 (f := f) (v := f q) (d := d) (p := q + 1) (a := f q - 48) (by omega)
          have y2 := dgV_2 (f := f) (d := L - q) (p := q) (a := 0) (by omega)
          rw [if_pos (Or.inl z1)]
          exact Or.inr (Or.inl ⟨rfl, rfl, by rw [y1, y2.2]; omega⟩)
        · by_cases z2 : X - q = 2
          · have y1 := mv_2 (f := f) (v := f q) (d := d) (p := q + 1) (a := f q - 48) (by omega)
            have y2 := dgV_3 (f := f) (d := L - q) (p := q) (a := 0) (by omega)
            by_cases z3 : f q = 48
            · rw [if_neg (by omega)]
              rw [if_pos (Or.inl z3)] at y1
              exact Or.inr (Or.inr (Or.inl ⟨rfl, Or.inr ⟨rfl, by rw [y1.2]; omega⟩⟩))
            · rw [if_pos (Or.inr ⟨z2, z3⟩)]
              rw [if_neg (by omega)] at y1
              exact Or.inr (Or.inl ⟨rfl, rfl, by rw [y1.2, y2.2.2]; omega⟩)
          · have y1 := mv_3 (f := f) (v := f q) (d := d) (p := q + 1) (a := f q - 48) (by omega) (by omega) (by omega)
            rw [if_neg (by omega)]
            exact Or.inr (Or.inr (Or.inl ⟨rfl, Or.inr ⟨rfl, y1⟩⟩))
    · have eX2 : X = q := by
        rw [eX, hd]
        show (if 48 ≤ f q ∧ f q ≤ 57 then dgE f d (q + 1) else q) = _
        rw [if_neg dg]
      have nX : ¬ q < X := by omega
      simp only [dg, if_false] at c2
      rw [if_neg nX, if_neg nX, if_pos r, if_pos r]
      by_cases k1 : f q = 110 ∨ f q = 109 ∨ f q = 108
      · refine ⟨hS h1 120 (cO 12 [x0, vR 121, vI (L : Int), vR 122, vR 123, vR 124, vR 125, x7, vR 126, vR 127, vR 128, x11, vI ((q : Int) + 1), vI 1, vI (q : Int), vI (f q), vR 129, vR 130, vR 131, vR 132, vR 133]), 1, f q, ?_, (by first | exact hS_same | (unfold MoA; rw [hS_same]; rfl)), ?_, f1.tr (FE.st (by decide))⟩
        · have sA : gv mMod_token 26 [vR 120, vU] [] h1 = gv mMod_token 96 [vR 120, vI (f q)] [vI 1, vR 120] (hS h1 120 (cO 12 [x0, vR 121, vI (L : Int), vR 122, vR 123, vR 124, vR 125, x7, vR 126, vR 127, vR 128, x11, vI (q : Int), x13, vI (q : Int), x15, vR 129, vR 130, vR 131, vR 132, vR 133])) := by
            simp (disch := omega) only [e_Mod_token_26, e_Mod_token_27, e_Mod_token_28, e_Mod_token_31, e_Mod_token_34, e_Mod_token_35, e_Mod_token_36, e_Mod_token_39, e_Mod_token_42, e_Mod_token_43, e_Mod_token_44, e_Mod_token_45, e_Mod_token_48, e_Mod_token_49, e_Mod_token_52, e_Mod_token_53, e_Mod_token_55, e_Mod_token_58, e_Mod_token_59, e_Mod_token_61, e_Mod_token_64, e_Mod_token_65, e_Mod_token_67, e_Mod_token_70, e_Mod_token_71, e_Mod_token_74, e_Mod_token_75, e_Mod_token_78, e_Mod_token_78b, e_Mod_token_81, e_Mod_token_82, e_Mod_token_85, e_Mod_token_86, e_Mod_token_88, e_Mod_token_91, e_Mod_token_92, e_Mod_token_95, alk_in, ask_in, blk_in, bsk_in, qlk_in, ack_in, rcv_in, rcA_in, bk_i, bk_l, bk_v, hS_same, hS_ne, hS_hS, hS_2, am_10, am_01, am_00, if_true, if_false, gf_12_0, pf_12_0, gf_12_1, pf_12_1, gf_12_2, pf_12_2, gf_12_3, pf_12_3, gf_12_4, pf_12_4, gf_12_5, pf_12_5, gf_12_6, pf_12_6, gf_12_7, pf_12_7, gf_12_8, pf_12_8, gf_12_9, pf_12_9, gf_12_10, pf_12_10, gf_12_11, pf_12_11, gf_12_12, pf_12_12, gf_12_13, pf_12_13, gf_12_14, pf_12_14, gf_12_15, pf_12_15, gf_12_16, pf_12_16, gf_12_17, pf_12_17, gf_12_18, pf_12_18, gf_12_19, pf_12_19, gf_12_20, pf_12_20, o1'', c1, c2]
            rcases k1 with k | k | k
            · rw [if_neg (by omega), if_pos k]
            · rw [if_neg (by omega), if_neg (by omega), if_pos k]
            · rw [if_neg (by omega), if_neg (by omega), if_neg (by omega), if_pos k]
          rw [sA]
          simp (disch := omega) only [e_Mod_token_96, e_Mod_token_99, e_Mod_token_100, e_Mod_token_101, e_Mod_token_104, e_Mod_token_105, e_Mod_token_106, e_Mod_token_109, e_Mod_token_110, e_Mod_token_113, e_Mod_token_113b, e_Mod_token_116, e_Mod_token_117, e_Mod_token_120, e_Mod_token_121, e_Mod_token_122, e_Mod_token_125, e_Mod_token_126, e_Mod_token_129, e_Mod_token_130, e_Mod_token_133, e_Mod_token_134, e_Mod_token_135, e_Mod_token_137, e_Mod_token_138, e_Mod_token_213, alk_in, ask_in, blk_in, bsk_in, qlk_in, ack_in, rcv_in, rcA_in, bk_i, bk_l, bk_v, hS_same, hS_ne, hS_hS, hS_2, am_10, am_01, am_00, if_true, if_false, gf_12_0, pf_12_0, gf_12_1, pf_12_1, gf_12_2, pf_12_2, gf_12_3, pf_12_3, gf_12_4, pf_12_4, gf_12_5, pf_12_5, gf_12_6, pf_12_6, gf_12_7, pf_12_7, gf_12_8, pf_12_8, gf_12_9, pf_12_9, gf_12_10, pf_12_10, gf_12_11, pf_12_11, gf_12_12, pf_12_12, gf_12_13, pf_12_13, gf_12_14, pf_12_14, gf_12_15, pf_12_15, gf_12_16, pf_12_16, gf_12_17, pf_12_17, gf_12_18, pf_12_18, gf_12_19, pf_12_19, gf_12_20, pf_12_20]
          first | done | rw [if_neg (by omega)]
        · rw [if_pos (by omega)]
          exact ⟨by omega, Or.inr (Or.inr (Or.inr (Or.inr ⟨by omega, rfl, rfl⟩)))⟩
      · by_cases k2 : f q = 59
        · refine ⟨hS h1 120 (cO 12 [x0, vR 121, vI (L : Int), vR 122, vR 123, vR 124, vR 125, x7, vR 126, vR 127, vR 128, x11, vI ((q : Int) + 1), vI 3, vI (q : Int), vI (f q), vR 129, vR 130, vR 131, vR 132, vR 133]), 3, f q, ?_, (by first | exact hS_same | (unfold MoA; rw [hS_same]; rfl)), ?_, f1.tr (FE.st (by decide))⟩
          · have sA : gv mMod_token 26 [vR 120, vU] [] h1 = gv mMod_token 96 [vR 120, vI (f q)] [vI 3, vR 120] (hS h1 120 (cO 12 [x0, vR 121, vI (L : Int), vR 122, vR 123, vR 124, vR 125, x7, vR 126, vR 127, vR 128, x11, vI (q : Int), x13, vI (q : Int), x15, vR 129, vR 130, vR 131, vR 132, vR 133])) := by
              simp (disch := omega) only [e_Mod_token_26, e_Mod_token_27, e_Mod_token_28, e_Mod_token_31, e_Mod_token_34, e_Mod_token_35, e_Mod_token_36, e_Mod_token_39, e_Mod_token_42, e_Mod_token_43, e_Mod_token_44, e_Mod_token_45, e_Mod_token_48, e_Mod_token_49, e_Mod_token_52, e_Mod_token_53, e_Mod_token_55, e_Mod_token_58, e_Mod_token_59, e_Mod_token_61, e_Mod_token_64, e_Mod_token_65, e_Mod_token_67, e_Mod_token_70, e_Mod_token_71, e_Mod_token_74, e_Mod_token_75, e_Mod_token_78, e_Mod_token_78b, e_Mod_token_81, e_Mod_token_82, e_Mod_token_85, e_Mod_token_86, e_Mod_token_88, e_Mod_token_91, e_Mod_token_92, e_Mod_token_95, alk_in, ask_in, blk_in, bsk_in, qlk_in, ack_in, rcv_in, rcA_in, bk_i, bk_l, bk_v, hS_same, hS_ne, hS_hS, hS_2, am_10, am_01, am_00, if_true, if_false, gf_12_0, pf_12_0, gf_12_1, pf_12_1, gf_12_2, pf_12_2, gf_12_3, pf_12_3, gf_12_4, pf_12_4, gf_12_5, pf_12_5, gf_12_6, pf_12_6, gf_12_7, pf_12_7, gf_12_8, pf_12_8, gf_12_9, pf_12_9, gf_12_10, pf_12_10, gf_12_11, pf_12_11, gf_12_12, pf_12_12, gf_12_13, pf_12_13, gf_12_14, pf_12_14, gf_12_15, pf_12_15, gf_12_16, pf_12_16, gf_12_17, pf_12_17, gf_12_18, pf_12_18, gf_12_19, pf_12_19, gf_12_20, pf_12_20, o1'', c1, c2]
              rw [if_neg (by omega), if_neg (by omega), if_neg (by omega), if_neg (by omega), if_pos k2]
            rw [sA]
            simp (disch := omega) only [e_Mod_token_96, e_Mod_token_99, e_Mod_token_100, e_Mod_token_101, e_Mod_token_104, e_Mod_token_105, e_Mod_token_106, e_Mod_token_109, e_Mod_token_110, e_Mod_token_113, e_Mod_token_113b, e_Mod_token_116, e_Mod_token_117, e_Mod_token_120, e_Mod_token_121, e_Mod_token_122, e_Mod_token_125, e_Mod_token_126, e_Mod_token_129, e_Mod_token_130, e_Mod_token_133, e_Mod_token_134, e_Mod_token_135, e_Mod_token_137, e_Mod_token_138, e_Mod_token_213, alk_in, ask_in, blk_in, bsk_in, qlk_in, ack_in, rcv_in, rcA_in, bk_i, bk_l, bk_v, hS_same, hS_ne, hS_hS, hS_2, am_10, am_01, am_00, if_true, if_false, gf_12_0, pf_12_0, gf_12_1, pf_12_1, gf_12_2, pf_12_2, gf_12_3, pf_12_3, gf_12_4, pf_12_4, gf_12_5, pf_12_5, gf_12_6, pf_12_6, gf_12_7, pf_12_7, gf_12_8, pf_12_8, gf_12_9, pf_12_9, gf_12_10, pf_12_10, gf_12_11, pf_12_11, gf_12_12, pf_12_12, gf_12_13, pf_12_13, gf_12_14, pf_12_14, gf_12_15, pf_12_15, gf_12_16, pf_12_16, gf_12_17, pf_12_17, gf_12_18, pf_12_18, gf_12_19, pf_12_19, gf_12_20, pf_12_20]
            first | done | (rw [if_neg (by omega), if_neg (by omega)]; done) | rw [if_neg (by omega)]
          · rw [if_pos (by omega)]
            exact ⟨by omega, Or.inr (Or.inr (Or.inr (Or.inl ⟨k2, rfl⟩)))⟩
        · refine ⟨hS h1 120 (cO 12 [x0, vR 121, vI (L : Int), vR 122, vR 123, vR 124, vR 125, x7, vR 126, vR 127, vR 128, x11, vI ((q : Int) + 1), vI 4, vI (q : Int), vI (f q), vR 129, vR 130, vR 131, vR 132, vR 133]), 4, f q, ?_, (by first | exact hS_same | (unfold MoA; rw [hS_same]; rfl)), ?_, f1.tr (FE.st (by decide))⟩
          · have sA : gv mMod_token 26 [vR 120, vU] [] h1 = gv mMod_token 96 [vR 120, vI (f q)] [vI 4, vR 120] (hS h1 120 (cO 12 [x0, vR 121, vI (L : Int), vR 122, vR 123, vR 124, vR 125, x7, vR 126, vR 127, vR 128, x11, vI (q : Int), x13, vI (q : Int), x15, vR 129, vR 130, vR 131, vR 132, vR 133])) := by
              simp (disch := omega) only [e_Mod_token_26, e_Mod_token_27, e_Mod_token_28, e_Mod_token_31, e_Mod_token_34, e_Mod_token_35, e_Mod_token_36, e_Mod_token_39, e_Mod_token_42, e_Mod_token_43, e_Mod_token_44, e_Mod_token_45, e_Mod_token_48, e_Mod_token_49, e_Mod_token_52, e_Mod_token_53, e_Mod_token_55, e_Mod_token_58, e_Mod_token_59, e_Mod_token_61, e_Mod_token_64, e_Mod_token_65, e_Mod_token_67, e_Mod_token_70, e_Mod_token_71, e_Mod_token_74, e_Mod_token_75, e_Mod_token_78, e_Mod_token_78b, e_Mod_token_81, e_Mod_token_82, e_Mod_token_85, e_Mod_token_86, e_Mod_token_88, e_Mod_token_91, e_Mod_token_92, e_Mod_token_95, alk_in, ask_in, blk_in, bsk_in, qlk_in, ack_in, rcv_in, rcA_in, bk_i, bk_l, bk_v, hS_same, hS_ne, hS_hS, hS_2, am_10, am_01, am_00, if_true, if_false, gf_12_0, pf_12_0, gf_12_1, pf_12_1, gf_12_2, pf_12_2, gf_12_3, pf_12_3, gf_12_4, pf_12_4, gf_12_5, pf_12_5, gf_12_6, pf_12_6, gf_12_7, pf_12_7, gf_12_8, pf_12_8, gf_12_9, pf_12_9, gf_12_10, pf_12_10, gf_12_11, pf_12_11, gf_12_12, pf_12_12, gf_12_13, pf_12_13, gf_12_14, pf_12_14, gf_12_15, pf_12_15, gf_12_16, pf_12_16, gf_12_17, pf_12_17, gf_12_18, pf_12_18, gf_12_19, pf_12_19, gf_12_20, pf_12_20, o1'', c1, c2]
              rw [if_neg (by omega), if_neg (by omega), if_neg (by omega), if_neg (by omega), if_neg k2]
            rw [sA]
            simp (disch := omega) only [e_Mod_token_96, e_Mod_token_99, e_Mod_token_100, e_Mod_token_101, e_Mod_token_104, e_Mod_token_105, e_Mod_token_106, e_Mod_token_109, e_Mod_token_110, e_Mod_token_113, e_Mod_token_113b, e_Mod_token_116, e_Mod_token_117, e_Mod_token_120, e_Mod_token_121, e_Mod_token_122, e_Mod_token_125, e_Mod_token_126, e_Mod_token_129, e_Mod_token_130, e_Mod_token_133, e_Mod_token_134, e_Mod_token_135, e_Mod_token_137, e_Mod_token_138, e_Mod_token_213, alk_in, ask_in, blk_in, bsk_in, qlk_in, ack_in, rcv_in, rcA_in, bk_i, bk_l, bk_v, hS_same, hS_ne, hS_hS, hS_2, am_10, am_01, am_00, if_true, if_false, gf_12_0, pf_12_0, gf_12_1, pf_12_1, gf_12_2, pf_12_2, gf_12_3, pf_12_3, gf_12_4, pf_12_4, gf_12_5, pf_12_5, gf_12_6, pf_12_6, gf_12_7, pf_12_7, gf_12_8, pf_12_8, gf_12_9, pf_12_9, gf_12_10, pf_12_10, gf_12_11, pf_12_11, gf_12_12, pf_12_12, gf_12_13, pf_12_13, gf_12_14, pf_12_14, gf_12_15, pf_12_15, gf_12_16, pf_12_16, gf_12_17, pf_12_17, gf_12_18, pf_12_18, gf_12_19, pf_12_19, gf_12_20, pf_12_20]
            first | done | (rw [if_neg (by omega), if_neg (by omega)]; done) | rw [if_neg (by omega)]
          · rw [if_neg (by omega)]
            exact ⟨by omega, Or.inr (Or.inr (Or.inl ⟨rfl, Or.inl rfl⟩))⟩
  · have eq : q = L := by omega
    subst eq
    have c1 := m_let0 hL o2
    have nX : ¬ q < X := by omega
    rw [if_neg nX, if_neg nX, if_neg r, if_neg r]
    refine ⟨hS h1 120 (cO 12 [x0, vR 121, vI (q : Int), vR 122, vR 123, vR 124, vR 125, x7, vR 126, vR 127, vR 128, x11, vI (q : Int), vI 0, vI (q : Int), vI (-1), vR 129, vR 130, vR 131, vR 132, vR 133]), 0, -1, ?_, (by first | exact hS_same | (unfold MoA; rw [hS_same]; rfl)), ⟨by omega, Or.inl ⟨rfl, rfl⟩⟩, f1.tr (FE.st (by decide))⟩
    have sA : gv mMod_token 26 [vR 120, vU] [] h1 = gv mMod_token 96 [vR 120, vI (-1)] [vI 0, vR 120] (hS h1 120 (cO 12 [x0, vR 121, vI (q : Int), vR 122, vR 123, vR 124, vR 125, x7, vR 126, vR 127, vR 128, x11, vI (q : Int), x13, vI (q : Int), x15, vR 129, vR 130, vR 131, vR 132, vR 133])) := by
      simp (disch := omega) only [e_Mod_token_26, e_Mod_token_27, e_Mod_token_28, e_Mod_token_31, e_Mod_token_34, e_Mod_token_35, e_Mod_token_36, e_Mod_token_39, e_Mod_token_42, e_Mod_token_43, e_Mod_token_44, e_Mod_token_45, e_Mod_token_48, e_Mod_token_49, alk_in, ask_in, blk_in, bsk_in, qlk_in, ack_in, rcv_in, rcA_in, bk_i, bk_l, bk_v, hS_same, hS_ne, hS_hS, hS_2, am_10, am_01, am_00, if_true, if_false, gf_12_0, pf_12_0, gf_12_1, pf_12_1, gf_12_2, pf_12_2, gf_12_3, pf_12_3, gf_12_4, pf_12_4, gf_12_5, pf_12_5, gf_12_6, pf_12_6, gf_12_7, pf_12_7, gf_12_8, pf_12_8, gf_12_9, pf_12_9, gf_12_10, pf_12_10, gf_12_11, pf_12_11, gf_12_12, pf_12_12, gf_12_13, pf_12_13, gf_12_14, pf_12_14, gf_12_15, pf_12_15, gf_12_16, pf_12_16, gf_12_17, pf_12_17, gf_12_18, pf_12_18, gf_12_19, pf_12_19, gf_12_20, pf_12_20, o1'', c1]
      first | done | rw [if_pos (by omega)]
    rw [sA]
    simp (disch := omega) only [e_Mod_token_96, e_Mod_token_99, e_Mod_token_100, e_Mod_token_101, e_Mod_token_104, e_Mod_token_105, e_Mod_token_106, e_Mod_token_109, e_Mod_token_110, e_Mod_token_113, e_Mod_token_113b, e_Mod_token_116, e_Mod_token_117, e_Mod_token_120, e_Mod_token_121, e_Mod_token_122, e_Mod_token_125, e_Mod_token_126, e_Mod_token_129, e_Mod_token_130, e_Mod_token_133, e_Mod_token_134, e_Mod_token_135, e_Mod_token_137, e_Mod_token_138, e_Mod_token_213, alk_in, ask_in, blk_in, bsk_in, qlk_in, ack_in, rcv_in, rcA_in, bk_i, bk_l, bk_v, hS_same, hS_ne, hS_hS, hS_2, am_10, am_01, am_00, if_true, if_false, gf_12_0, pf_12_0, gf_12_1, pf_12_1, gf_12_2, pf_12_2, gf_12_3, pf_12_3, gf_12_4, pf_12_4, gf_12_5, pf_12_5, gf_12_6, pf_12_6, gf_12_7, pf_12_7, gf_12_8, pf_12_8, gf_12_9, pf_12_9, gf_12_10, pf_12_10, gf_12_11, pf_12_11, gf_12_12, pf_12_12, gf_12_13, pf_12_13, gf_12_14, pf_12_14, gf_12_15, pf_12_15, gf_12_16, pf_12_16, gf_12_17, pf_12_17, gf_12_18, pf_12_18, gf_12_19, pf_12_19, gf_12_20, pf_12_20, Int.add_zero]
    first | done | (rw [if_neg (by omega)]; done) | rfl
end TokM
