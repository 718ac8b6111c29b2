/-! the text: tokens -/
def sk (f : Nat → Int) (d p : Nat) : Nat := match d with
  | 0 => p
  | d + 1 => if f p = 32 then sk f d (p + 1) else p
def dgE (f : Nat → Int) (d p : Nat) : Nat := match d with
  | 0 => p
  | d + 1 => if 48 ≤ f p ∧ f p ≤ 57 then dgE f d (p + 1) else p
def dgV (f : Nat → Int) (d p : Nat) (a : Int) : Int := match d with
  | 0 => a
  | d + 1 => if 48 ≤ f p ∧ f p ≤ 57 then dgV f d (p + 1) (a * 10 + f p - 48) else a
def tkS (L : Nat) (f : Nat → Int) (p : Nat) : Nat := sk f (L - p) p
def tkX (L : Nat) (f : Nat → Int) (p : Nat) : Nat := dgE f (L - tkS L f p) (tkS L f p)
def tkN (L : Nat) (f : Nat → Int) (p : Nat) : Int := dgV f (L - tkS L f p) (tkS L f p) 0
def tkE (L : Nat) (f : Nat → Int) (p : Nat) : Nat := if tkS L f p < tkX L f p then tkX L f p else if tkS L f p < L then tkS L f p + 1 else tkS L f p
def tkC (L : Nat) (f : Nat → Int) (p : Nat) : Int := if tkS L f p < tkX L f p then (if tkX L f p - tkS L f p = 1 ∨ tkX L f p - tkS L f p = 2 ∧ ¬ f (tkS L f p) = 48 then 1 else 2) else if tkS L f p < L then (if f (tkS L f p) = 110 ∨ f (tkS L f p) = 109 ∨ f (tkS L f p) = 108 ∨ f (tkS L f p) = 59 then f (tkS L f p) else 2) else 0
theorem sk_b (f : Nat → Int) : ∀ d p, p ≤ sk f d p ∧ sk f d p ≤ p + d := by
  intro d
  induction d with
  | zero => intro p; unfold sk; omega
  | succ d ih =>
    intro p
    have := ih (p + 1)
    unfold sk
    split <;> omega
theorem dgE_b (f : Nat → Int) : ∀ d p, p ≤ dgE f d p ∧ dgE f d p ≤ p + d := by
  intro d
  induction d with
  | zero => intro p; unfold dgE; omega
  | succ d ih =>
    intro p
    have := ih (p + 1)
    unfold dgE
    split <;> omega
theorem tkS_b {L p : Nat} (f : Nat → Int) (h : p ≤ L) : p ≤ tkS L f p ∧ tkS L f p ≤ L := by
  have := sk_b f (L - p) p
  unfold tkS
  omega
theorem tkX_b {L p : Nat} (f : Nat → Int) (h : p ≤ L) : tkS L f p ≤ tkX L f p ∧ tkX L f p ≤ L := by
  have a := tkS_b f h
  have := dgE_b f (L - tkS L f p) (tkS L f p)
  unfold tkX
  omega
theorem tkE_b {L p : Nat} (f : Nat → Int) (h : p ≤ L) : p ≤ tkE L f p ∧ tkE L f p ≤ L := by
  have a := tkS_b f h
  have b := tkX_b f h
  unfold tkE
  split
  · omega
  · split <;> omega
theorem tkE_up {L p : Nat} {f : Nat → Int} (h : p ≤ L) (hc : ¬ tkC L f p = 0) : p < tkE L f p := by
  have a := tkS_b f h
  have b := tkX_b f h
  unfold tkE
  unfold tkC at hc
  by_cases q : tkS L f p < tkX L f p
  · rw [if_pos q]; omega
  · rw [if_neg q] at hc ⊢
    by_cases r : tkS L f p < L
    · rw [if_pos r]; omega
    · rw [if_neg r] at hc; omega
theorem tkC_r (L : Nat) (f : Nat → Int) (p : Nat) : tkC L f p = 0 ∨ tkC L f p = 1 ∨ tkC L f p = 2 ∨ tkC L f p = 59 ∨ tkC L f p = 108 ∨ tkC L f p = 109 ∨ tkC L f p = 110 := by
  unfold tkC
  split
  · split <;> omega
  · split
    · split <;> omega
    · omega
theorem dgV_1 {f : Nat → Int} {d p : Nat} {a : Int} (h : dgE f d p = p) : dgV f d p a = a := by
  cases d with
  | zero => rfl
  | succ d =>
    unfold dgE at h
    unfold dgV
    by_cases q : 48 ≤ f p ∧ f p ≤ 57
    · rw [if_pos q] at h
      have := dgE_b f d (p + 1)
      omega
    · rw [if_neg q]
theorem dgV_2 {f : Nat → Int} {d p : Nat} {a : Int} (h : dgE f d p = p + 1) : (48 ≤ f p ∧ f p ≤ 57) ∧ dgV f d p a = a * 10 + f p - 48 := by
  cases d with
  | zero => unfold dgE at h; omega
  | succ d =>
    unfold dgE at h
    unfold dgV
    by_cases q : 48 ≤ f p ∧ f p ≤ 57
    · rw [if_pos q] at h
      rw [if_pos q]
      exact ⟨q, dgV_1 h⟩
    · rw [if_neg q] at h; omega
theorem dgV_3 {f : Nat → Int} {d p : Nat} {a : Int} (h : dgE f d p = p + 2) : (48 ≤ f p ∧ f p ≤ 57) ∧ (48 ≤ f (p + 1) ∧ f (p + 1) ≤ 57) ∧ dgV f d p a = (a * 10 + f p - 48) * 10 + f (p + 1) - 48 := by
  cases d with
  | zero => unfold dgE at h; omega
  | succ d =>
    unfold dgE at h
    unfold dgV
    by_cases q : 48 ≤ f p ∧ f p ≤ 57
    · rw [if_pos q] at h
      rw [if_pos q]
      have z := dgV_2 (a := a * 10 + f p - 48) (show dgE f d (p + 1) = p + 1 + 1 by omega)
      exact ⟨q, z⟩
    · rw [if_neg q] at h; omega
theorem tkN_b {L p : Nat} {f : Nat → Int} (h : p ≤ L) (hc : tkC L f p = 1) (hf : ∀ j, j < L → 0 ≤ f j ∧ f j ≤ 255) : 0 ≤ tkN L f p ∧ tkN L f p ≤ 99 := by
  have a := tkS_b f h
  have b := tkX_b f h
  unfold tkC at hc
  unfold tkN
  by_cases q : tkS L f p < tkX L f p
  · rw [if_pos q] at hc
    by_cases r : tkX L f p - tkS L f p = 1 ∨ tkX L f p - tkS L f p = 2 ∧ ¬ f (tkS L f p) = 48
    · rcases r with r | r
      · have z0 : dgE f (L - tkS L f p) (tkS L f p) = tkS L f p + 1 := show tkX L f p = tkS L f p + 1 by omega
        have z := dgV_2 (f := f) (a := 0) z0
        omega
      · have z0 : dgE f (L - tkS L f p) (tkS L f p) = tkS L f p + 2 := show tkX L f p = tkS L f p + 2 by omega
        have z := dgV_3 (f := f) (a := 0) z0
        omega
    · rw [if_neg r] at hc; omega
  · rw [if_neg q] at hc
    by_cases r : tkS L f p < L
    · rw [if_pos r] at hc
      by_cases s : f (tkS L f p) = 110 ∨ f (tkS L f p) = 109 ∨ f (tkS L f p) = 108 ∨ f (tkS L f p) = 59
      · rw [if_pos s] at hc; omega
      · rw [if_neg s] at hc; omega
    · rw [if_neg r] at hc; omega
section Adv
variable {L : Nat} {f g : Nat → Int} {x3 x4 x5 x7 : am_V}
theorem c_tdig {h : am_H} {x : Int} (hx : rg32 x) : ev mText_isDigit [vI x] h = some (some (vI (if 48 ≤ x ∧ x ≤ 57 then 1 else 0)), h) := by
  unfold rg32 at hx
  rw [ev_Text_isDigit]
  simp (disch := omega) only [e_Text_isDigit_0, e_Text_isDigit_1, e_Text_isDigit_3, e_Text_isDigit_6, e_Text_isDigit_7, e_Text_isDigit_9, e_Text_isDigit_12, e_Text_isDigit_13, e_Text_isDigit_16, e_Text_isDigit_17, alk_in, ask_in, blk_in, bsk_in, qlk_in, ack_in, rcv_in, rcA_in, bk_i, bk_l, bk_v, hS_same, hS_ne, hS_hS, hS_2, am_10, am_01, am_00, if_true, if_false]
  by_cases h1 : x < 48
  · rw [if_pos h1, if_neg (by omega)]
  · rw [if_neg h1]
    by_cases h2 : 57 < x
    · rw [if_neg (show ¬ (48 ≤ x ∧ x ≤ 57) by omega)]
      first | rw [if_pos h2] | rw [if_neg (by omega)]
    · rw [if_pos (show 48 ≤ x ∧ x ≤ 57 by omega)]
      first | rw [if_neg h2] | rw [if_pos (by omega)]
theorem c_known {h : am_H} {x : Int} (hx : rg32 x) : ev mText_isKnownLetter [vI x] h = some (some (vI (if x = 110 ∨ x = 109 ∨ x = 108 ∨ x = 59 then 1 else 0)), h) := by
  unfold rg32 at hx
  rw [ev_Text_isKnownLetter]
  simp (disch := omega) only [e_Text_isKnownLetter_0, e_Text_isKnownLetter_1, e_Text_isKnownLetter_3, e_Text_isKnownLetter_6, e_Text_isKnownLetter_7, e_Text_isKnownLetter_9, e_Text_isKnownLetter_12, e_Text_isKnownLetter_13, e_Text_isKnownLetter_15, e_Text_isKnownLetter_18, e_Text_isKnownLetter_19, e_Text_isKnownLetter_21, e_Text_isKnownLetter_24, e_Text_isKnownLetter_25, e_Text_isKnownLetter_28, e_Text_isKnownLetter_29, alk_in, ask_in, blk_in, bsk_in, qlk_in, ack_in, rcv_in, rcA_in, bk_i, bk_l, bk_v, hS_same, hS_ne, hS_hS, hS_2, am_10, am_01, am_00, if_true, if_false]
  by_cases h1 : x = 110
  · simp [h1]
  · by_cases h2 : x = 109
    · simp [h2]
    · by_cases h3 : x = 108
      · simp [h3]
      · by_cases h4 : x = 59
        · simp [h4]
        · simp [h1, h2, h3, h4]
theorem la_sk (hL : L ≤ 120) (hg : EqB L g f) (hf : ∀ j, j < L → 0 ≤ f j ∧ f j ≤ 255) {x8 x9 x10 : am_V} : ∀ (d p : Nat) (h : am_H), p + d = L → h.1 2 = cO 8 [vI (L : Int), vR 3, vR 4, x3, x4, x5, vI (p : Int), x7, x8, x9, x10] → h.1 3 = cI 0 120 g → ∃ h', gv mText_advance 0 [vR 2] [] h = gv mText_advance 38 [vR 2] [] h' ∧ h'.1 2 = cO 8 [vI (L : Int), vR 3, vR 4, x3, x4, x5, vI (sk f d p : Int), x7, x8, x9, x10] ∧ Fr 2 3 h h' := by
  intro d
  induction d with
  | zero =>
    intro p h hp O G
    refine ⟨h, ?_, O, Fr.rf⟩
    rw [e_Text_advance_0]
    simp (disch := omega) only [e_Text_advance_1, e_Text_advance_4, e_Text_advance_5, e_Text_advance_8, e_Text_advance_11, e_Text_advance_12, e_Text_advance_15, e_Text_advance_16, e_Text_advance_19, e_Text_advance_20, e_Text_advance_22, e_Text_advance_25, e_Text_advance_26, e_Text_advance_27, e_Text_advance_30, e_Text_advance_31, e_Text_advance_32, e_Text_advance_35, e_Text_advance_39, e_Text_advance_40, e_Text_advance_43, e_Text_advance_46, e_Text_advance_47, e_Text_advance_48, e_Text_advance_51, e_Text_advance_52, e_Text_advance_55, e_Text_advance_56, e_Text_advance_59, e_Text_advance_62, e_Text_advance_63, e_Text_advance_66, e_Text_advance_67, e_Text_advance_70, e_Text_advance_71, e_Text_advance_74, e_Text_advance_74b, e_Text_advance_77, e_Text_advance_78, e_Text_advance_79, e_Text_advance_82, e_Text_advance_84, e_Text_advance_85, e_Text_advance_86, e_Text_advance_89, e_Text_advance_90, e_Text_advance_93, e_Text_advance_94, e_Text_advance_95, e_Text_advance_97, e_Text_advance_98, e_Text_advance_101, e_Text_advance_102, e_Text_advance_103, e_Text_advance_106, e_Text_advance_107, e_Text_advance_108, e_Text_advance_111, e_Text_advance_114, e_Text_advance_115, e_Text_advance_118, e_Text_advance_119, e_Text_advance_122, e_Text_advance_125, e_Text_advance_126, e_Text_advance_127, e_Text_advance_130, e_Text_advance_130b, e_Text_advance_133, e_Text_advance_134, e_Text_advance_137, e_Text_advance_138, e_Text_advance_141, e_Text_advance_144, e_Text_advance_145, e_Text_advance_148, e_Text_advance_149, e_Text_advance_152, e_Text_advance_155, e_Text_advance_156, e_Text_advance_157, e_Text_advance_160, e_Text_advance_161, e_Text_advance_164, e_Text_advance_165, e_Text_advance_168, e_Text_advance_168b, e_Text_advance_171, e_Text_advance_172, e_Text_advance_175, e_Text_advance_176, e_Text_advance_179, e_Text_advance_180, e_Text_advance_183, e_Text_advance_184, e_Text_advance_187, e_Text_advance_188, e_Text_advance_189, e_Text_advance_192, e_Text_advance_193, e_Text_advance_194, e_Text_advance_197, e_Text_advance_200, e_Text_advance_201, e_Text_advance_202, e_Text_advance_205, alk_in, ask_in, blk_in, bsk_in, qlk_in, ack_in, rcv_in, rcA_in, bk_i, bk_l, bk_v, hS_same, hS_ne, hS_hS, hS_2, am_10, am_01, am_00, if_true, if_false, gf_8_0, pf_8_0, gf_8_1, pf_8_1, gf_8_2, pf_8_2, gf_8_3, pf_8_3, gf_8_4, pf_8_4, gf_8_5, pf_8_5, gf_8_6, pf_8_6, gf_8_7, pf_8_7, gf_8_8, pf_8_8, gf_8_9, pf_8_9, gf_8_10, pf_8_10, O]
    rw [if_neg (by omega)]
  | succ d ih =>
    intro p h hp O G
    have r := hf p (by omega)
    have e := hg p (by omega)
    unfold sk
    by_cases q : f p = 32
    · rw [if_pos q]
      have f1 : Fr 2 3 h (hS h 2 (cO 8 [vI (L : Int), vR 3, vR 4, x3, x4, x5, vI ((p : Int) + 1), x7, x8, x9, x10])) := Fr.st (by omega)
      obtain ⟨h2, e2, O2, f2⟩ := ih (p + 1) _ (by omega) (hS_same (h := h) (a := 2) (c := cO 8 [vI (L : Int), vR 3, vR 4, x3, x4, x5, vI ((p : Int) + 1), x7, x8, x9, x10])) ((f1.at (by omega)).trans G)
      refine ⟨h2, ?_, O2, f1.tr f2⟩
      rw [e_Text_advance_0, ← e2]
      simp (disch := omega) only [e_Text_advance_1, e_Text_advance_4, e_Text_advance_5, e_Text_advance_8, e_Text_advance_11, e_Text_advance_12, e_Text_advance_15, e_Text_advance_16, e_Text_advance_19, e_Text_advance_20, e_Text_advance_22, e_Text_advance_25, e_Text_advance_26, e_Text_advance_27, e_Text_advance_30, e_Text_advance_31, e_Text_advance_32, e_Text_advance_35, e_Text_advance_39, e_Text_advance_40, e_Text_advance_43, e_Text_advance_46, e_Text_advance_47, e_Text_advance_48, e_Text_advance_51, e_Text_advance_52, e_Text_advance_55, e_Text_advance_56, e_Text_advance_59, e_Text_advance_62, e_Text_advance_63, e_Text_advance_66, e_Text_advance_67, e_Text_advance_70, e_Text_advance_71, e_Text_advance_74, e_Text_advance_74b, e_Text_advance_77, e_Text_advance_78, e_Text_advance_79, e_Text_advance_82, e_Text_advance_84, e_Text_advance_85, e_Text_advance_86, e_Text_advance_89, e_Text_advance_90, e_Text_advance_93, e_Text_advance_94, e_Text_advance_95, e_Text_advance_97, e_Text_advance_98, e_Text_advance_101, e_Text_advance_102, e_Text_advance_103, e_Text_advance_106, e_Text_advance_107, e_Text_advance_108, e_Text_advance_111, e_Text_advance_114, e_Text_advance_115, e_Text_advance_118, e_Text_advance_119, e_Text_advance_122, e_Text_advance_125, e_Text_advance_126, e_Text_advance_127, e_Text_advance_130, e_Text_advance_130b, e_Text_advance_133, e_Text_advance_134, e_Text_advance_137, e_Text_advance_138, e_Text_advance_141, e_Text_advance_144, e_Text_advance_145, e_Text_advance_148, e_Text_advance_149, e_Text_advance_152, e_Text_advance_155, e_Text_advance_156, e_Text_advance_157, e_Text_advance_160, e_Text_advance_161, e_Text_advance_164, e_Text_advance_165, e_Text_advance_168, e_Text_advance_168b, e_Text_advance_171, e_Text_advance_172, e_Text_advance_175, e_Text_advance_176, e_Text_advance_179, e_Text_advance_180, e_Text_advance_183, e_Text_advance_184, e_Text_advance_187, e_Text_advance_188, e_Text_advance_189, e_Text_advance_192, e_Text_advance_193, e_Text_advance_194, e_Text_advance_197, e_Text_advance_200, e_Text_advance_201, e_Text_advance_202, e_Text_advance_205, alk_in, ask_in, blk_in, bsk_in, qlk_in, ack_in, rcv_in, rcA_in, bk_i, bk_l, bk_v, hS_same, hS_ne, hS_hS, hS_2, am_10, am_01, am_00, if_true, if_false, gf_8_0, pf_8_0, gf_8_1, pf_8_1, gf_8_2, pf_8_2, gf_8_3, pf_8_3, gf_8_4, pf_8_4, gf_8_5, pf_8_5, gf_8_6, pf_8_6, gf_8_7, pf_8_7, gf_8_8, pf_8_8, gf_8_9, pf_8_9, gf_8_10, pf_8_10, O, G, Int.toNat_natCast, e, q]
      rw [if_pos (by omega)]
    · rw [if_neg q]
      refine ⟨h, ?_, O, Fr.rf⟩
      rw [e_Text_advance_0]
      simp (disch := omega) only [e_Text_advance_1, e_Text_advance_4, e_Text_advance_5, e_Text_advance_8, e_Text_advance_11, e_Text_advance_12, e_Text_advance_15, e_Text_advance_16, e_Text_advance_19, e_Text_advance_20, e_Text_advance_22, e_Text_advance_25, e_Text_advance_26, e_Text_advance_27, e_Text_advance_30, e_Text_advance_31, e_Text_advance_32, e_Text_advance_35, e_Text_advance_39, e_Text_advance_40, e_Text_advance_43, e_Text_advance_46, e_Text_advance_47, e_Text_advance_48, e_Text_advance_51, e_Text_advance_52, e_Text_advance_55, e_Text_advance_56, e_Text_advance_59, e_Text_advance_62, e_Text_advance_63, e_Text_advance_66, e_Text_advance_67, e_Text_advance_70, e_Text_advance_71, e_Text_advance_74, e_Text_advance_74b, e_Text_advance_77, e_Text_advance_78, e_Text_advance_79, e_Text_advance_82, e_Text_advance_84, e_Text_advance_85, e_Text_advance_86, e_Text_advance_89, e_Text_advance_90, e_Text_advance_93, e_Text_advance_94, e_Text_advance_95, e_Text_advance_97, e_Text_advance_98, e_Text_advance_101, e_Text_advance_102, e_Text_advance_103, e_Text_advance_106, e_Text_advance_107, e_Text_advance_108, e_Text_advance_111, e_Text_advance_114, e_Text_advance_115, e_Text_advance_118, e_Text_advance_119, e_Text_advance_122, e_Text_advance_125, e_Text_advance_126, e_Text_advance_127, e_Text_advance_130, e_Text_advance_130b, e_Text_advance_133, e_Text_advance_134, e_Text_advance_137, e_Text_advance_138, e_Text_advance_141, e_Text_advance_144, e_Text_advance_145, e_Text_advance_148, e_Text_advance_149, e_Text_advance_152, e_Text_advance_155, e_Text_advance_156, e_Text_advance_157, e_Text_advance_160, e_Text_advance_161, e_Text_advance_164, e_Text_advance_165, e_Text_advance_168, e_Text_advance_168b, e_Text_advance_171, e_Text_advance_172, e_Text_advance_175, e_Text_advance_176, e_Text_advance_179, e_Text_advance_180, e_Text_advance_183, e_Text_advance_184, e_Text_advance_187, e_Text_advance_188, e_Text_advance_189, e_Text_advance_192, e_Text_advance_193, e_Text_advance_194, e_Text_advance_197, e_Text_advance_200, e_Text_advance_201, e_Text_advance_202, e_Text_advance_205, alk_in, ask_in, blk_in, bsk_in, qlk_in, ack_in, rcv_in, rcA_in, bk_i, bk_l, bk_v, hS_same, hS_ne, hS_hS, hS_2, am_10, am_01, am_00, if_true, if_false, gf_8_0, pf_8_0, gf_8_1, pf_8_1, gf_8_2, pf_8_2, gf_8_3, pf_8_3, gf_8_4, pf_8_4, gf_8_5, pf_8_5, gf_8_6, pf_8_6, gf_8_7, pf_8_7, gf_8_8, pf_8_8, gf_8_9, pf_8_9, gf_8_10, pf_8_10, O, G, Int.toNat_natCast, e, q]
      rw [if_pos (by omega)]
theorem la_dg (hL : L ≤ 120) (hg : EqB L g f) (hf : ∀ j, j < L → 0 ≤ f j ∧ f j ≤ 255) {x8 x9 : am_V} : ∀ (d p : Nat) (a : Int) (h : am_H), p + d = L → h.1 2 = cO 8 [vI (L : Int), vR 3, vR 4, x3, x4, x5, vI (p : Int), x7, x8, x9, vI a] → h.1 3 = cI 0 120 g → ∃ h', gv mText_advance 51 [vR 2] [] h = gv mText_advance 114 [vR 2] [] h' ∧ h'.1 2 = cO 8 [vI (L : Int), vR 3, vR 4, x3, x4, x5, vI (dgE f d p : Int), x7, x8, x9, vI (dgV f d p a)] ∧ Fr 2 3 h h' := by
  intro d
  induction d with
  | zero =>
    intro p a h hp O G
    refine ⟨h, ?_, O, Fr.rf⟩
    rw [e_Text_advance_51]
    simp (disch := omega) only [e_Text_advance_0, e_Text_advance_1, e_Text_advance_4, e_Text_advance_5, e_Text_advance_8, e_Text_advance_11, e_Text_advance_12, e_Text_advance_15, e_Text_advance_16, e_Text_advance_19, e_Text_advance_20, e_Text_advance_22, e_Text_advance_25, e_Text_advance_26, e_Text_advance_27, e_Text_advance_30, e_Text_advance_31, e_Text_advance_32, e_Text_advance_35, e_Text_advance_38, e_Text_advance_39, e_Text_advance_40, e_Text_advance_43, e_Text_advance_46, e_Text_advance_47, e_Text_advance_48, e_Text_advance_52, e_Text_advance_55, e_Text_advance_56, e_Text_advance_59, e_Text_advance_62, e_Text_advance_63, e_Text_advance_66, e_Text_advance_67, e_Text_advance_70, e_Text_advance_71, e_Text_advance_74, e_Text_advance_74b, e_Text_advance_77, e_Text_advance_78, e_Text_advance_79, e_Text_advance_82, e_Text_advance_84, e_Text_advance_85, e_Text_advance_86, e_Text_advance_89, e_Text_advance_90, e_Text_advance_93, e_Text_advance_94, e_Text_advance_95, e_Text_advance_97, e_Text_advance_98, e_Text_advance_101, e_Text_advance_102, e_Text_advance_103, e_Text_advance_106, e_Text_advance_107, e_Text_advance_108, e_Text_advance_111, e_Text_advance_115, e_Text_advance_118, e_Text_advance_119, e_Text_advance_122, e_Text_advance_125, e_Text_advance_126, e_Text_advance_127, e_Text_advance_130, e_Text_advance_130b, e_Text_advance_133, e_Text_advance_134, e_Text_advance_137, e_Text_advance_138, e_Text_advance_141, e_Text_advance_144, e_Text_advance_145, e_Text_advance_148, e_Text_advance_149, e_Text_advance_152, e_Text_advance_155, e_Text_advance_156, e_Text_advance_157, e_Text_advance_160, e_Text_advance_161, e_Text_advance_164, e_Text_advance_165, e_Text_advance_168, e_Text_advance_168b, e_Text_advance_171, e_Text_advance_172, e_Text_advance_175, e_Text_advance_176, e_Text_advance_179, e_Text_advance_180, e_Text_advance_183, e_Text_advance_184, e_Text_advance_187, e_Text_advance_188, e_Text_advance_189, e_Text_advance_192, e_Text_advance_193, e_Text_advance_194, e_Text_advance_197, e_Text_advance_200, e_Text_advance_201, e_Text_advance_202, e_Text_advance_205, alk_in, ask_in, blk_in, bsk_in, qlk_in, ack_in, rcv_in, rcA_in, bk_i, bk_l, bk_v, hS_same, hS_ne, hS_hS, hS_2, am_10, am_01, am_00, if_true, if_false, gf_8_0, pf_8_0, gf_8_1, pf_8_1, gf_8_2, pf_8_2, gf_8_3, pf_8_3, gf_8_4, pf_8_4, gf_8_5, pf_8_5, gf_8_6, pf_8_6, gf_8_7, pf_8_7, gf_8_8, pf_8_8, gf_8_9, pf_8_9, gf_8_10, pf_8_10, O]
    rw [if_neg (by omega)]
  | succ d ih =>
    intro p a h hp O G
    have r := hf p (by omega)
    have e := hg p (by omega)
    have c1 := c_tdig (h := h) (x := f p) (by unfold rg32; omega)
    unfold dgE dgV
    by_cases q : 48 ≤ f p ∧ f p ≤ 57
    · rw [if_pos q, if_pos q]
      rw [if_pos q] at c1
      have f1 : Fr 2 3 h (hS h 2 (cO 8 [vI (L : Int), vR 3, vR 4, x3, x4, x5, vI ((p : Int) + 1), x7, x8, x9, vI (a * 10 + f p - 48)])) := Fr.st (by omega)
      obtain ⟨h2, e2, O2, f2⟩ := ih (p + 1) (a * 10 + f p - 48) _ (by omega) (hS_same (h := h) (a := 2) (c := cO 8 [vI (L : Int), vR 3, vR 4, x3, x4, x5, vI ((p : Int) + 1), x7, x8, x9, vI (a * 10 + f p - 48)])) ((f1.at (by omega)).trans G)
      refine ⟨h2, ?_, O2, f1.tr f2⟩
      rw [e_Text_advance_51, ← e2]
      simp (disch := omega) only [e_Text_advance_0, e_Text_advance_1, e_Text_advance_4, e_Text_advance_5, e_Text_advance_8, e_Text_advance_11, e_Text_advance_12, e_Text_advance_15, e_Text_advance_16, e_Text_advance_19, e_Text_advance_20, e_Text_advance_22, e_Text_advance_25, e_Text_advance_26, e_Text_advance_27, e_Text_advance_30, e_Text_advance_31, e_Text_advance_32, e_Text_advance_35, e_Text_advance_38, e_Text_advance_39, e_Text_advance_40, e_Text_advance_43, e_Text_advance_46, e_Text_advance_47, e_Text_advance_48, e_Text_advance_52, e_Text_advance_55, e_Text_advance_56, e_Text_advance_59, e_Text_advance_62, e_Text_advance_63, e_Text_advance_66, e_Text_advance_67, e_Text_advance_70, e_Text_advance_71, e_Text_advance_74, e_Text_advance_74b, e_Text_advance_77, e_Text_advance_78, e_Text_advance_79, e_Text_advance_82, e_Text_advance_84, e_Text_advance_85, e_Text_advance_86, e_Text_advance_89, e_Text_advance_90, e_Text_advance_93, e_Text_advance_94, e_Text_advance_95, e_Text_advance_97, e_Text_advance_98, e_Text_advance_101, e_Text_advance_102, e_Text_advance_103, e_Text_advance_106, e_Text_advance_107, e_Text_advance_108, e_Text_advance_111, e_Text_advance_115, e_Text_advance_118, e_Text_advance_119, e_Text_advance_122, e_Text_advance_125, e_Text_advance_126, e_Text_advance_127, e_Text_advance_130, e_Text_advance_130b, e_Text_advance_133, e_Text_advance_134, e_Text_advance_137, e_Text_advance_138, e_Text_advance_141, e_Text_advance_144, e_Text_advance_145, e_Text_advance_148, e_Text_advance_149, e_Text_advance_152, e_Text_advance_155, e_Text_advance_156, e_Text_advance_157, e_Text_advance_160, e_Text_advance_161, e_Text_advance_164, e_Text_advance_165, e_Text_advance_168, e_Text_advance_168b, e_Text_advance_171, e_Text_advance_172, e_Text_advance_175, e_Text_advance_176, e_Text_advance_179, e_Text_advance_180, e_Text_advance_183, e_Text_advance_184, e_Text_advance_187, e_Text_advance_188, e_Text_advance_189, e_Text_advance_192, e_Text_advance_193, e_Text_advance_194, e_Text_advance_197, e_Text_advance_200, e_Text_advance_201, e_Text_advance_202, e_Text_advance_205, alk_in, ask_in, blk_in, bsk_in, qlk_in, ack_in, rcv_in, rcA_in, bk_i, bk_l, bk_v, hS_same, hS_ne, hS_hS, hS_2, am_10, am_01, am_00, if_true, if_false, gf_8_0, pf_8_0, gf_8_1, pf_8_1, gf_8_2, pf_8_2, gf_8_3, pf_8_3, gf_8_4, pf_8_4, gf_8_5, pf_8_5, gf_8_6, pf_8_6, gf_8_7, pf_8_7, gf_8_8, pf_8_8, gf_8_9, pf_8_9, gf_8_10, pf_8_10, O, G, Int.toNat_natCast, e, c1]
      rw [if_pos (by omega)]
    · rw [if_neg q, if_neg q]
      rw [if_neg q] at c1
      refine ⟨h, ?_, O, Fr.rf⟩
      rw [e_Text_advance_51]
      simp (disch := omega) only [e_Text_advance_0, e_Text_advance_1, e_Text_advance_4, e_Text_advance_5, e_Text_advance_8, e_Text_advance_11, e_Text_advance_12, e_Text_advance_15, e_Text_advance_16, e_Text_advance_19, e_Text_advance_20, e_Text_advance_22, e_Text_advance_25, e_Text_advance_26, e_Text_advance_27, e_Text_advance_30, e_Text_advance_31, e_Text_advance_32, e_Text_advance_35, e_Text_advance_38, e_Text_advance_39, e_Text_advance_40, e_Text_advance_43, e_Text_advance_46, e_Text_advance_47, e_Text_advance_48, e_Text_advance_52, e_Text_advance_55, e_Text_advance_56, e_Text_advance_59, e_Text_advance_62, e_Text_advance_63, e_Text_advance_66, e_Text_advance_67, e_Text_advance_70, e_Text_advance_71, e_Text_advance_74, e_Text_advance_74b, e_Text_advance_77, e_Text_advance_78, e_Text_advance_79, e_Text_advance_82, e_Text_advance_84, e_Text_advance_85, e_Text_advance_86, e_Text_advance_89, e_Text_advance_90, e_Text_advance_93, e_Text_advance_94, e_Text_advance_95, e_Text_advance_97, e_Text_advance_98, e_Text_advance_101, e_Text_advance_102, e_Text_advance_103, e_Text_advance_106, e_Text_advance_107, e_Text_advance_108, e_Text_advance_111, e_Text_advance_115, e_Text_advance_118, e_Text_advance_119, e_Text_advance_122, e_Text_advance_125, e_Text_advance_126, e_Text_advance_127, e_Text_advance_130, e_Text_advance_130b, e_Text_advance_133, e_Text_advance_134, e_Text_advance_137, e_Text_advance_138, e_Text_advance_141, e_Text_advance_144, e_Text_advance_145, e_Text_advance_148, e_Text_advance_149, e_Text_advance_152, e_Text_advance_155, e_Text_advance_156, e_Text_advance_157, e_Text_advance_160, e_Text_advance_161, e_Text_advance_164, e_Text_advance_165, e_Text_advance_168, e_Text_advance_168b, e_Text_advance_171, e_Text_advance_172, e_Text_advance_175, e_Text_advance_176, e_Text_advance_179, e_Text_advance_180, e_Text_advance_183, e_Text_advance_184, e_Text_advance_187, e_Text_advance_188, e_Text_advance_189, e_Text_advance_192, e_Text_advance_193, e_Text_advance_194, e_Text_advance_197, e_Text_advance_200, e_Text_advance_201, e_Text_advance_202, e_Text_advance_205, alk_in, ask_in, blk_in, bsk_in, qlk_in, ack_in, rcv_in, rcA_in, bk_i, bk_l, bk_v, hS_same, hS_ne, hS_hS, hS_2, am_10, am_01, am_00, if_true, if_false, gf_8_0, pf_8_0, gf_8_1, pf_8_1, gf_8_2, pf_8_2, gf_8_3, pf_8_3, gf_8_4, pf_8_4, gf_8_5, pf_8_5, gf_8_6, pf_8_6, gf_8_7, pf_8_7, gf_8_8, pf_8_8, gf_8_9, pf_8_9, gf_8_10, pf_8_10, O, G, Int.toNat_natCast, e, c1]
      rw [if_pos (by omega)]
theorem c_plain {h : am_H} {e q : Nat} {x8 x10 : am_V} (hL : L ≤ 120) (hg : EqB L g f) (hf : ∀ j, j < L → 0 ≤ f j ∧ f j ≤ 255) (hq : q < e ∧ e ≤ L) (O : h.1 2 = cO 8 [vI (L : Int), vR 3, vR 4, x3, x4, x5, vI (e : Int), x7, x8, vI (q : Int), x10]) (G : h.1 3 = cI 0 120 g) : ev mText_isPlainNumber [vR 2] h = some (some (vI (if e - q = 1 ∨ e - q = 2 ∧ ¬ f q = 48 then 1 else 0)), h) := by
  have r := hf q (by omega)
  have eg := hg q (by omega)
  rw [ev_Text_isPlainNumber]
  simp (disch := omega) only [e_Text_isPlainNumber_0, e_Text_isPlainNumber_1, e_Text_isPlainNumber_4, e_Text_isPlainNumber_5, e_Text_isPlainNumber_8, e_Text_isPlainNumber_9, e_Text_isPlainNumber_10, e_Text_isPlainNumber_11, e_Text_isPlainNumber_12, e_Text_isPlainNumber_15, e_Text_isPlainNumber_16, e_Text_isPlainNumber_17, e_Text_isPlainNumber_20, e_Text_isPlainNumber_21, e_Text_isPlainNumber_24, e_Text_isPlainNumber_25, e_Text_isPlainNumber_28, e_Text_isPlainNumber_29, e_Text_isPlainNumber_31, e_Text_isPlainNumber_34, e_Text_isPlainNumber_35, e_Text_isPlainNumber_38, e_Text_isPlainNumber_39, alk_in, ask_in, blk_in, bsk_in, qlk_in, ack_in, rcv_in, rcA_in, bk_i, bk_l, bk_v, hS_same, hS_ne, hS_hS, hS_2, am_10, am_01, am_00, if_true, if_false, gf_8_0, pf_8_0, gf_8_1, pf_8_1, gf_8_2, pf_8_2, gf_8_3, pf_8_3, gf_8_4, pf_8_4, gf_8_5, pf_8_5, gf_8_6, pf_8_6, gf_8_7, pf_8_7, gf_8_8, pf_8_8, gf_8_9, pf_8_9, gf_8_10, pf_8_10, O, G, Int.toNat_natCast, eg]
  by_cases h1 : e - q = 1
  · rw [if_pos (by omega), if_pos (Or.inl h1)]
  · rw [if_neg (by omega)]
    by_cases h2 : e - q = 2
    · rw [if_pos (by omega)]
      by_cases h3 : f q = 48
      · rw [if_pos h3, if_neg (by omega)]
      · rw [if_neg h3, if_pos (Or.inr ⟨h2, h3⟩)]
    · rw [if_neg (by omega), if_neg (by omega)]
theorem k_advance {h : am_H} {p : Nat} {x8 x9 x10 : am_V} (hL : L ≤ 120) (hg : EqB L g f) (hf : ∀ j, j < L → 0 ≤ f j ∧ f j ≤ 255) (hp : p ≤ L) (O : h.1 2 = cO 8 [vI (L : Int), vR 3, vR 4, x3, x4, x5, vI (p : Int), x7, x8, x9, x10]) (G : h.1 3 = cI 0 120 g) : ∃ h', ev mText_advance [vR 2] h = some (none, h') ∧ h'.1 2 = cO 8 [vI (L : Int), vR 3, vR 4, x3, x4, x5, vI (tkE L f p : Int), x7, vI (tkC L f p), vI (tkS L f p : Int), vI (tkN L f p)] ∧ Fr 2 3 h h' := by
  have bS := tkS_b f hp
  have bX := tkX_b f hp
  obtain ⟨h1, e1, O1, f1⟩ := la_sk hL hg hf (L - p) p h (by omega) O G
  have O1' : h1.1 2 = cO 8 [vI (L : Int), vR 3, vR 4, x3, x4, x5, vI (tkS L f p : Int), x7, x8, x9, x10] := O1
  have f2 : Fr 2 3 h1 (hS h1 2 (cO 8 [vI (L : Int), vR 3, vR 4, x3, x4, x5, vI (tkS L f p : Int), x7, x8, vI (tkS L f p : Int), vI 0])) := Fr.st (by omega)
  obtain ⟨h3, e3, O3, f3⟩ := la_dg hL hg hf (L - tkS L f p) (tkS L f p) 0 _ (by omega) (hS_same (h := h1) (a := 2) (c := cO 8 [vI (L : Int), vR 3, vR 4, x3, x4, x5, vI (tkS L f p : Int), x7, x8, vI (tkS L f p : Int), vI 0])) ((f2.at (by omega)).trans ((f1.at (by omega)).trans G))
  have O3' : h3.1 2 = cO 8 [vI (L : Int), vR 3, vR 4, x3, x4, x5, vI (tkX L f p : Int), x7, x8, vI (tkS L f p : Int), vI (tkN L f p)] := O3
  have G3 : h3.1 3 = cI 0 120 g := (f3.at (by omega)).trans ((f2.at (by omega)).trans ((f1.at (by omega)).trans G))
  have st : ev mText_advance [vR 2] h = gv mText_advance 114 [vR 2] [] h3 := by
    rw [ev_Text_advance]
    refine Eq.trans e1 ?_
    simp (disch := omega) only [e_Text_advance_38, e_Text_advance_39, e_Text_advance_40, e_Text_advance_43, e_Text_advance_46, e_Text_advance_47, e_Text_advance_48, alk_in, ask_in, blk_in, bsk_in, qlk_in, ack_in, rcv_in, rcA_in, bk_i, bk_l, bk_v, hS_same, hS_ne, hS_hS, hS_2, am_10, am_01, am_00, if_true, if_false, gf_8_0, pf_8_0, gf_8_1, pf_8_1, gf_8_2, pf_8_2, gf_8_3, pf_8_3, gf_8_4, pf_8_4, gf_8_5, pf_8_5, gf_8_6, pf_8_6, gf_8_7, pf_8_7, gf_8_8, pf_8_8, gf_8_9, pf_8_9, gf_8_10, pf_8_10, O1']
    exact e3
  rw [st]
  have ff := (f1.tr f2).tr f3
  unfold tkE tkC
  by_cases q : tkS L f p < tkX L f p
  · rw [if_pos q, if_pos q]
    have c1 := c_plain hL hg hf ⟨q, bX.2⟩ O3' G3
    by_cases r : tkX L f p - tkS L f p = 1 ∨ tkX L f p - tkS L f p = 2 ∧ ¬ f (tkS L f p) = 48
    · rw [if_pos r] at c1 ⊢
      refine ⟨_, by
        simp (disch := omega) only [e_Text_advance_114, e_Text_advance_115, e_Text_advance_118, e_Text_advance_119, e_Text_advance_122, e_Text_advance_125, e_Text_advance_126, e_Text_advance_127, e_Text_advance_130, e_Text_advance_130b, e_Text_advance_133, e_Text_advance_134, e_Text_advance_137, e_Text_advance_138, e_Text_advance_141, e_Text_advance_144, e_Text_advance_145, e_Text_advance_148, e_Text_advance_149, e_Text_advance_152, e_Text_advance_155, e_Text_advance_156, e_Text_advance_157, e_Text_advance_160, e_Text_advance_161, e_Text_advance_164, e_Text_advance_165, e_Text_advance_168, e_Text_advance_168b, e_Text_advance_171, e_Text_advance_172, e_Text_advance_175, e_Text_advance_176, e_Text_advance_179, e_Text_advance_180, e_Text_advance_183, e_Text_advance_184, e_Text_advance_187, e_Text_advance_188, e_Text_advance_189, e_Text_advance_192, e_Text_advance_193, e_Text_advance_194, e_Text_advance_197, e_Text_advance_200, e_Text_advance_201, e_Text_advance_202, e_Text_advance_205, alk_in, ask_in, blk_in, bsk_in, qlk_in, ack_in, rcv_in, rcA_in, bk_i, bk_l, bk_v, hS_same, hS_ne, hS_hS, hS_2, am_10, am_01, am_00, if_true, if_false, gf_8_0, pf_8_0, gf_8_1, pf_8_1, gf_8_2, pf_8_2, gf_8_3, pf_8_3, gf_8_4, pf_8_4, gf_8_5, pf_8_5, gf_8_6, pf_8_6, gf_8_7, pf_8_7, gf_8_8, pf_8_8, gf_8_9, pf_8_9, gf_8_10, pf_8_10, O3', c1]
        rw [if_pos (by omega)], hS_same, ff.tr (Fr.st (by omega))⟩
    · rw [if_neg r] at c1 ⊢
      refine ⟨_, by
        simp (disch := omega) only [e_Text_advance_114, e_Text_advance_115, e_Text_advance_118, e_Text_advance_119, e_Text_advance_122, e_Text_advance_125, e_Text_advance_126, e_Text_advance_127, e_Text_advance_130, e_Text_advance_130b, e_Text_advance_133, e_Text_advance_134, e_Text_advance_137, e_Text_advance_138, e_Text_advance_141, e_Text_advance_144, e_Text_advance_145, e_Text_advance_148, e_Text_advance_149, e_Text_advance_152, e_Text_advance_155, e_Text_advance_156, e_Text_advance_157, e_Text_advance_160, e_Text_advance_161, e_Text_advance_164, e_Text_advance_165, e_Text_advance_168, e_Text_advance_168b, e_Text_advance_171, e_Text_advance_172, e_Text_advance_175, e_Text_advance_176, e_Text_advance_179, e_Text_advance_180, e_Text_advance_183, e_Text_advance_184, e_Text_advance_187, e_Text_advance_188, e_Text_advance_189, e_Text_advance_192, e_Text_advance_193, e_Text_advance_194, e_Text_advance_197, e_Text_advance_200, e_Text_advance_201, e_Text_advance_202, e_Text_advance_205, alk_in, ask_in, blk_in, bsk_in, qlk_in, ack_in, rcv_in, rcA_in, bk_i, bk_l, bk_v, hS_same, hS_ne, hS_hS, hS_2, am_10, am_01, am_00, if_true, if_false, gf_8_0, pf_8_0, gf_8_1, pf_8_1, gf_8_2, pf_8_2, gf_8_3, pf_8_3, gf_8_4, pf_8_4, gf_8_5, pf_8_5, gf_8_6, pf_8_6, gf_8_7, pf_8_7, gf_8_8, pf_8_8, gf_8_9, pf_8_9, gf_8_10, pf_8_10, O3', c1]
        rw [if_pos (by omega)], hS_same, ff.tr (Fr.st (by omega))⟩
  · rw [if_neg q, if_neg q]
    have eX : tkX L f p = tkS L f p := by omega
    rw [eX] at O3'
    by_cases r : tkS L f p < L
    · rw [if_pos r, if_pos r]
      have fr := hf _ r
      have eg := hg _ r
      have c1 := c_known (h := h3) (x := f (tkS L f p)) (by unfold rg32; omega)
      by_cases s : f (tkS L f p) = 110 ∨ f (tkS L f p) = 109 ∨ f (tkS L f p) = 108 ∨ f (tkS L f p) = 59
      · rw [if_pos s] at c1 ⊢
        refine ⟨hS h3 2 (cO 8 [vI (L : Int), vR 3, vR 4, x3, x4, x5, vI ((tkS L f p : Int) + 1), x7, vI (f (tkS L f p)), vI (tkS L f p : Int), vI (tkN L f p)]), ?_, hS_same, ff.tr (Fr.st (by omega))⟩
        simp (disch := omega) only [e_Text_advance_114, e_Text_advance_115, e_Text_advance_118, e_Text_advance_119, e_Text_advance_122, e_Text_advance_125, e_Text_advance_126, e_Text_advance_127, e_Text_advance_130, e_Text_advance_130b, e_Text_advance_133, e_Text_advance_134, e_Text_advance_137, e_Text_advance_138, e_Text_advance_141, e_Text_advance_144, e_Text_advance_145, e_Text_advance_148, e_Text_advance_149, e_Text_advance_152, e_Text_advance_155, e_Text_advance_156, e_Text_advance_157, e_Text_advance_160, e_Text_advance_161, e_Text_advance_164, e_Text_advance_165, e_Text_advance_168, e_Text_advance_168b, e_Text_advance_171, e_Text_advance_172, e_Text_advance_175, e_Text_advance_176, e_Text_advance_179, e_Text_advance_180, e_Text_advance_183, e_Text_advance_184, e_Text_advance_187, e_Text_advance_188, e_Text_advance_189, e_Text_advance_192, e_Text_advance_193, e_Text_advance_194, e_Text_advance_197, e_Text_advance_200, e_Text_advance_201, e_Text_advance_202, e_Text_advance_205, alk_in, ask_in, blk_in, bsk_in, qlk_in, ack_in, rcv_in, rcA_in, bk_i, bk_l, bk_v, hS_same, hS_ne, hS_hS, hS_2, am_10, am_01, am_00, if_true, if_false, gf_8_0, pf_8_0, gf_8_1, pf_8_1, gf_8_2, pf_8_2, gf_8_3, pf_8_3, gf_8_4, pf_8_4, gf_8_5, pf_8_5, gf_8_6, pf_8_6, gf_8_7, pf_8_7, gf_8_8, pf_8_8, gf_8_9, pf_8_9, gf_8_10, pf_8_10, O3', G3, Int.toNat_natCast, eg, c1]
        rw [if_neg (by omega), if_pos (by omega)]
      · rw [if_neg s] at c1 ⊢
        refine ⟨hS h3 2 (cO 8 [vI (L : Int), vR 3, vR 4, x3, x4, x5, vI ((tkS L f p : Int) + 1), x7, vI 2, vI (tkS L f p : Int), vI (tkN L f p)]), ?_, hS_same, ff.tr (Fr.st (by omega))⟩
        simp (disch := omega) only [e_Text_advance_114, e_Text_advance_115, e_Text_advance_118, e_Text_advance_119, e_Text_advance_122, e_Text_advance_125, e_Text_advance_126, e_Text_advance_127, e_Text_advance_130, e_Text_advance_130b, e_Text_advance_133, e_Text_advance_134, e_Text_advance_137, e_Text_advance_138, e_Text_advance_141, e_Text_advance_144, e_Text_advance_145, e_Text_advance_148, e_Text_advance_149, e_Text_advance_152, e_Text_advance_155, e_Text_advance_156, e_Text_advance_157, e_Text_advance_160, e_Text_advance_161, e_Text_advance_164, e_Text_advance_165, e_Text_advance_168, e_Text_advance_168b, e_Text_advance_171, e_Text_advance_172, e_Text_advance_175, e_Text_advance_176, e_Text_advance_179, e_Text_advance_180, e_Text_advance_183, e_Text_advance_184, e_Text_advance_187, e_Text_advance_188, e_Text_advance_189, e_Text_advance_192, e_Text_advance_193, e_Text_advance_194, e_Text_advance_197, e_Text_advance_200, e_Text_advance_201, e_Text_advance_202, e_Text_advance_205, alk_in, ask_in, blk_in, bsk_in, qlk_in, ack_in, rcv_in, rcA_in, bk_i, bk_l, bk_v, hS_same, hS_ne, hS_hS, hS_2, am_10, am_01, am_00, if_true, if_false, gf_8_0, pf_8_0, gf_8_1, pf_8_1, gf_8_2, pf_8_2, gf_8_3, pf_8_3, gf_8_4, pf_8_4, gf_8_5, pf_8_5, gf_8_6, pf_8_6, gf_8_7, pf_8_7, gf_8_8, pf_8_8, gf_8_9, pf_8_9, gf_8_10, pf_8_10, O3', G3, Int.toNat_natCast, eg, c1]
        rw [if_neg (by omega), if_pos (by omega)]
    · rw [if_neg r, if_neg r]
      refine ⟨hS h3 2 (cO 8 [vI (L : Int), vR 3, vR 4, x3, x4, x5, vI (tkS L f p : Int), x7, vI 0, vI (tkS L f p : Int), vI (tkN L f p)]), ?_, hS_same, ff.tr (Fr.st (by omega))⟩
      simp (disch := omega) only [e_Text_advance_114, e_Text_advance_115, e_Text_advance_118, e_Text_advance_119, e_Text_advance_122, e_Text_advance_125, e_Text_advance_126, e_Text_advance_127, e_Text_advance_130, e_Text_advance_130b, e_Text_advance_133, e_Text_advance_134, e_Text_advance_137, e_Text_advance_138, e_Text_advance_141, e_Text_advance_144, e_Text_advance_145, e_Text_advance_148, e_Text_advance_149, e_Text_advance_152, e_Text_advance_155, e_Text_advance_156, e_Text_advance_157, e_Text_advance_160, e_Text_advance_161, e_Text_advance_164, e_Text_advance_165, e_Text_advance_168, e_Text_advance_168b, e_Text_advance_171, e_Text_advance_172, e_Text_advance_175, e_Text_advance_176, e_Text_advance_179, e_Text_advance_180, e_Text_advance_183, e_Text_advance_184, e_Text_advance_187, e_Text_advance_188, e_Text_advance_189, e_Text_advance_192, e_Text_advance_193, e_Text_advance_194, e_Text_advance_197, e_Text_advance_200, e_Text_advance_201, e_Text_advance_202, e_Text_advance_205, alk_in, ask_in, blk_in, bsk_in, qlk_in, ack_in, rcv_in, rcA_in, bk_i, bk_l, bk_v, hS_same, hS_ne, hS_hS, hS_2, am_10, am_01, am_00, if_true, if_false, gf_8_0, pf_8_0, gf_8_1, pf_8_1, gf_8_2, pf_8_2, gf_8_3, pf_8_3, gf_8_4, pf_8_4, gf_8_5, pf_8_5, gf_8_6, pf_8_6, gf_8_7, pf_8_7, gf_8_8, pf_8_8, gf_8_9, pf_8_9, gf_8_10, pf_8_10, O3']
      rw [if_neg (by omega), if_neg (by omega)]
end Adv
