/-! how all should lie: the class gathers -/
section LieC
variable {n c : Nat} {ce so ha ye : Nat → Int} {ly is : am_V}
theorem lg_men (hW : Wf n c ce so ha ye) {A : Nat → Int} {t : Int} {l2 l3 : am_V} : ∀ (d k : Nat) (h : am_H), k + d = n → LiO h ly is (gm ce A k).1 → h.1 35 = cI 0 6 (gm ce A k).2 → RepS h 29 n c t ce so ha ye → ∃ h', gv mLie_gather 7 [vR 28, vI (k : Int), l2, l3] [] h = gv mLie_gather 55 [vR 28, vI (n : Int), l2, l3] [] h' ∧ LiO h' ly is (gm ce A n).1 ∧ h'.1 35 = cI 0 6 (gm ce A n).2 ∧ FP (fun x => x = 28 ∨ x = 35) h h' := by
  have hn := hW.1
  intro d
  induction d with
  | zero =>
    intro k h hk O A1 S
    have : k = n := by omega
    subst this
    refine ⟨h, ?_, O, A1, FP.rf⟩
    unfold LiO at O
    obtain ⟨ce', so', ha', ye', ic, ⟨s0, s1, s2, s3, s4, s5⟩, r1, r2⟩ := S
    rw [e_Lie_gather_7]
    simp (disch := omega) only [e_Lie_gather_0, e_Lie_gather_1, e_Lie_gather_2, e_Lie_gather_5, e_Lie_gather_6, e_Lie_gather_8, e_Lie_gather_9, e_Lie_gather_12, e_Lie_gather_15, e_Lie_gather_18, e_Lie_gather_19, e_Lie_gather_22, e_Lie_gather_23, e_Lie_gather_26, e_Lie_gather_26b, e_Lie_gather_29, e_Lie_gather_30, e_Lie_gather_33, e_Lie_gather_34, e_Lie_gather_37, e_Lie_gather_38, e_Lie_gather_39, e_Lie_gather_40, e_Lie_gather_41, e_Lie_gather_44, e_Lie_gather_45, e_Lie_gather_46, e_Lie_gather_49, e_Lie_gather_52, e_Lie_gather_56, e_Lie_gather_57, e_Lie_gather_58, e_Lie_gather_59, e_Lie_gather_60, e_Lie_gather_62, e_Lie_gather_65, e_Lie_gather_66, e_Lie_gather_69, e_Lie_gather_70, e_Lie_gather_72, e_Lie_gather_73, e_Lie_gather_74, e_Lie_gather_77, e_Lie_gather_78, e_Lie_gather_81, e_Lie_gather_83, e_Lie_gather_86, e_Lie_gather_87, e_Lie_gather_88, e_Lie_gather_91, e_Lie_gather_94, e_Lie_gather_95, e_Lie_gather_98, e_Lie_gather_99, e_Lie_gather_100, e_Lie_gather_101, e_Lie_gather_104, e_Lie_gather_107, e_Lie_gather_110, e_Lie_gather_111, e_Lie_gather_112, e_Lie_gather_113, e_Lie_gather_114, e_Lie_gather_117, e_Lie_gather_120, e_Lie_gather_121, e_Lie_gather_122, e_Lie_gather_123, e_Lie_gather_124, e_Lie_gather_127, e_Lie_gather_130, e_Lie_gather_131, e_Lie_gather_134, e_Lie_gather_135, e_Lie_gather_137, e_Lie_gather_138, e_Lie_gather_139, e_Lie_gather_140, e_Lie_gather_141, e_Lie_gather_144, e_Lie_gather_147, e_Lie_gather_148, e_Lie_gather_151, e_Lie_gather_152, e_Lie_gather_153, e_Lie_gather_154, e_Lie_gather_155, e_Lie_gather_158, e_Lie_gather_161, e_Lie_gather_162, e_Lie_gather_165, e_Lie_gather_166, e_Lie_gather_167, e_Lie_gather_168, e_Lie_gather_171, e_Lie_gather_172, e_Lie_gather_175, e_Lie_gather_178, e_Lie_gather_181, e_Lie_gather_184, alk_in, ask_in, blk_in, bsk_in, qlk_in, ack_in, rcv_in, rcA_in, bk_i, bk_l, bk_v, hS_same, hS_ne, hS_hS, hS_2, am_10, am_01, am_00, if_true, if_false, gf_2_0, pf_2_0, gf_2_1, pf_2_1, gf_2_2, pf_2_2, gf_2_3, pf_2_3, gf_2_4, pf_2_4, gf_2_5, pf_2_5, gf_2_6, pf_2_6, gf_2_7, pf_2_7, gf_2_8, pf_2_8, gf_5_0, pf_5_0, gf_5_1, pf_5_1, gf_5_2, pf_5_2, gf_5_3, pf_5_3, gf_5_4, pf_5_4, gf_5_5, pf_5_5, gf_5_6, pf_5_6, gf_5_7, pf_5_7, O, s0]
    rw [if_neg (by omega)]
  | succ d ih =>
    intro k h hk O A1 S
    have c1 := d_isIn S hW (show k < n by omega)
    have gl := gm_le ce A k
    by_cases q : ce k = -9
    · have e : gm ce A (k + 1) = gm ce A k := by
        show (if ce k = -9 then gm ce A k else _) = _
        rw [if_pos q]
      obtain ⟨h2, e2, O2, A2, f2⟩ := ih (k + 1) h (by omega) (by rw [e]; exact O) (by rw [e]; exact A1) S
      refine ⟨h2, ?_, O2, A2, f2⟩
      unfold LiO at O
      obtain ⟨ce', so', ha', ye', ic, ⟨s0, s1, s2, s3, s4, s5⟩, r1, r2⟩ := S
      rw [if_pos q] at c1
      rw [e_Lie_gather_7, ← e2]
      simp (disch := omega) only [e_Lie_gather_0, e_Lie_gather_1, e_Lie_gather_2, e_Lie_gather_5, e_Lie_gather_6, e_Lie_gather_8, e_Lie_gather_9, e_Lie_gather_12, e_Lie_gather_15, e_Lie_gather_18, e_Lie_gather_19, e_Lie_gather_22, e_Lie_gather_23, e_Lie_gather_26, e_Lie_gather_26b, e_Lie_gather_29, e_Lie_gather_30, e_Lie_gather_33, e_Lie_gather_34, e_Lie_gather_37, e_Lie_gather_38, e_Lie_gather_39, e_Lie_gather_40, e_Lie_gather_41, e_Lie_gather_44, e_Lie_gather_45, e_Lie_gather_46, e_Lie_gather_49, e_Lie_gather_52, e_Lie_gather_56, e_Lie_gather_57, e_Lie_gather_58, e_Lie_gather_59, e_Lie_gather_60, e_Lie_gather_62, e_Lie_gather_65, e_Lie_gather_66, e_Lie_gather_69, e_Lie_gather_70, e_Lie_gather_72, e_Lie_gather_73, e_Lie_gather_74, e_Lie_gather_77, e_Lie_gather_78, e_Lie_gather_81, e_Lie_gather_83, e_Lie_gather_86, e_Lie_gather_87, e_Lie_gather_88, e_Lie_gather_91, e_Lie_gather_94, e_Lie_gather_95, e_Lie_gather_98, e_Lie_gather_99, e_Lie_gather_100, e_Lie_gather_101, e_Lie_gather_104, e_Lie_gather_107, e_Lie_gather_110, e_Lie_gather_111, e_Lie_gather_112, e_Lie_gather_113, e_Lie_gather_114, e_Lie_gather_117, e_Lie_gather_120, e_Lie_gather_121, e_Lie_gather_122, e_Lie_gather_123, e_Lie_gather_124, e_Lie_gather_127, e_Lie_gather_130, e_Lie_gather_131, e_Lie_gather_134, e_Lie_gather_135, e_Lie_gather_137, e_Lie_gather_138, e_Lie_gather_139, e_Lie_gather_140, e_Lie_gather_141, e_Lie_gather_144, e_Lie_gather_147, e_Lie_gather_148, e_Lie_gather_151, e_Lie_gather_152, e_Lie_gather_153, e_Lie_gather_154, e_Lie_gather_155, e_Lie_gather_158, e_Lie_gather_161, e_Lie_gather_162, e_Lie_gather_165, e_Lie_gather_166, e_Lie_gather_167, e_Lie_gather_168, e_Lie_gather_171, e_Lie_gather_172, e_Lie_gather_175, e_Lie_gather_178, e_Lie_gather_181, e_Lie_gather_184, alk_in, ask_in, blk_in, bsk_in, qlk_in, ack_in, rcv_in, rcA_in, bk_i, bk_l, bk_v, hS_same, hS_ne, hS_hS, hS_2, am_10, am_01, am_00, if_true, if_false, gf_2_0, pf_2_0, gf_2_1, pf_2_1, gf_2_2, pf_2_2, gf_2_3, pf_2_3, gf_2_4, pf_2_4, gf_2_5, pf_2_5, gf_2_6, pf_2_6, gf_2_7, pf_2_7, gf_2_8, pf_2_8, gf_5_0, pf_5_0, gf_5_1, pf_5_1, gf_5_2, pf_5_2, gf_5_3, pf_5_3, gf_5_4, pf_5_4, gf_5_5, pf_5_5, gf_5_6, pf_5_6, gf_5_7, pf_5_7, O, s0, c1]
      rw [if_pos (by omega)]; rfl
    · have e : gm ce A (k + 1) = ((gm ce A k).1 + 1, fun j => if j = (gm ce A k).1 then (k : Int) else (gm ce A k).2 j) := by
        show (if ce k = -9 then gm ce A k else _) = _
        rw [if_neg q]
      have f1 : FP (fun x => x = 28 ∨ x = 35) h (hS (hS h 35 (cI 0 6 (fun j => if j = (gm ce A k).1 then (k : Int) else (gm ce A k).2 j))) 28 (cO 2 [ly, vR 29, is, vI (((gm ce A k).1 : Int) + 1), vR 35, vR 36, vR 37, vR 38, vR 39])) := (FP.st (Or.inr rfl)).tr (FP.st (Or.inl rfl))
      obtain ⟨h2, e2, O2, A2, f2⟩ := ih (k + 1) (hS (hS h 35 (cI 0 6 (fun j => if j = (gm ce A k).1 then (k : Int) else (gm ce A k).2 j))) 28 (cO 2 [ly, vR 29, is, vI (((gm ce A k).1 : Int) + 1), vR 35, vR 36, vR 37, vR 38, vR 39])) (by omega) (by rw [e]; exact hS_same) (by rw [e, hS_ne (by omega)]; exact hS_same) (RT.on (G := (n, c, 0, ha)) (T := (t, ce, so, ye)) S (fun x hx => f1.2 x (by omega)))
      refine ⟨h2, ?_, O2, A2, f1.tr f2⟩
      unfold LiO at O
      obtain ⟨ce', so', ha', ye', ic, ⟨s0, s1, s2, s3, s4, s5⟩, r1, r2⟩ := S
      rw [if_neg q] at c1
      rw [e_Lie_gather_7, ← e2]
      simp (disch := omega) only [e_Lie_gather_0, e_Lie_gather_1, e_Lie_gather_2, e_Lie_gather_5, e_Lie_gather_6, e_Lie_gather_8, e_Lie_gather_9, e_Lie_gather_12, e_Lie_gather_15, e_Lie_gather_18, e_Lie_gather_19, e_Lie_gather_22, e_Lie_gather_23, e_Lie_gather_26, e_Lie_gather_26b, e_Lie_gather_29, e_Lie_gather_30, e_Lie_gather_33, e_Lie_gather_34, e_Lie_gather_37, e_Lie_gather_38, e_Lie_gather_39, e_Lie_gather_40, e_Lie_gather_41, e_Lie_gather_44, e_Lie_gather_45, e_Lie_gather_46, e_Lie_gather_49, e_Lie_gather_52, e_Lie_gather_56, e_Lie_gather_57, e_Lie_gather_58, e_Lie_gather_59, e_Lie_gather_60, e_Lie_gather_62, e_Lie_gather_65, e_Lie_gather_66, e_Lie_gather_69, e_Lie_gather_70, e_Lie_gather_72, e_Lie_gather_73, e_Lie_gather_74, e_Lie_gather_77, e_Lie_gather_78, e_Lie_gather_81, e_Lie_gather_83, e_Lie_gather_86, e_Lie_gather_87, e_Lie_gather_88, e_Lie_gather_91, e_Lie_gather_94, e_Lie_gather_95, e_Lie_gather_98, e_Lie_gather_99, e_Lie_gather_100, e_Lie_gather_101, e_Lie_gather_104, e_Lie_gather_107, e_Lie_gather_110, e_Lie_gather_111, e_Lie_gather_112, e_Lie_gather_113, e_Lie_gather_114, e_Lie_gather_117, e_Lie_gather_120, e_Lie_gather_121, e_Lie_gather_122, e_Lie_gather_123, e_Lie_gather_124, e_Lie_gather_127, e_Lie_gather_130, e_Lie_gather_131, e_Lie_gather_134, e_Lie_gather_135, e_Lie_gather_137, e_Lie_gather_138, e_Lie_gather_139, e_Lie_gather_140, e_Lie_gather_141, e_Lie_gather_144, e_Lie_gather_147, e_Lie_gather_148, e_Lie_gather_151, e_Lie_gather_152, e_Lie_gather_153, e_Lie_gather_154, e_Lie_gather_155, e_Lie_gather_158, e_Lie_gather_161, e_Lie_gather_162, e_Lie_gather_165, e_Lie_gather_166, e_Lie_gather_167, e_Lie_gather_168, e_Lie_gather_171, e_Lie_gather_172, e_Lie_gather_175, e_Lie_gather_178, e_Lie_gather_181, e_Lie_gather_184, alk_in, ask_in, blk_in, bsk_in, qlk_in, ack_in, rcv_in, rcA_in, bk_i, bk_l, bk_v, hS_same, hS_ne, hS_hS, hS_2, am_10, am_01, am_00, if_true, if_false, gf_2_0, pf_2_0, gf_2_1, pf_2_1, gf_2_2, pf_2_2, gf_2_3, pf_2_3, gf_2_4, pf_2_4, gf_2_5, pf_2_5, gf_2_6, pf_2_6, gf_2_7, pf_2_7, gf_2_8, pf_2_8, gf_5_0, pf_5_0, gf_5_1, pf_5_1, gf_5_2, pf_5_2, gf_5_3, pf_5_3, gf_5_4, pf_5_4, gf_5_5, pf_5_5, gf_5_6, pf_5_6, gf_5_7, pf_5_7, O, A1, s0, c1, Int.toNat_natCast]
      rw [if_pos (by omega)]; rfl
theorem lg_cells (hW : Wf n c ce so ha ye) {A B : Nat → Int} {t : Int} {l3 : am_V} : ∀ (d x : Nat) (h : am_H) (I : Nat → Int), x + d = 9 → LiO h ly is (gm ce A n).1 → h.1 36 = cI 0 6 (gc n ce B x).2 → h.1 39 = cI 0 9 I → (∀ j, j < x → I j = -9) → RepS h 29 n c t ce so ha ye → ∃ h' I', gv mLie_gather 59 [vR 28, vI ((gc n ce B x).1 : Int), vI (x : Int), l3] [] h = gv mLie_gather 110 [vR 28, vI ((gc n ce B 9).1 : Int), vI 9, l3] [] h' ∧ h'.1 36 = cI 0 6 (gc n ce B 9).2 ∧ h'.1 39 = cI 0 9 I' ∧ (∀ j, j < 9 → I' j = -9) ∧ FP (fun x => x = 36 ∨ x = 39) h h' := by
  have hn := hW.1
  have hc := hW.2.2.1
  have w0 := way0 (A := A) (B := B) hW
  have gl := gm_le ce A n
  intro d
  induction d with
  | zero =>
    intro x h I hx O B1 I1 I2 S
    have : x = 9 := by omega
    subst this
    refine ⟨h, I, ?_, B1, I1, I2, FP.rf⟩
    rw [e_Lie_gather_59]
    simp (disch := omega) only [e_Lie_gather_0, e_Lie_gather_1, e_Lie_gather_2, e_Lie_gather_5, e_Lie_gather_6, e_Lie_gather_7, e_Lie_gather_8, e_Lie_gather_9, e_Lie_gather_12, e_Lie_gather_15, e_Lie_gather_18, e_Lie_gather_19, e_Lie_gather_22, e_Lie_gather_23, e_Lie_gather_26, e_Lie_gather_26b, e_Lie_gather_29, e_Lie_gather_30, e_Lie_gather_33, e_Lie_gather_34, e_Lie_gather_37, e_Lie_gather_38, e_Lie_gather_39, e_Lie_gather_40, e_Lie_gather_41, e_Lie_gather_44, e_Lie_gather_45, e_Lie_gather_46, e_Lie_gather_49, e_Lie_gather_52, e_Lie_gather_55, e_Lie_gather_56, e_Lie_gather_57, e_Lie_gather_58, e_Lie_gather_60, e_Lie_gather_62, e_Lie_gather_65, e_Lie_gather_66, e_Lie_gather_69, e_Lie_gather_70, e_Lie_gather_72, e_Lie_gather_73, e_Lie_gather_74, e_Lie_gather_77, e_Lie_gather_78, e_Lie_gather_81, e_Lie_gather_83, e_Lie_gather_86, e_Lie_gather_87, e_Lie_gather_88, e_Lie_gather_91, e_Lie_gather_94, e_Lie_gather_95, e_Lie_gather_98, e_Lie_gather_99, e_Lie_gather_100, e_Lie_gather_101, e_Lie_gather_104, e_Lie_gather_107, e_Lie_gather_111, e_Lie_gather_112, e_Lie_gather_113, e_Lie_gather_114, e_Lie_gather_117, e_Lie_gather_120, e_Lie_gather_121, e_Lie_gather_122, e_Lie_gather_123, e_Lie_gather_124, e_Lie_gather_127, e_Lie_gather_130, e_Lie_gather_131, e_Lie_gather_134, e_Lie_gather_135, e_Lie_gather_137, e_Lie_gather_138, e_Lie_gather_139, e_Lie_gather_140, e_Lie_gather_141, e_Lie_gather_144, e_Lie_gather_147, e_Lie_gather_148, e_Lie_gather_151, e_Lie_gather_152, e_Lie_gather_153, e_Lie_gather_154, e_Lie_gather_155, e_Lie_gather_158, e_Lie_gather_161, e_Lie_gather_162, e_Lie_gather_165, e_Lie_gather_166, e_Lie_gather_167, e_Lie_gather_168, e_Lie_gather_171, e_Lie_gather_172, e_Lie_gather_175, e_Lie_gather_178, e_Lie_gather_181, e_Lie_gather_184, alk_in, ask_in, blk_in, bsk_in, qlk_in, ack_in, rcv_in, rcA_in, bk_i, bk_l, bk_v, hS_same, hS_ne, hS_hS, hS_2, am_10, am_01, am_00, if_true, if_false]
    rw [if_neg (by omega)]; rfl
  | succ d ih =>
    intro x h I hx O B1 I1 I2 S
    have f1 : FP (fun x => x = 36 ∨ x = 39) h (hS h 39 (cI 0 9 (fun j => if j = x then -9 else I j))) := FP.st (Or.inr rfl)
    have O1 : LiO (hS h 39 (cI 0 9 (fun j => if j = x then -9 else I j))) ly is (gm ce A n).1 := f1.at O (by omega)
    have S1 : RepS (hS h 39 (cI 0 9 (fun j => if j = x then -9 else I j))) 29 n c t ce so ha ye := RT.on (G := (n, c, 0, ha)) (T := (t, ce, so, ye)) S (fun x hx => f1.2 x (by omega))
    have I3 : ∀ j, j < x + 1 → (fun j => if j = x then -9 else I j) j = -9 := fun j hj => by
      simp only
      by_cases r : j = x
      · rw [if_pos r]
      · rw [if_neg r]; exact I2 j (by omega)
    have c1 := d_whoIn S1 hW (x := (x : Int)) (by omega) (by omega)
    have wb := who_b n ce (x : Int)
    have gle := gc_le n ce B x
    by_cases q : who n ce (x : Int) = -9
    · have e : gc n ce B (x + 1) = gc n ce B x := by
        show (if who n ce (x : Int) = -9 then gc n ce B x else _) = _
        rw [if_pos q]
      obtain ⟨h2, I', e2, B2, I4, I5, f2⟩ := ih (x + 1) _ _ (by omega) O1 (by rw [e, hS_ne (by omega)]; exact B1) hS_same I3 S1
      refine ⟨h2, I', ?_, B2, I4, I5, f1.tr f2⟩
      unfold LiO at O
      obtain ⟨ce', so', ha', ye', ic, ⟨s0, s1, s2, s3, s4, s5⟩, r1, r2⟩ := S
      rw [q] at c1
      rw [e_Lie_gather_59, ← e2, e]
      simp (disch := omega) only [e_Lie_gather_0, e_Lie_gather_1, e_Lie_gather_2, e_Lie_gather_5, e_Lie_gather_6, e_Lie_gather_7, e_Lie_gather_8, e_Lie_gather_9, e_Lie_gather_12, e_Lie_gather_15, e_Lie_gather_18, e_Lie_gather_19, e_Lie_gather_22, e_Lie_gather_23, e_Lie_gather_26, e_Lie_gather_26b, e_Lie_gather_29, e_Lie_gather_30, e_Lie_gather_33, e_Lie_gather_34, e_Lie_gather_37, e_Lie_gather_38, e_Lie_gather_39, e_Lie_gather_40, e_Lie_gather_41, e_Lie_gather_44, e_Lie_gather_45, e_Lie_gather_46, e_Lie_gather_49, e_Lie_gather_52, e_Lie_gather_55, e_Lie_gather_56, e_Lie_gather_57, e_Lie_gather_58, e_Lie_gather_60, e_Lie_gather_62, e_Lie_gather_65, e_Lie_gather_66, e_Lie_gather_69, e_Lie_gather_70, e_Lie_gather_72, e_Lie_gather_73, e_Lie_gather_74, e_Lie_gather_77, e_Lie_gather_78, e_Lie_gather_81, e_Lie_gather_83, e_Lie_gather_86, e_Lie_gather_87, e_Lie_gather_88, e_Lie_gather_91, e_Lie_gather_94, e_Lie_gather_95, e_Lie_gather_98, e_Lie_gather_99, e_Lie_gather_100, e_Lie_gather_101, e_Lie_gather_104, e_Lie_gather_107, e_Lie_gather_111, e_Lie_gather_112, e_Lie_gather_113, e_Lie_gather_114, e_Lie_gather_117, e_Lie_gather_120, e_Lie_gather_121, e_Lie_gather_122, e_Lie_gather_123, e_Lie_gather_124, e_Lie_gather_127, e_Lie_gather_130, e_Lie_gather_131, e_Lie_gather_134, e_Lie_gather_135, e_Lie_gather_137, e_Lie_gather_138, e_Lie_gather_139, e_Lie_gather_140, e_Lie_gather_141, e_Lie_gather_144, e_Lie_gather_147, e_Lie_gather_148, e_Lie_gather_151, e_Lie_gather_152, e_Lie_gather_153, e_Lie_gather_154, e_Lie_gather_155, e_Lie_gather_158, e_Lie_gather_161, e_Lie_gather_162, e_Lie_gather_165, e_Lie_gather_166, e_Lie_gather_167, e_Lie_gather_168, e_Lie_gather_171, e_Lie_gather_172, e_Lie_gather_175, e_Lie_gather_178, e_Lie_gather_181, e_Lie_gather_184, alk_in, ask_in, blk_in, bsk_in, qlk_in, ack_in, rcv_in, rcA_in, bk_i, bk_l, bk_v, hS_same, hS_ne, hS_hS, hS_2, am_10, am_01, am_00, if_true, if_false, gf_2_0, pf_2_0, gf_2_1, pf_2_1, gf_2_2, pf_2_2, gf_2_3, pf_2_3, gf_2_4, pf_2_4, gf_2_5, pf_2_5, gf_2_6, pf_2_6, gf_2_7, pf_2_7, gf_2_8, pf_2_8, gf_5_0, pf_5_0, gf_5_1, pf_5_1, gf_5_2, pf_5_2, gf_5_3, pf_5_3, gf_5_4, pf_5_4, gf_5_5, pf_5_5, gf_5_6, pf_5_6, gf_5_7, pf_5_7, O, I1, s0, c1, Int.toNat_natCast]
      rw [if_pos (by omega)]; rfl
    · have e : gc n ce B (x + 1) = ((gc n ce B x).1 + 1, fun j => if j = (gc n ce B x).1 then (x : Int) else (gc n ce B x).2 j) := by
        show (if who n ce (x : Int) = -9 then gc n ce B x else _) = _
        rw [if_neg q]
      have mo := gc_mono n ce B (x + 1) d
      rw [show x + 1 + d = 9 by omega, w0.2.1, w0.1, e] at mo
      simp only at mo
      have f2 : FP (fun x => x = 36 ∨ x = 39) h (hS (hS h 39 (cI 0 9 (fun j => if j = x then -9 else I j))) 36 (cI 0 6 (fun j => if j = (gc n ce B x).1 then (x : Int) else (gc n ce B x).2 j))) := f1.tr (FP.st (Or.inl rfl))
      obtain ⟨h2, I', e2, B2, I4, I5, f3⟩ := ih (x + 1) (hS (hS h 39 (cI 0 9 (fun j => if j = x then -9 else I j))) 36 (cI 0 6 (fun j => if j = (gc n ce B x).1 then (x : Int) else (gc n ce B x).2 j))) _ (by omega) (f2.at O (by omega)) (by rw [e]; exact hS_same) (by rw [hS_ne (by omega)]; exact hS_same) I3 (RT.on (G := (n, c, 0, ha)) (T := (t, ce, so, ye)) S (fun x hx => f2.2 x (by omega)))
      refine ⟨h2, I', ?_, B2, I4, I5, f2.tr f3⟩
      unfold LiO at O
      obtain ⟨ce', so', ha', ye', ic, ⟨s0, s1, s2, s3, s4, s5⟩, r1, r2⟩ := S
      rw [e_Lie_gather_59, ← e2, e]
      simp (disch := omega) only [e_Lie_gather_0, e_Lie_gather_1, e_Lie_gather_2, e_Lie_gather_5, e_Lie_gather_6, e_Lie_gather_7, e_Lie_gather_8, e_Lie_gather_9, e_Lie_gather_12, e_Lie_gather_15, e_Lie_gather_18, e_Lie_gather_19, e_Lie_gather_22, e_Lie_gather_23, e_Lie_gather_26, e_Lie_gather_26b, e_Lie_gather_29, e_Lie_gather_30, e_Lie_gather_33, e_Lie_gather_34, e_Lie_gather_37, e_Lie_gather_38, e_Lie_gather_39, e_Lie_gather_40, e_Lie_gather_41, e_Lie_gather_44, e_Lie_gather_45, e_Lie_gather_46, e_Lie_gather_49, e_Lie_gather_52, e_Lie_gather_55, e_Lie_gather_56, e_Lie_gather_57, e_Lie_gather_58, e_Lie_gather_60, e_Lie_gather_62, e_Lie_gather_65, e_Lie_gather_66, e_Lie_gather_69, e_Lie_gather_70, e_Lie_gather_72, e_Lie_gather_73, e_Lie_gather_74, e_Lie_gather_77, e_Lie_gather_78, e_Lie_gather_81, e_Lie_gather_83, e_Lie_gather_86, e_Lie_gather_87, e_Lie_gather_88, e_Lie_gather_91, e_Lie_gather_94, e_Lie_gather_95, e_Lie_gather_98, e_Lie_gather_99, e_Lie_gather_100, e_Lie_gather_101, e_Lie_gather_104, e_Lie_gather_107, e_Lie_gather_111, e_Lie_gather_112, e_Lie_gather_113, e_Lie_gather_114, e_Lie_gather_117, e_Lie_gather_120, e_Lie_gather_121, e_Lie_gather_122, e_Lie_gather_123, e_Lie_gather_124, e_Lie_gather_127, e_Lie_gather_130, e_Lie_gather_131, e_Lie_gather_134, e_Lie_gather_135, e_Lie_gather_137, e_Lie_gather_138, e_Lie_gather_139, e_Lie_gather_140, e_Lie_gather_141, e_Lie_gather_144, e_Lie_gather_147, e_Lie_gather_148, e_Lie_gather_151, e_Lie_gather_152, e_Lie_gather_153, e_Lie_gather_154, e_Lie_gather_155, e_Lie_gather_158, e_Lie_gather_161, e_Lie_gather_162, e_Lie_gather_165, e_Lie_gather_166, e_Lie_gather_167, e_Lie_gather_168, e_Lie_gather_171, e_Lie_gather_172, e_Lie_gather_175, e_Lie_gather_178, e_Lie_gather_181, e_Lie_gather_184, alk_in, ask_in, blk_in, bsk_in, qlk_in, ack_in, rcv_in, rcA_in, bk_i, bk_l, bk_v, hS_same, hS_ne, hS_hS, hS_2, am_10, am_01, am_00, if_true, if_false, gf_2_0, pf_2_0, gf_2_1, pf_2_1, gf_2_2, pf_2_2, gf_2_3, pf_2_3, gf_2_4, pf_2_4, gf_2_5, pf_2_5, gf_2_6, pf_2_6, gf_2_7, pf_2_7, gf_2_8, pf_2_8, gf_5_0, pf_5_0, gf_5_1, pf_5_1, gf_5_2, pf_5_2, gf_5_3, pf_5_3, gf_5_4, pf_5_4, gf_5_5, pf_5_5, gf_5_6, pf_5_6, gf_5_7, pf_5_7, O, B1, I1, s0, c1, Int.toNat_natCast]
      rw [if_pos (by omega), if_neg q, if_pos (by omega)]; rfl
def PuO (P : Nat → Int) (k : Nat) (M so ha : Nat → Int) : Prop := ∀ i j, i < k → j < k → P (i * 6 + j) = fig (ha (M j).toNat) (so (M i).toNat)
theorem lg_in {k : Nat} {M : Nat → Int} {t : Int} (hW : Wf n c ce so ha ye) (hk : k ≤ 6) (hM : ∀ i, i < k → ∃ m : Nat, m < n ∧ M i = (m : Int)) {i : Nat} (hi : i < k) {l1 : am_V} : ∀ (d j : Nat) (h : am_H) (P : Nat → Int), j + d = k → LiO h ly is k → h.1 35 = cI 0 6 M → h.1 38 = cI 0 36 P → RepS h 29 n c t ce so ha ye → (∀ i' j', i' < k → j' < k → (i' < i ∨ i' = i ∧ j' < j) → P (i' * 6 + j') = fig (ha (M j').toNat) (so (M i').toNat)) → ∃ h' P', gv mLie_gather 122 [vR 28, l1, vI (i : Int), vI (j : Int)] [] h = gv mLie_gather 178 [vR 28, l1, vI (i : Int), vI (k : Int)] [] h' ∧ h'.1 38 = cI 0 36 P' ∧ (∀ i' j', i' < k → j' < k → i' < i + 1 → P' (i' * 6 + j') = fig (ha (M j').toNat) (so (M i').toNat)) ∧ Fr 38 39 h h' := by
  have hn := hW.1
  intro d
  induction d with
  | zero =>
    intro j h P hj O M1 P1 S H
    have : j = k := by omega
    subst this
    refine ⟨h, P, ?_, P1, fun i' j' h1 h2 h3 => H i' j' h1 h2 (by omega), Fr.rf⟩
    unfold LiO at O
    rw [e_Lie_gather_122]
    simp (disch := omega) only [e_Lie_gather_0, e_Lie_gather_1, e_Lie_gather_2, e_Lie_gather_5, e_Lie_gather_6, e_Lie_gather_7, e_Lie_gather_8, e_Lie_gather_9, e_Lie_gather_12, e_Lie_gather_15, e_Lie_gather_18, e_Lie_gather_19, e_Lie_gather_22, e_Lie_gather_23, e_Lie_gather_26, e_Lie_gather_26b, e_Lie_gather_29, e_Lie_gather_30, e_Lie_gather_33, e_Lie_gather_34, e_Lie_gather_37, e_Lie_gather_38, e_Lie_gather_39, e_Lie_gather_40, e_Lie_gather_41, e_Lie_gather_44, e_Lie_gather_45, e_Lie_gather_46, e_Lie_gather_49, e_Lie_gather_52, e_Lie_gather_55, e_Lie_gather_56, e_Lie_gather_57, e_Lie_gather_58, e_Lie_gather_59, e_Lie_gather_60, e_Lie_gather_62, e_Lie_gather_65, e_Lie_gather_66, e_Lie_gather_69, e_Lie_gather_70, e_Lie_gather_72, e_Lie_gather_73, e_Lie_gather_74, e_Lie_gather_77, e_Lie_gather_78, e_Lie_gather_81, e_Lie_gather_83, e_Lie_gather_86, e_Lie_gather_87, e_Lie_gather_88, e_Lie_gather_91, e_Lie_gather_94, e_Lie_gather_95, e_Lie_gather_98, e_Lie_gather_99, e_Lie_gather_100, e_Lie_gather_101, e_Lie_gather_104, e_Lie_gather_107, e_Lie_gather_110, e_Lie_gather_111, e_Lie_gather_112, e_Lie_gather_113, e_Lie_gather_114, e_Lie_gather_117, e_Lie_gather_120, e_Lie_gather_121, e_Lie_gather_123, e_Lie_gather_124, e_Lie_gather_127, e_Lie_gather_130, e_Lie_gather_131, e_Lie_gather_134, e_Lie_gather_135, e_Lie_gather_137, e_Lie_gather_138, e_Lie_gather_139, e_Lie_gather_140, e_Lie_gather_141, e_Lie_gather_144, e_Lie_gather_147, e_Lie_gather_148, e_Lie_gather_151, e_Lie_gather_152, e_Lie_gather_153, e_Lie_gather_154, e_Lie_gather_155, e_Lie_gather_158, e_Lie_gather_161, e_Lie_gather_162, e_Lie_gather_165, e_Lie_gather_166, e_Lie_gather_167, e_Lie_gather_168, e_Lie_gather_171, e_Lie_gather_172, e_Lie_gather_175, e_Lie_gather_181, e_Lie_gather_184, alk_in, ask_in, blk_in, bsk_in, qlk_in, ack_in, rcv_in, rcA_in, bk_i, bk_l, bk_v, hS_same, hS_ne, hS_hS, hS_2, am_10, am_01, am_00, if_true, if_false, gf_2_0, pf_2_0, gf_2_1, pf_2_1, gf_2_2, pf_2_2, gf_2_3, pf_2_3, gf_2_4, pf_2_4, gf_2_5, pf_2_5, gf_2_6, pf_2_6, gf_2_7, pf_2_7, gf_2_8, pf_2_8, gf_5_0, pf_5_0, gf_5_1, pf_5_1, gf_5_2, pf_5_2, gf_5_3, pf_5_3, gf_5_4, pf_5_4, gf_5_5, pf_5_5, gf_5_6, pf_5_6, gf_5_7, pf_5_7, O]
    rw [if_neg (by omega)]
  | succ d ih =>
    intro j h P hj O M1 P1 S H
    obtain ⟨mi, mi1, mi2⟩ := hM i hi
    obtain ⟨mj, mj1, mj2⟩ := hM j (by omega)
    have f1 : Fr 38 39 h (hS h 38 (cI 0 36 (fun z => if z = i * 6 + j then fig (ha mj) (so mi) else P z))) := Fr.st (by omega)
    obtain ⟨h2, P', e2, P2, H2, f2⟩ := ih (j + 1) (hS h 38 (cI 0 36 (fun z => if z = i * 6 + j then fig (ha mj) (so mi) else P z))) _ (by omega) ((f1.at (by omega)).trans O) ((f1.at (by omega)).trans M1) hS_same (S.fr f1 (by omega)) (fun i' j' h1 h2 h3 => by
      by_cases q : i' * 6 + j' = i * 6 + j
      · have e1 : i' = i := by omega
        have e2 : j' = j := by omega
        subst e1
        subst e2
        rw [if_pos rfl, mi2, mj2, Int.toNat_natCast, Int.toNat_natCast]
      · rw [if_neg q]
        refine H i' j' h1 h2 ?_
        by_cases r : i' = i
        · refine Or.inr ⟨r, ?_⟩
          by_cases r2 : j' = j
          · subst r; subst r2; exact absurd rfl q
          · omega
        · exact Or.inl (by omega))
    refine ⟨h2, P', ?_, P2, H2, f1.tr f2⟩
    unfold LiO at O
    obtain ⟨ce', so', ha', ye', ic, ⟨s0, s1, s2, s3, s4, s5⟩, r1, r2⟩ := S
    have wi := hW.2.2.2.1 mi mi1
    have c1 := c_figure (h := h) (a := ha mj) (s := so mi) (by omega)
    have t1 : ((i : Int) * 6 + (j : Int)).toNat = i * 6 + j := by omega
    rw [e_Lie_gather_122, ← e2]
    simp (disch := omega) only [e_Lie_gather_0, e_Lie_gather_1, e_Lie_gather_2, e_Lie_gather_5, e_Lie_gather_6, e_Lie_gather_7, e_Lie_gather_8, e_Lie_gather_9, e_Lie_gather_12, e_Lie_gather_15, e_Lie_gather_18, e_Lie_gather_19, e_Lie_gather_22, e_Lie_gather_23, e_Lie_gather_26, e_Lie_gather_26b, e_Lie_gather_29, e_Lie_gather_30, e_Lie_gather_33, e_Lie_gather_34, e_Lie_gather_37, e_Lie_gather_38, e_Lie_gather_39, e_Lie_gather_40, e_Lie_gather_41, e_Lie_gather_44, e_Lie_gather_45, e_Lie_gather_46, e_Lie_gather_49, e_Lie_gather_52, e_Lie_gather_55, e_Lie_gather_56, e_Lie_gather_57, e_Lie_gather_58, e_Lie_gather_59, e_Lie_gather_60, e_Lie_gather_62, e_Lie_gather_65, e_Lie_gather_66, e_Lie_gather_69, e_Lie_gather_70, e_Lie_gather_72, e_Lie_gather_73, e_Lie_gather_74, e_Lie_gather_77, e_Lie_gather_78, e_Lie_gather_81, e_Lie_gather_83, e_Lie_gather_86, e_Lie_gather_87, e_Lie_gather_88, e_Lie_gather_91, e_Lie_gather_94, e_Lie_gather_95, e_Lie_gather_98, e_Lie_gather_99, e_Lie_gather_100, e_Lie_gather_101, e_Lie_gather_104, e_Lie_gather_107, e_Lie_gather_110, e_Lie_gather_111, e_Lie_gather_112, e_Lie_gather_113, e_Lie_gather_114, e_Lie_gather_117, e_Lie_gather_120, e_Lie_gather_121, e_Lie_gather_123, e_Lie_gather_124, e_Lie_gather_127, e_Lie_gather_130, e_Lie_gather_131, e_Lie_gather_134, e_Lie_gather_135, e_Lie_gather_137, e_Lie_gather_138, e_Lie_gather_139, e_Lie_gather_140, e_Lie_gather_141, e_Lie_gather_144, e_Lie_gather_147, e_Lie_gather_148, e_Lie_gather_151, e_Lie_gather_152, e_Lie_gather_153, e_Lie_gather_154, e_Lie_gather_155, e_Lie_gather_158, e_Lie_gather_161, e_Lie_gather_162, e_Lie_gather_165, e_Lie_gather_166, e_Lie_gather_167, e_Lie_gather_168, e_Lie_gather_171, e_Lie_gather_172, e_Lie_gather_175, e_Lie_gather_181, e_Lie_gather_184, alk_in, ask_in, blk_in, bsk_in, qlk_in, ack_in, rcv_in, rcA_in, bk_i, bk_l, bk_v, hS_same, hS_ne, hS_hS, hS_2, am_10, am_01, am_00, if_true, if_false, gf_2_0, pf_2_0, gf_2_1, pf_2_1, gf_2_2, pf_2_2, gf_2_3, pf_2_3, gf_2_4, pf_2_4, gf_2_5, pf_2_5, gf_2_6, pf_2_6, gf_2_7, pf_2_7, gf_2_8, pf_2_8, gf_5_0, pf_5_0, gf_5_1, pf_5_1, gf_5_2, pf_5_2, gf_5_3, pf_5_3, gf_5_4, pf_5_4, gf_5_5, pf_5_5, gf_5_6, pf_5_6, gf_5_7, pf_5_7, O, M1, P1, s0, s2, s3, mi2, mj2, (r1 mi mi1).2.1, (r1 mj mj1).2.2.1, c1, Int.toNat_natCast, t1]
    rw [if_pos (by omega)]; rfl
theorem lg_out {k : Nat} {M : Nat → Int} {t : Int} (hW : Wf n c ce so ha ye) (hk : k ≤ 6) (hM : ∀ i, i < k → ∃ m : Nat, m < n ∧ M i = (m : Int)) {l1 : am_V} : ∀ (d i : Nat) (h : am_H) (P : Nat → Int) (l3 : am_V), i + d = k → LiO h ly is k → h.1 35 = cI 0 6 M → h.1 38 = cI 0 36 P → RepS h 29 n c t ce so ha ye → (∀ i' j', i' < k → j' < k → i' < i → P (i' * 6 + j') = fig (ha (M j').toNat) (so (M i').toNat)) → ∃ h' P', gv mLie_gather 112 [vR 28, l1, vI (i : Int), l3] [] h = some (none, h') ∧ h'.1 38 = cI 0 36 P' ∧ PuO P' k M so ha ∧ Fr 38 39 h h' := by
  intro d
  induction d with
  | zero =>
    intro i h P l3 hi O M1 P1 S H
    have : i = k := by omega
    subst this
    refine ⟨h, P, ?_, P1, fun i' j' h1 h2 => H i' j' h1 h2 h1, Fr.rf⟩
    unfold LiO at O
    rw [e_Lie_gather_112]
    simp (disch := omega) only [e_Lie_gather_0, e_Lie_gather_1, e_Lie_gather_2, e_Lie_gather_5, e_Lie_gather_6, e_Lie_gather_7, e_Lie_gather_8, e_Lie_gather_9, e_Lie_gather_12, e_Lie_gather_15, e_Lie_gather_18, e_Lie_gather_19, e_Lie_gather_22, e_Lie_gather_23, e_Lie_gather_26, e_Lie_gather_26b, e_Lie_gather_29, e_Lie_gather_30, e_Lie_gather_33, e_Lie_gather_34, e_Lie_gather_37, e_Lie_gather_38, e_Lie_gather_39, e_Lie_gather_40, e_Lie_gather_41, e_Lie_gather_44, e_Lie_gather_45, e_Lie_gather_46, e_Lie_gather_49, e_Lie_gather_52, e_Lie_gather_55, e_Lie_gather_56, e_Lie_gather_57, e_Lie_gather_58, e_Lie_gather_59, e_Lie_gather_60, e_Lie_gather_62, e_Lie_gather_65, e_Lie_gather_66, e_Lie_gather_69, e_Lie_gather_70, e_Lie_gather_72, e_Lie_gather_73, e_Lie_gather_74, e_Lie_gather_77, e_Lie_gather_78, e_Lie_gather_81, e_Lie_gather_83, e_Lie_gather_86, e_Lie_gather_87, e_Lie_gather_88, e_Lie_gather_91, e_Lie_gather_94, e_Lie_gather_95, e_Lie_gather_98, e_Lie_gather_99, e_Lie_gather_100, e_Lie_gather_101, e_Lie_gather_104, e_Lie_gather_107, e_Lie_gather_110, e_Lie_gather_111, e_Lie_gather_113, e_Lie_gather_114, e_Lie_gather_117, e_Lie_gather_120, e_Lie_gather_121, e_Lie_gather_122, e_Lie_gather_123, e_Lie_gather_124, e_Lie_gather_127, e_Lie_gather_130, e_Lie_gather_131, e_Lie_gather_134, e_Lie_gather_135, e_Lie_gather_137, e_Lie_gather_138, e_Lie_gather_139, e_Lie_gather_140, e_Lie_gather_141, e_Lie_gather_144, e_Lie_gather_147, e_Lie_gather_148, e_Lie_gather_151, e_Lie_gather_152, e_Lie_gather_153, e_Lie_gather_154, e_Lie_gather_155, e_Lie_gather_158, e_Lie_gather_161, e_Lie_gather_162, e_Lie_gather_165, e_Lie_gather_166, e_Lie_gather_167, e_Lie_gather_168, e_Lie_gather_171, e_Lie_gather_172, e_Lie_gather_175, e_Lie_gather_178, e_Lie_gather_181, e_Lie_gather_184, alk_in, ask_in, blk_in, bsk_in, qlk_in, ack_in, rcv_in, rcA_in, bk_i, bk_l, bk_v, hS_same, hS_ne, hS_hS, hS_2, am_10, am_01, am_00, if_true, if_false, gf_2_0, pf_2_0, gf_2_1, pf_2_1, gf_2_2, pf_2_2, gf_2_3, pf_2_3, gf_2_4, pf_2_4, gf_2_5, pf_2_5, gf_2_6, pf_2_6, gf_2_7, pf_2_7, gf_2_8, pf_2_8, gf_5_0, pf_5_0, gf_5_1, pf_5_1, gf_5_2, pf_5_2, gf_5_3, pf_5_3, gf_5_4, pf_5_4, gf_5_5, pf_5_5, gf_5_6, pf_5_6, gf_5_7, pf_5_7, O]
    rw [if_neg (by omega)]
  | succ d ih =>
    intro i h P l3 hi O M1 P1 S H
    obtain ⟨h1, P', e1, P2, H2, f1⟩ := lg_in (l1 := l1) hW hk hM (show i < k by omega) k 0 h P (by omega) O M1 P1 S (fun i' j' a b z => H i' j' a b (by omega))
    obtain ⟨h2, P3, e2, P4, H4, f2⟩ := ih (i + 1) h1 P' (vI (k : Int)) (by omega) ((f1.at (by omega)).trans O) ((f1.at (by omega)).trans M1) P2 (S.fr f1 (by omega)) (fun i' j' a b z => H2 i' j' a b (by omega))
    refine ⟨h2, P3, ?_, P4, H4, f1.tr f2⟩
    unfold LiO at O
    rw [e_Lie_gather_112, ← e2]
    simp (disch := omega) only [e_Lie_gather_0, e_Lie_gather_1, e_Lie_gather_2, e_Lie_gather_5, e_Lie_gather_6, e_Lie_gather_7, e_Lie_gather_8, e_Lie_gather_9, e_Lie_gather_12, e_Lie_gather_15, e_Lie_gather_18, e_Lie_gather_19, e_Lie_gather_22, e_Lie_gather_23, e_Lie_gather_26, e_Lie_gather_26b, e_Lie_gather_29, e_Lie_gather_30, e_Lie_gather_33, e_Lie_gather_34, e_Lie_gather_37, e_Lie_gather_38, e_Lie_gather_39, e_Lie_gather_40, e_Lie_gather_41, e_Lie_gather_44, e_Lie_gather_45, e_Lie_gather_46, e_Lie_gather_49, e_Lie_gather_52, e_Lie_gather_55, e_Lie_gather_56, e_Lie_gather_57, e_Lie_gather_58, e_Lie_gather_59, e_Lie_gather_60, e_Lie_gather_62, e_Lie_gather_65, e_Lie_gather_66, e_Lie_gather_69, e_Lie_gather_70, e_Lie_gather_72, e_Lie_gather_73, e_Lie_gather_74, e_Lie_gather_77, e_Lie_gather_78, e_Lie_gather_81, e_Lie_gather_83, e_Lie_gather_86, e_Lie_gather_87, e_Lie_gather_88, e_Lie_gather_91, e_Lie_gather_94, e_Lie_gather_95, e_Lie_gather_98, e_Lie_gather_99, e_Lie_gather_100, e_Lie_gather_101, e_Lie_gather_104, e_Lie_gather_107, e_Lie_gather_110, e_Lie_gather_111, e_Lie_gather_113, e_Lie_gather_114, e_Lie_gather_117, e_Lie_gather_120, e_Lie_gather_121, e_Lie_gather_123, e_Lie_gather_124, e_Lie_gather_127, e_Lie_gather_130, e_Lie_gather_131, e_Lie_gather_134, e_Lie_gather_135, e_Lie_gather_137, e_Lie_gather_138, e_Lie_gather_139, e_Lie_gather_140, e_Lie_gather_141, e_Lie_gather_144, e_Lie_gather_147, e_Lie_gather_148, e_Lie_gather_151, e_Lie_gather_152, e_Lie_gather_153, e_Lie_gather_154, e_Lie_gather_155, e_Lie_gather_158, e_Lie_gather_161, e_Lie_gather_162, e_Lie_gather_165, e_Lie_gather_166, e_Lie_gather_167, e_Lie_gather_168, e_Lie_gather_171, e_Lie_gather_172, e_Lie_gather_175, e_Lie_gather_181, e_Lie_gather_184, alk_in, ask_in, blk_in, bsk_in, qlk_in, ack_in, rcv_in, rcA_in, bk_i, bk_l, bk_v, hS_same, hS_ne, hS_hS, hS_2, am_10, am_01, am_00, if_true, if_false, gf_2_0, pf_2_0, gf_2_1, pf_2_1, gf_2_2, pf_2_2, gf_2_3, pf_2_3, gf_2_4, pf_2_4, gf_2_5, pf_2_5, gf_2_6, pf_2_6, gf_2_7, pf_2_7, gf_2_8, pf_2_8, gf_5_0, pf_5_0, gf_5_1, pf_5_1, gf_5_2, pf_5_2, gf_5_3, pf_5_3, gf_5_4, pf_5_4, gf_5_5, pf_5_5, gf_5_6, pf_5_6, gf_5_7, pf_5_7, O]
    rw [if_pos (by omega)]
    refine Eq.trans e1 ?_
    simp (disch := omega) only [e_Lie_gather_178, e_Lie_gather_181]
    rfl
theorem k_gather {h : am_H} {t : Int} {sz : am_V} {A B P I : Nat → Int} (hW : Wf n c ce so ha ye) (O : h.1 28 = cO 2 [ly, vR 29, is, sz, vR 35, vR 36, vR 37, vR 38, vR 39]) (S : RepS h 29 n c t ce so ha ye) (A1 : h.1 35 = cI 0 6 A) (B1 : h.1 36 = cI 0 6 B) (P1 : h.1 38 = cI 0 36 P) (I1 : h.1 39 = cI 0 9 I) : ∃ h' P' I', ev mLie_gather [vR 28] h = some (none, h') ∧ LiO h' ly is (gm ce A n).1 ∧ h'.1 35 = cI 0 6 (gm ce A n).2 ∧ h'.1 36 = cI 0 6 (gc n ce B 9).2 ∧ h'.1 38 = cI 0 36 P' ∧ PuO P' (gm ce A n).1 (gm ce A n).2 so ha ∧ h'.1 39 = cI 0 9 I' ∧ (∀ j, j < 9 → I' j = -9) ∧ FP (fun x => x = 28 ∨ 35 ≤ x ∧ x < 40 ∧ ¬ x = 37) h h' := by
  have hn := hW.1
  have gl := gm_le ce A n
  have f0 : FP (fun x => x = 28 ∨ x = 35) h (hS h 28 (cO 2 [ly, vR 29, is, vI 0, vR 35, vR 36, vR 37, vR 38, vR 39])) := FP.st (Or.inl rfl)
  obtain ⟨h1, e1, O1, A2, f1⟩ := lg_men (A := A) (ly := ly) (is := is) (l2 := vU) (l3 := vU) hW n 0 (hS h 28 (cO 2 [ly, vR 29, is, vI 0, vR 35, vR 36, vR 37, vR 38, vR 39])) (by omega) hS_same (by rw [hS_ne (by omega)]; exact A1) (RT.on (G := (n, c, 0, ha)) (T := (t, ce, so, ye)) S (fun x hx => f0.2 x (by omega)))
  have g1 := f0.tr f1
  have S1 : RepS h1 29 n c t ce so ha ye := RT.on (G := (n, c, 0, ha)) (T := (t, ce, so, ye)) S (fun x hx => g1.2 x (by omega))
  obtain ⟨h2, I', e2, B2, I2, I3, f2⟩ := lg_cells (A := A) (B := B) (l3 := vU) hW 9 0 h1 I (by omega) O1 (g1.at B1 (by omega)) (g1.at I1 (by omega)) (fun j hj => by omega) S1
  have S2 : RepS h2 29 n c t ce so ha ye := RT.on (G := (n, c, 0, ha)) (T := (t, ce, so, ye)) S1 (fun x hx => f2.2 x (by omega))
  have hM := (gm_mno ce A n).1
  obtain ⟨h3, P', e3, P2, P3, f3⟩ := lg_out (l1 := vI ((gc n ce B 9).1 : Int)) hW (show (gm ce A n).1 ≤ 6 by omega) (fun i hi => by obtain ⟨m, a, b, -⟩ := hM i hi; exact ⟨m, a, b⟩) (gm ce A n).1 0 h2 P vU (by omega) (f2.at O1 (by omega)) (f2.at A2 (by omega)) (f2.at (g1.at P1 (by omega)) (by omega)) S2 (fun i' j' _ _ z => by omega)
  refine ⟨h3, P', I', ?_, (f3.at (by omega)).trans (f2.at O1 (by omega)), (f3.at (by omega)).trans (f2.at A2 (by omega)), (f3.at (by omega)).trans B2, P2, P3, (f3.at (by omega)).trans I2, I3, ((g1.wd (fun x hx => by omega)).tr (f2.wd (fun x hx => by omega))).tr (f3.fp (fun x hx => by omega))⟩
  rw [ev_Lie_gather]
  simp (disch := omega) only [e_Lie_gather_0, e_Lie_gather_1, e_Lie_gather_2, e_Lie_gather_5, e_Lie_gather_6, alk_in, ask_in, blk_in, bsk_in, qlk_in, ack_in, rcv_in, rcA_in, bk_i, bk_l, bk_v, hS_same, hS_ne, hS_hS, hS_2, am_10, am_01, am_00, if_true, if_false, gf_2_0, pf_2_0, gf_2_1, pf_2_1, gf_2_2, pf_2_2, gf_2_3, pf_2_3, gf_2_4, pf_2_4, gf_2_5, pf_2_5, gf_2_6, pf_2_6, gf_2_7, pf_2_7, gf_2_8, pf_2_8, O]
  refine Eq.trans e1 ?_
  simp (disch := omega) only [e_Lie_gather_55, e_Lie_gather_56, e_Lie_gather_57, e_Lie_gather_58]
  refine Eq.trans e2 ?_
  rw [← e3]
  simp (disch := omega) only [e_Lie_gather_110, e_Lie_gather_111]
  rfl
end LieC
