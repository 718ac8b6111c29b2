/-! odds: the model -/
section OddsM
variable {h : am_H} {G : Gl} {T : Tm}
def TrM (h : am_H) (G : Gl) (T : Tm) (m s k : Nat) : Prop := ∃ t so', RepM h G.1 G.2.1 G.2.2.1 t (fbt G T m s k).1 so' G.2.2.2 (fbt G T m s k).2 ∧ Wf G.1 G.2.1 (fbt G T m s k).1 so' G.2.2.2 (fbt G T m s k).2 ∧ ∀ j, j < G.1 → ¬ j = m → so' j = T.2.2.1 j
theorem lm_in {m s N : Nat} {x w U L : Int} (hw : WT G T) (hm : m < G.1) (hN : N ≤ 6) (hs : s < 64) : ∀ (d k : Nat) (h : am_H) (x10 : am_V), k + d = N → TrM h G T m s k → AsM h G.1 T.1 T.2.1 T.2.2.1 T.2.2.2 → Sh h 129 6 → ∃ h' y10, gv mMod_odds 89 [vR 120, vI (m : Int), vI x, vI (N : Int), vI w, vI U, vI L, vI (s : Int), vI (wtM x s k), vI (k : Int), x10] [] h = gv mMod_odds 169 [vR 120, vI (m : Int), vI x, vI (N : Int), vI w, vI U, vI L, vI (s : Int), vI (wtM x s N), vI (N : Int), y10] [] h' ∧ TrM h' G T m s N ∧ AsM h' G.1 T.1 T.2.1 T.2.2.1 T.2.2.2 ∧ Sh h' 129 6 ∧ FE [124, 129] h h' := by
  have hn := hw.1
  intro d
  induction d with
  | zero =>
    intro k h x10 hk Q A s1
    have : k = N := by omega
    subst this
    refine ⟨h, x10, ?_, Q, A, s1, FE.rf⟩
    rw [e_Mod_odds_89]
    simp (disch := omega) only [e_Mod_odds_0, e_Mod_odds_1, e_Mod_odds_2, e_Mod_odds_5, e_Mod_odds_5b, e_Mod_odds_8, e_Mod_odds_9, e_Mod_odds_10, e_Mod_odds_12, e_Mod_odds_15, e_Mod_odds_15b, e_Mod_odds_18, e_Mod_odds_19, e_Mod_odds_20, e_Mod_odds_22, e_Mod_odds_25, e_Mod_odds_25b, e_Mod_odds_28, e_Mod_odds_30, e_Mod_odds_31, e_Mod_odds_32, e_Mod_odds_35, e_Mod_odds_35b, e_Mod_odds_38, e_Mod_odds_39, e_Mod_odds_40, e_Mod_odds_41, e_Mod_odds_44, e_Mod_odds_45, e_Mod_odds_47, e_Mod_odds_48, e_Mod_odds_50, e_Mod_odds_51, e_Mod_odds_55, e_Mod_odds_56, e_Mod_odds_59, e_Mod_odds_61, e_Mod_odds_63, e_Mod_odds_64, e_Mod_odds_66, e_Mod_odds_69, e_Mod_odds_72, e_Mod_odds_73, e_Mod_odds_77, e_Mod_odds_78, e_Mod_odds_79, e_Mod_odds_80, e_Mod_odds_83, e_Mod_odds_84, e_Mod_odds_86, e_Mod_odds_87, e_Mod_odds_91, e_Mod_odds_92, e_Mod_odds_97, e_Mod_odds_99, e_Mod_odds_100, e_Mod_odds_101, e_Mod_odds_102, e_Mod_odds_103, e_Mod_odds_106, e_Mod_odds_107, e_Mod_odds_110, e_Mod_odds_111, e_Mod_odds_113, e_Mod_odds_115, e_Mod_odds_117, e_Mod_odds_117b, e_Mod_odds_120, e_Mod_odds_121, e_Mod_odds_124, e_Mod_odds_126, e_Mod_odds_127, e_Mod_odds_128, e_Mod_odds_129, e_Mod_odds_131, e_Mod_odds_132, e_Mod_odds_135, e_Mod_odds_137, e_Mod_odds_138, e_Mod_odds_139, e_Mod_odds_141, e_Mod_odds_141b, e_Mod_odds_144, e_Mod_odds_145, e_Mod_odds_148, e_Mod_odds_149, e_Mod_odds_152, e_Mod_odds_154, e_Mod_odds_155, e_Mod_odds_156, e_Mod_odds_157, e_Mod_odds_158, e_Mod_odds_159, e_Mod_odds_162, e_Mod_odds_163, e_Mod_odds_166, e_Mod_odds_171, e_Mod_odds_172, e_Mod_odds_173, e_Mod_odds_176, e_Mod_odds_176b, e_Mod_odds_179, e_Mod_odds_180, e_Mod_odds_183, e_Mod_odds_185, e_Mod_odds_186, e_Mod_odds_188, e_Mod_odds_189, e_Mod_odds_192, e_Mod_odds_195, e_Mod_odds_198, e_Mod_odds_200, e_Mod_odds_202, e_Mod_odds_204, e_Mod_odds_208, e_Mod_odds_211, e_Mod_odds_213, e_Mod_odds_215, e_Mod_odds_216, e_Mod_odds_218, e_Mod_odds_220, e_Mod_odds_222, e_Mod_odds_224, e_Mod_odds_226, e_Mod_odds_229, e_Mod_odds_231, e_Mod_odds_231b, e_Mod_odds_234, e_Mod_odds_236, e_Mod_odds_238, e_Mod_odds_239, e_Mod_odds_242, e_Mod_odds_244, e_Mod_odds_246, e_Mod_odds_247, alk_in, ask_in, blk_in, bsk_in, qlk_in, ack_in, rcv_in, rcA_in, bk_i, bk_l, bk_v, hS_same, hS_ne, hS_hS, hS_2, am_10, am_01, am_00, if_true, if_false]
    rw [if_neg (by omega)]
  | succ d ih =>
    intro k h x10 hk Q A s1
    obtain ⟨t, so', Q1, Q2, Q3⟩ := Q
    have Q1' := Q1
    obtain ⟨x0, x2, x7, x11, x12, x13, x14, x15, T', F, o, a, b, r0, r1, r2, r3, r⟩ := Q1'
    have A' := A
    obtain ⟨A0, ea, ea0, ear⟩ := A'
    have jb := jbit_s s hs k (by omega)
    have h0 : ∀ j, j < G.1 → 0 ≤ T.2.2.1 j ∧ T.2.2.1 j ≤ 4 := fun j hj => by have := hw.2.2.2.1 j hj; omega
    have step : ∀ v : Int, v = (if s.testBit k = true then 1 else T.2.2.1 m) → ∃ h2 z, ev mMod_passes [vR 120] (hS h 124 (cI 0 19 (fun j => if j = 7 + m then v else F j))) = some (some (vI z), h2) ∧ TrM h2 G T m s (k + 1) ∧ AsM h2 G.1 T.1 T.2.1 T.2.2.1 T.2.2.2 ∧ Sh h2 129 6 ∧ FE [124, 129] h h2 := by
      intro v hv
      have f1 : FE [124] h (hS h 124 (cI 0 19 (fun j => if j = 7 + m then v else F j))) := FE.st (by decide)
      have B1 := RepM.setSo Q1 hn (m := m) (by omega) v b
      have B2 := RepM.co B1 (ce1 := (fbt G T m s k).1) (so1 := soB T.2.2.1 m s k) (ha1 := G.2.2.2) (ye1 := (fbt G T m s k).2) (fun j hj => ⟨rfl, by
        unfold soB
        by_cases q : j = m
        · rw [if_pos q, if_pos q, hv]
        · rw [if_neg q, if_neg q]; exact Q3 j hj q, rfl, rfl⟩)
      have w2 := soB_r Q2 h0 hm s k
      obtain ⟨h2, e2, B, s2, f2⟩ := m_passes B2 w2 (s1.fe f1 (by decide))
      refine ⟨h2, _, e2, ⟨_, _, B, Wf.pass w2, fun j hj q => ?_⟩, (A.fe f1 (by decide)).fe f2 (by decide), s2, (f1.wd (by decide)).tr f2⟩
      unfold soB
      rw [if_neg q]
    have t7 : (7 + (m : Int)).toNat = 7 + m := by omega
    have ew : wtM x s (k + 1) = wtM x s k * (if s.testBit k = true then x else 10 - x) := rfl
    unfold MoA at o
    by_cases q : s.testBit k = true
    · rw [if_pos q] at jb
      obtain ⟨h2, z, e2, B, A2, s2, f2⟩ := step 1 (by rw [if_pos q])
      obtain ⟨h3, y10, e3, B3, A3, s3, f3⟩ := ih (k + 1) h2 (vI 1) (by omega) B A2 s2
      refine ⟨h3, y10, ?_, B3, A3, s3, f2.tr f3⟩
      rw [e_Mod_odds_89, ← e3, ew, if_pos q]
      simp (disch := omega) only [e_Mod_odds_0, e_Mod_odds_1, e_Mod_odds_2, e_Mod_odds_5, e_Mod_odds_5b, e_Mod_odds_8, e_Mod_odds_9, e_Mod_odds_10, e_Mod_odds_12, e_Mod_odds_15, e_Mod_odds_15b, e_Mod_odds_18, e_Mod_odds_19, e_Mod_odds_20, e_Mod_odds_22, e_Mod_odds_25, e_Mod_odds_25b, e_Mod_odds_28, e_Mod_odds_30, e_Mod_odds_31, e_Mod_odds_32, e_Mod_odds_35, e_Mod_odds_35b, e_Mod_odds_38, e_Mod_odds_39, e_Mod_odds_40, e_Mod_odds_41, e_Mod_odds_44, e_Mod_odds_45, e_Mod_odds_47, e_Mod_odds_48, e_Mod_odds_50, e_Mod_odds_51, e_Mod_odds_55, e_Mod_odds_56, e_Mod_odds_59, e_Mod_odds_61, e_Mod_odds_63, e_Mod_odds_64, e_Mod_odds_66, e_Mod_odds_69, e_Mod_odds_72, e_Mod_odds_73, e_Mod_odds_77, e_Mod_odds_78, e_Mod_odds_79, e_Mod_odds_80, e_Mod_odds_83, e_Mod_odds_84, e_Mod_odds_86, e_Mod_odds_87, e_Mod_odds_91, e_Mod_odds_92, e_Mod_odds_95, e_Mod_odds_97, e_Mod_odds_99, e_Mod_odds_100, e_Mod_odds_101, e_Mod_odds_102, e_Mod_odds_103, e_Mod_odds_106, e_Mod_odds_107, e_Mod_odds_110, e_Mod_odds_111, e_Mod_odds_113, e_Mod_odds_115, e_Mod_odds_117, e_Mod_odds_117b, e_Mod_odds_120, e_Mod_odds_121, e_Mod_odds_124, e_Mod_odds_126, e_Mod_odds_127, e_Mod_odds_128, e_Mod_odds_129, e_Mod_odds_131, e_Mod_odds_132, e_Mod_odds_135, e_Mod_odds_137, e_Mod_odds_138, e_Mod_odds_139, e_Mod_odds_141, e_Mod_odds_141b, e_Mod_odds_144, e_Mod_odds_145, e_Mod_odds_148, e_Mod_odds_149, e_Mod_odds_152, e_Mod_odds_154, e_Mod_odds_155, e_Mod_odds_156, e_Mod_odds_157, e_Mod_odds_158, e_Mod_odds_159, e_Mod_odds_162, e_Mod_odds_163, e_Mod_odds_166, e_Mod_odds_171, e_Mod_odds_172, e_Mod_odds_173, e_Mod_odds_176, e_Mod_odds_176b, e_Mod_odds_179, e_Mod_odds_180, e_Mod_odds_183, e_Mod_odds_185, e_Mod_odds_186, e_Mod_odds_188, e_Mod_odds_189, e_Mod_odds_192, e_Mod_odds_195, e_Mod_odds_198, e_Mod_odds_200, e_Mod_odds_202, e_Mod_odds_204, e_Mod_odds_208, e_Mod_odds_211, e_Mod_odds_213, e_Mod_odds_215, e_Mod_odds_216, e_Mod_odds_218, e_Mod_odds_220, e_Mod_odds_222, e_Mod_odds_224, e_Mod_odds_226, e_Mod_odds_229, e_Mod_odds_231, e_Mod_odds_231b, e_Mod_odds_234, e_Mod_odds_236, e_Mod_odds_238, e_Mod_odds_239, e_Mod_odds_242, e_Mod_odds_244, e_Mod_odds_246, e_Mod_odds_247, alk_in, ask_in, blk_in, bsk_in, qlk_in, ack_in, rcv_in, rcA_in, bk_i, bk_l, bk_v, hS_same, hS_ne, hS_hS, hS_2, am_10, am_01, am_00, if_true, if_false, gf_12_0, pf_12_0, gf_12_1, pf_12_1, gf_12_2, pf_12_2, gf_12_3, pf_12_3, gf_12_4, pf_12_4, gf_12_5, pf_12_5, gf_12_6, pf_12_6, gf_12_7, pf_12_7, gf_12_8, pf_12_8, gf_12_9, pf_12_9, gf_12_10, pf_12_10, gf_12_11, pf_12_11, gf_12_12, pf_12_12, gf_12_13, pf_12_13, gf_12_14, pf_12_14, gf_12_15, pf_12_15, gf_12_16, pf_12_16, gf_12_17, pf_12_17, gf_12_18, pf_12_18, gf_12_19, pf_12_19, gf_12_20, pf_12_20, o, b, jb, t7, e2]
      rw [if_pos (by omega)]; rfl
    · rw [if_neg q] at jb
      obtain ⟨h2, z, e2, B, A2, s2, f2⟩ := step (T.2.2.1 m) (by rw [if_neg q])
      obtain ⟨h3, y10, e3, B3, A3, s3, f3⟩ := ih (k + 1) h2 (vI 0) (by omega) B A2 s2
      refine ⟨h3, y10, ?_, B3, A3, s3, f2.tr f3⟩
      rw [e_Mod_odds_89, ← e3, ew, if_neg q]
      simp (disch := omega) only [e_Mod_odds_0, e_Mod_odds_1, e_Mod_odds_2, e_Mod_odds_5, e_Mod_odds_5b, e_Mod_odds_8, e_Mod_odds_9, e_Mod_odds_10, e_Mod_odds_12, e_Mod_odds_15, e_Mod_odds_15b, e_Mod_odds_18, e_Mod_odds_19, e_Mod_odds_20, e_Mod_odds_22, e_Mod_odds_25, e_Mod_odds_25b, e_Mod_odds_28, e_Mod_odds_30, e_Mod_odds_31, e_Mod_odds_32, e_Mod_odds_35, e_Mod_odds_35b, e_Mod_odds_38, e_Mod_odds_39, e_Mod_odds_40, e_Mod_odds_41, e_Mod_odds_44, e_Mod_odds_45, e_Mod_odds_47, e_Mod_odds_48, e_Mod_odds_50, e_Mod_odds_51, e_Mod_odds_55, e_Mod_odds_56, e_Mod_odds_59, e_Mod_odds_61, e_Mod_odds_63, e_Mod_odds_64, e_Mod_odds_66, e_Mod_odds_69, e_Mod_odds_72, e_Mod_odds_73, e_Mod_odds_77, e_Mod_odds_78, e_Mod_odds_79, e_Mod_odds_80, e_Mod_odds_83, e_Mod_odds_84, e_Mod_odds_86, e_Mod_odds_87, e_Mod_odds_91, e_Mod_odds_92, e_Mod_odds_95, e_Mod_odds_97, e_Mod_odds_99, e_Mod_odds_100, e_Mod_odds_101, e_Mod_odds_102, e_Mod_odds_103, e_Mod_odds_106, e_Mod_odds_107, e_Mod_odds_110, e_Mod_odds_111, e_Mod_odds_113, e_Mod_odds_115, e_Mod_odds_117, e_Mod_odds_117b, e_Mod_odds_120, e_Mod_odds_121, e_Mod_odds_124, e_Mod_odds_126, e_Mod_odds_127, e_Mod_odds_128, e_Mod_odds_129, e_Mod_odds_131, e_Mod_odds_132, e_Mod_odds_135, e_Mod_odds_137, e_Mod_odds_138, e_Mod_odds_139, e_Mod_odds_141, e_Mod_odds_141b, e_Mod_odds_144, e_Mod_odds_145, e_Mod_odds_148, e_Mod_odds_149, e_Mod_odds_152, e_Mod_odds_154, e_Mod_odds_155, e_Mod_odds_156, e_Mod_odds_157, e_Mod_odds_158, e_Mod_odds_159, e_Mod_odds_162, e_Mod_odds_163, e_Mod_odds_166, e_Mod_odds_171, e_Mod_odds_172, e_Mod_odds_173, e_Mod_odds_176, e_Mod_odds_176b, e_Mod_odds_179, e_Mod_odds_180, e_Mod_odds_183, e_Mod_odds_185, e_Mod_odds_186, e_Mod_odds_188, e_Mod_odds_189, e_Mod_odds_192, e_Mod_odds_195, e_Mod_odds_198, e_Mod_odds_200, e_Mod_odds_202, e_Mod_odds_204, e_Mod_odds_208, e_Mod_odds_211, e_Mod_odds_213, e_Mod_odds_215, e_Mod_odds_216, e_Mod_odds_218, e_Mod_odds_220, e_Mod_odds_222, e_Mod_odds_224, e_Mod_odds_226, e_Mod_odds_229, e_Mod_odds_231, e_Mod_odds_231b, e_Mod_odds_234, e_Mod_odds_236, e_Mod_odds_238, e_Mod_odds_239, e_Mod_odds_242, e_Mod_odds_244, e_Mod_odds_246, e_Mod_odds_247, alk_in, ask_in, blk_in, bsk_in, qlk_in, ack_in, rcv_in, rcA_in, bk_i, bk_l, bk_v, hS_same, hS_ne, hS_hS, hS_2, am_10, am_01, am_00, if_true, if_false, gf_12_0, pf_12_0, gf_12_1, pf_12_1, gf_12_2, pf_12_2, gf_12_3, pf_12_3, gf_12_4, pf_12_4, gf_12_5, pf_12_5, gf_12_6, pf_12_6, gf_12_7, pf_12_7, gf_12_8, pf_12_8, gf_12_9, pf_12_9, gf_12_10, pf_12_10, gf_12_11, pf_12_11, gf_12_12, pf_12_12, gf_12_13, pf_12_13, gf_12_14, pf_12_14, gf_12_15, pf_12_15, gf_12_16, pf_12_16, gf_12_17, pf_12_17, gf_12_18, pf_12_18, gf_12_19, pf_12_19, gf_12_20, pf_12_20, o, b, ea, (ear m hm).2.1, jb, t7, e2]
      rw [if_pos (by omega)]; rfl
theorem lm_gcd {m N : Nat} {x w U L : Int} (hr : w = 0 ∨ w = 1) (hU : 0 ≤ U ∧ U < 2147483648) (hL : 0 ≤ L ∧ L < 2147483648) : ∀ (f : Nat) (a b : Int) (x9 x10 : am_V), (0 ≤ a ∧ a < 2147483648) → (0 ≤ b ∧ b < 2147483648) → 0 < a ∨ 0 < b → gz f a b → gv mMod_odds 206 [vR 120, vI (m : Int), vI x, vI (N : Int), vI w, vI U, vI L, vI a, vI b, x9, x10] [] h = some (some (vI ((if w = 0 then U else L) / gcF f a b)), h) := by
  intro f
  have fin : ∀ (a : Int) (x8 x9 x10 : am_V), (0 < a ∧ a < 2147483648) → gv mMod_odds 229 [vR 120, vI (m : Int), vI x, vI (N : Int), vI w, vI U, vI L, vI a, x8, x9, x10] [] h = some (some (vI ((if w = 0 then U else L) / a)), h) := by
    intro a x8 x9 x10 ha
    rcases hr with z | z <;> subst z
    · simp (disch := omega) only [e_Mod_odds_229, e_Mod_odds_231, e_Mod_odds_231b, e_Mod_odds_234, e_Mod_odds_236, e_Mod_odds_238, e_Mod_odds_239, e_Mod_odds_242, e_Mod_odds_244, e_Mod_odds_246, e_Mod_odds_247, alk_in, ask_in, blk_in, bsk_in, qlk_in, ack_in, rcv_in, rcA_in, bk_i, bk_l, bk_v, hS_same, hS_ne, hS_hS, hS_2, am_10, am_01, am_00, if_true, if_false]
    · simp (disch := omega) only [e_Mod_odds_229, e_Mod_odds_231, e_Mod_odds_231b, e_Mod_odds_234, e_Mod_odds_236, e_Mod_odds_238, e_Mod_odds_239, e_Mod_odds_242, e_Mod_odds_244, e_Mod_odds_246, e_Mod_odds_247, alk_in, ask_in, blk_in, bsk_in, qlk_in, ack_in, rcv_in, rcA_in, bk_i, bk_l, bk_v, hS_same, hS_ne, hS_hS, hS_2, am_10, am_01, am_00, if_true, if_false]
  induction f with
  | zero =>
    intro a b x9 x10 ha hb h1 hz
    have hb0 : b = 0 := hz
    subst hb0
    rw [e_Mod_odds_206]
    simp (disch := omega) only [e_Mod_odds_208]
    rw [if_neg (by omega)]
    exact fin a _ _ _ (by omega)
  | succ f ih =>
    intro a b x9 x10 ha hb h1 hz
    have hz' : b = 0 ∨ gz f b (a % b) := hz
    have ef : gcF (f + 1) a b = if b = 0 then a else gcF f b (a % b) := rfl
    rw [e_Mod_odds_206, ef]
    by_cases q : b = 0
    · rw [if_pos q]
      simp (disch := omega) only [e_Mod_odds_208]
      rw [if_neg (by omega)]
      exact fin a _ _ _ (by omega)
    · rw [if_neg q]
      have r0 := Int.emod_nonneg a q
      have r1 := Int.emod_lt_of_pos a (show 0 < b by omega)
      have e1 := ih b (a % b) (vI (a % b)) x10 hb (by omega) (Or.inl (by omega)) (hz'.resolve_left q)
      rw [← e1]
      simp (disch := omega) only [e_Mod_odds_208, e_Mod_odds_211, e_Mod_odds_213, e_Mod_odds_215, e_Mod_odds_216, e_Mod_odds_218, e_Mod_odds_220, e_Mod_odds_222, e_Mod_odds_224, e_Mod_odds_226]
      rw [if_pos (by omega)]
theorem lm_bel {m N : Nat} {x w U : Int} (hN : N ≤ 6) {x8 x9 x10 : am_V} : ∀ (d k : Nat), k + d = N → gv mMod_odds 53 [vR 120, vI (m : Int), vI x, vI (N : Int), vI w, vI U, vI (pwr 10 k), vI (k : Int), x8, x9, x10] [] h = gv mMod_odds 75 [vR 120, vI (m : Int), vI x, vI (N : Int), vI w, vI U, vI (pwr 10 N), vI 0, x8, x9, x10] [] h := by
  intro d
  induction d with
  | zero =>
    intro k hk
    have : k = N := by omega
    subst this
    rw [e_Mod_odds_53]
    simp (disch := omega) only [e_Mod_odds_0, e_Mod_odds_1, e_Mod_odds_2, e_Mod_odds_5, e_Mod_odds_5b, e_Mod_odds_8, e_Mod_odds_9, e_Mod_odds_10, e_Mod_odds_12, e_Mod_odds_15, e_Mod_odds_15b, e_Mod_odds_18, e_Mod_odds_19, e_Mod_odds_20, e_Mod_odds_22, e_Mod_odds_25, e_Mod_odds_25b, e_Mod_odds_28, e_Mod_odds_30, e_Mod_odds_31, e_Mod_odds_32, e_Mod_odds_35, e_Mod_odds_35b, e_Mod_odds_38, e_Mod_odds_39, e_Mod_odds_40, e_Mod_odds_41, e_Mod_odds_44, e_Mod_odds_45, e_Mod_odds_47, e_Mod_odds_48, e_Mod_odds_50, e_Mod_odds_51, e_Mod_odds_55, e_Mod_odds_56, e_Mod_odds_61, e_Mod_odds_63, e_Mod_odds_64, e_Mod_odds_66, e_Mod_odds_69, e_Mod_odds_72, e_Mod_odds_73, e_Mod_odds_77, e_Mod_odds_78, e_Mod_odds_79, e_Mod_odds_80, e_Mod_odds_83, e_Mod_odds_84, e_Mod_odds_86, e_Mod_odds_87, e_Mod_odds_91, e_Mod_odds_92, e_Mod_odds_95, e_Mod_odds_97, e_Mod_odds_99, e_Mod_odds_100, e_Mod_odds_101, e_Mod_odds_102, e_Mod_odds_103, e_Mod_odds_106, e_Mod_odds_107, e_Mod_odds_110, e_Mod_odds_111, e_Mod_odds_113, e_Mod_odds_115, e_Mod_odds_117, e_Mod_odds_117b, e_Mod_odds_120, e_Mod_odds_121, e_Mod_odds_124, e_Mod_odds_126, e_Mod_odds_127, e_Mod_odds_128, e_Mod_odds_129, e_Mod_odds_131, e_Mod_odds_132, e_Mod_odds_135, e_Mod_odds_137, e_Mod_odds_138, e_Mod_odds_139, e_Mod_odds_141, e_Mod_odds_141b, e_Mod_odds_144, e_Mod_odds_145, e_Mod_odds_148, e_Mod_odds_149, e_Mod_odds_152, e_Mod_odds_154, e_Mod_odds_155, e_Mod_odds_156, e_Mod_odds_157, e_Mod_odds_158, e_Mod_odds_159, e_Mod_odds_162, e_Mod_odds_163, e_Mod_odds_166, e_Mod_odds_169, e_Mod_odds_171, e_Mod_odds_172, e_Mod_odds_173, e_Mod_odds_176, e_Mod_odds_176b, e_Mod_odds_179, e_Mod_odds_180, e_Mod_odds_183, e_Mod_odds_185, e_Mod_odds_186, e_Mod_odds_188, e_Mod_odds_189, e_Mod_odds_192, e_Mod_odds_195, e_Mod_odds_198, e_Mod_odds_200, e_Mod_odds_202, e_Mod_odds_204, e_Mod_odds_208, e_Mod_odds_211, e_Mod_odds_213, e_Mod_odds_215, e_Mod_odds_216, e_Mod_odds_218, e_Mod_odds_220, e_Mod_odds_222, e_Mod_odds_224, e_Mod_odds_226, e_Mod_odds_229, e_Mod_odds_231, e_Mod_odds_231b, e_Mod_odds_234, e_Mod_odds_236, e_Mod_odds_238, e_Mod_odds_239, e_Mod_odds_242, e_Mod_odds_244, e_Mod_odds_246, e_Mod_odds_247]
    rw [if_neg (by omega)]
  | succ d ih =>
    intro k hk
    have e1 := ih (k + 1) (by omega)
    rw [e_Mod_odds_53, ← e1]
    simp (disch := omega) only [e_Mod_odds_0, e_Mod_odds_1, e_Mod_odds_2, e_Mod_odds_5, e_Mod_odds_5b, e_Mod_odds_8, e_Mod_odds_9, e_Mod_odds_10, e_Mod_odds_12, e_Mod_odds_15, e_Mod_odds_15b, e_Mod_odds_18, e_Mod_odds_19, e_Mod_odds_20, e_Mod_odds_22, e_Mod_odds_25, e_Mod_odds_25b, e_Mod_odds_28, e_Mod_odds_30, e_Mod_odds_31, e_Mod_odds_32, e_Mod_odds_35, e_Mod_odds_35b, e_Mod_odds_38, e_Mod_odds_39, e_Mod_odds_40, e_Mod_odds_41, e_Mod_odds_44, e_Mod_odds_45, e_Mod_odds_47, e_Mod_odds_48, e_Mod_odds_50, e_Mod_odds_51, e_Mod_odds_55, e_Mod_odds_56, e_Mod_odds_59, e_Mod_odds_61, e_Mod_odds_63, e_Mod_odds_64, e_Mod_odds_66, e_Mod_odds_69, e_Mod_odds_73, e_Mod_odds_77, e_Mod_odds_78, e_Mod_odds_79, e_Mod_odds_80, e_Mod_odds_83, e_Mod_odds_84, e_Mod_odds_86, e_Mod_odds_87, e_Mod_odds_91, e_Mod_odds_92, e_Mod_odds_95, e_Mod_odds_97, e_Mod_odds_99, e_Mod_odds_100, e_Mod_odds_101, e_Mod_odds_102, e_Mod_odds_103, e_Mod_odds_106, e_Mod_odds_107, e_Mod_odds_110, e_Mod_odds_111, e_Mod_odds_113, e_Mod_odds_115, e_Mod_odds_117, e_Mod_odds_117b, e_Mod_odds_120, e_Mod_odds_121, e_Mod_odds_124, e_Mod_odds_126, e_Mod_odds_127, e_Mod_odds_128, e_Mod_odds_129, e_Mod_odds_131, e_Mod_odds_132, e_Mod_odds_135, e_Mod_odds_137, e_Mod_odds_138, e_Mod_odds_139, e_Mod_odds_141, e_Mod_odds_141b, e_Mod_odds_144, e_Mod_odds_145, e_Mod_odds_148, e_Mod_odds_149, e_Mod_odds_152, e_Mod_odds_154, e_Mod_odds_155, e_Mod_odds_156, e_Mod_odds_157, e_Mod_odds_158, e_Mod_odds_159, e_Mod_odds_162, e_Mod_odds_163, e_Mod_odds_166, e_Mod_odds_169, e_Mod_odds_171, e_Mod_odds_172, e_Mod_odds_173, e_Mod_odds_176, e_Mod_odds_176b, e_Mod_odds_179, e_Mod_odds_180, e_Mod_odds_183, e_Mod_odds_185, e_Mod_odds_186, e_Mod_odds_188, e_Mod_odds_189, e_Mod_odds_192, e_Mod_odds_195, e_Mod_odds_198, e_Mod_odds_200, e_Mod_odds_202, e_Mod_odds_204, e_Mod_odds_208, e_Mod_odds_211, e_Mod_odds_213, e_Mod_odds_215, e_Mod_odds_216, e_Mod_odds_218, e_Mod_odds_220, e_Mod_odds_222, e_Mod_odds_224, e_Mod_odds_226, e_Mod_odds_229, e_Mod_odds_231, e_Mod_odds_231b, e_Mod_odds_234, e_Mod_odds_236, e_Mod_odds_238, e_Mod_odds_239, e_Mod_odds_242, e_Mod_odds_244, e_Mod_odds_246, e_Mod_odds_247]
    rw [if_pos (by omega)]; rfl
theorem lm_odds {m N : Nat} {x w : Int} (hx : 0 ≤ x ∧ x ≤ 10) (hr : w = 0 ∨ w = 1) (hw : WT G T) (hm : m < G.1) (hN : N ≤ 6) : ∀ (d k : Nat) (h : am_H) (x8 x9 x10 : am_V), k + d = 2 ^ N → MSc h G T → ∃ h', gv mMod_odds 75 [vR 120, vI (m : Int), vI x, vI (N : Int), vI w, vI (upS G T m x N k), vI (pwr 10 N), vI (k : Int), x8, x9, x10] [] h = some (some (vI ((if w = 0 then upS G T m x N (2 ^ N) else pwr 10 N) / gcF 64 (upS G T m x N (2 ^ N)) (pwr 10 N))), h') ∧ MSc h' G T ∧ FE [124, 129] h h' := by
  have hp : 2 ^ N ≤ 64 := Nat.pow_le_pow_right (by decide) hN
  have js := jshl_s N (by omega)
  have p10 := pwr_10 hN
  have hn := hw.1
  intro d
  induction d with
  | zero =>
    intro k h x8 x9 x10 hk S
    have : k = 2 ^ N := by omega
    subst this
    refine ⟨h, ?_, S, FE.rf⟩
    have ub := upS_b G T m hx hN (2 ^ N)
    have e1 := lm_gcd (h := h) (m := m) (N := N) (x := x) hr (U := upS G T m x N (2 ^ N)) (L := pwr 10 N) (by omega) (by omega) 64 (upS G T m x N (2 ^ N)) (pwr 10 N) x9 x10 (by omega) (by omega) (by omega) (gz_e 32 _ _ (by omega) (by omega) (by omega))
    rw [e_Mod_odds_75]
    simp (disch := omega) only [e_Mod_odds_0, e_Mod_odds_1, e_Mod_odds_2, e_Mod_odds_5, e_Mod_odds_5b, e_Mod_odds_8, e_Mod_odds_9, e_Mod_odds_10, e_Mod_odds_12, e_Mod_odds_15, e_Mod_odds_15b, e_Mod_odds_18, e_Mod_odds_19, e_Mod_odds_20, e_Mod_odds_22, e_Mod_odds_25, e_Mod_odds_25b, e_Mod_odds_28, e_Mod_odds_30, e_Mod_odds_31, e_Mod_odds_32, e_Mod_odds_35, e_Mod_odds_35b, e_Mod_odds_38, e_Mod_odds_39, e_Mod_odds_40, e_Mod_odds_41, e_Mod_odds_44, e_Mod_odds_45, e_Mod_odds_47, e_Mod_odds_48, e_Mod_odds_50, e_Mod_odds_51, e_Mod_odds_55, e_Mod_odds_56, e_Mod_odds_59, e_Mod_odds_61, e_Mod_odds_63, e_Mod_odds_64, e_Mod_odds_66, e_Mod_odds_69, e_Mod_odds_72, e_Mod_odds_73, e_Mod_odds_77, e_Mod_odds_78, e_Mod_odds_79, e_Mod_odds_80, e_Mod_odds_84, e_Mod_odds_86, e_Mod_odds_87, e_Mod_odds_91, e_Mod_odds_92, e_Mod_odds_95, e_Mod_odds_97, e_Mod_odds_99, e_Mod_odds_100, e_Mod_odds_101, e_Mod_odds_102, e_Mod_odds_103, e_Mod_odds_106, e_Mod_odds_107, e_Mod_odds_110, e_Mod_odds_111, e_Mod_odds_113, e_Mod_odds_115, e_Mod_odds_117, e_Mod_odds_117b, e_Mod_odds_120, e_Mod_odds_121, e_Mod_odds_124, e_Mod_odds_126, e_Mod_odds_127, e_Mod_odds_128, e_Mod_odds_129, e_Mod_odds_131, e_Mod_odds_132, e_Mod_odds_135, e_Mod_odds_137, e_Mod_odds_138, e_Mod_odds_139, e_Mod_odds_141, e_Mod_odds_141b, e_Mod_odds_144, e_Mod_odds_145, e_Mod_odds_148, e_Mod_odds_149, e_Mod_odds_152, e_Mod_odds_154, e_Mod_odds_155, e_Mod_odds_156, e_Mod_odds_157, e_Mod_odds_158, e_Mod_odds_159, e_Mod_odds_162, e_Mod_odds_163, e_Mod_odds_166, e_Mod_odds_169, e_Mod_odds_171, e_Mod_odds_172, e_Mod_odds_173, e_Mod_odds_176, e_Mod_odds_176b, e_Mod_odds_179, e_Mod_odds_180, e_Mod_odds_183, e_Mod_odds_185, e_Mod_odds_186, e_Mod_odds_188, e_Mod_odds_189, e_Mod_odds_192, e_Mod_odds_195, e_Mod_odds_198, e_Mod_odds_200, e_Mod_odds_202, e_Mod_odds_204, e_Mod_odds_208, e_Mod_odds_211, e_Mod_odds_213, e_Mod_odds_215, e_Mod_odds_216, e_Mod_odds_218, e_Mod_odds_220, e_Mod_odds_222, e_Mod_odds_224, e_Mod_odds_226, e_Mod_odds_229, e_Mod_odds_231, e_Mod_odds_231b, e_Mod_odds_234, e_Mod_odds_236, e_Mod_odds_238, e_Mod_odds_239, e_Mod_odds_242, e_Mod_odds_244, e_Mod_odds_246, e_Mod_odds_247, alk_in, ask_in, blk_in, bsk_in, qlk_in, ack_in, rcv_in, rcA_in, bk_i, bk_l, bk_v, hS_same, hS_ne, hS_hS, hS_2, am_10, am_01, am_00, if_true, if_false, js]
    rw [if_neg (by omega)]
    exact e1
  | succ d ih =>
    intro k h x8 x9 x10 hk S
    obtain ⟨R, A, s1⟩ := S
    obtain ⟨h1, y10, e1, B1, A1, s2, f1⟩ := lm_in (x := x) (w := w) (U := upS G T m x N k) (L := pwr 10 N) hw hm hN (show k < 64 by omega) N 0 h x10 (by omega) ⟨_, _, R, hw, fun j hj q => rfl⟩ A s1
    obtain ⟨t1, so1, B2, B3, B4⟩ := B1
    have c1 := m_isIn B2 B3 hm
    obtain ⟨h2, e2, R3, A3, f2⟩ := m_lets B2 hn A1
    obtain ⟨h3, e3, S3, f3⟩ := ih (k + 1) h2 (vI (wtM x k N)) (vI (N : Int)) y10 (by omega) ⟨R3, A3, s2.fe f2 (by decide)⟩
    refine ⟨h3, ?_, S3, (f1.tr (f2.wd (by decide))).tr f3⟩
    obtain ⟨z0, z2, z7, z11, z12, z13, z14, z15, T', F, o, -⟩ := B2
    unfold MoA at o
    have eu : upS G T m x N (k + 1) = upS G T m x N k + (if (fbt G T m k N).1 m = -9 then wtM x k N else 0) := rfl
    rw [e_Mod_odds_75, ← e3, eu]
    simp (disch := omega) only [e_Mod_odds_0, e_Mod_odds_1, e_Mod_odds_2, e_Mod_odds_5, e_Mod_odds_5b, e_Mod_odds_8, e_Mod_odds_9, e_Mod_odds_10, e_Mod_odds_12, e_Mod_odds_15, e_Mod_odds_15b, e_Mod_odds_18, e_Mod_odds_19, e_Mod_odds_20, e_Mod_odds_22, e_Mod_odds_25, e_Mod_odds_25b, e_Mod_odds_28, e_Mod_odds_30, e_Mod_odds_31, e_Mod_odds_32, e_Mod_odds_35, e_Mod_odds_35b, e_Mod_odds_38, e_Mod_odds_39, e_Mod_odds_40, e_Mod_odds_41, e_Mod_odds_44, e_Mod_odds_45, e_Mod_odds_47, e_Mod_odds_48, e_Mod_odds_50, e_Mod_odds_51, e_Mod_odds_55, e_Mod_odds_56, e_Mod_odds_59, e_Mod_odds_61, e_Mod_odds_63, e_Mod_odds_64, e_Mod_odds_66, e_Mod_odds_69, e_Mod_odds_72, e_Mod_odds_73, e_Mod_odds_77, e_Mod_odds_78, e_Mod_odds_79, e_Mod_odds_80, e_Mod_odds_83, e_Mod_odds_84, e_Mod_odds_86, e_Mod_odds_87, e_Mod_odds_91, e_Mod_odds_92, e_Mod_odds_95, e_Mod_odds_97, e_Mod_odds_99, e_Mod_odds_100, e_Mod_odds_101, e_Mod_odds_102, e_Mod_odds_103, e_Mod_odds_106, e_Mod_odds_107, e_Mod_odds_110, e_Mod_odds_111, e_Mod_odds_113, e_Mod_odds_115, e_Mod_odds_117, e_Mod_odds_117b, e_Mod_odds_120, e_Mod_odds_121, e_Mod_odds_124, e_Mod_odds_126, e_Mod_odds_127, e_Mod_odds_128, e_Mod_odds_129, e_Mod_odds_131, e_Mod_odds_132, e_Mod_odds_135, e_Mod_odds_137, e_Mod_odds_138, e_Mod_odds_139, e_Mod_odds_141, e_Mod_odds_141b, e_Mod_odds_144, e_Mod_odds_145, e_Mod_odds_148, e_Mod_odds_149, e_Mod_odds_152, e_Mod_odds_154, e_Mod_odds_155, e_Mod_odds_156, e_Mod_odds_157, e_Mod_odds_158, e_Mod_odds_159, e_Mod_odds_162, e_Mod_odds_163, e_Mod_odds_166, e_Mod_odds_169, e_Mod_odds_171, e_Mod_odds_172, e_Mod_odds_173, e_Mod_odds_176, e_Mod_odds_176b, e_Mod_odds_179, e_Mod_odds_180, e_Mod_odds_183, e_Mod_odds_185, e_Mod_odds_186, e_Mod_odds_188, e_Mod_odds_189, e_Mod_odds_192, e_Mod_odds_195, e_Mod_odds_200, e_Mod_odds_202, e_Mod_odds_204, e_Mod_odds_208, e_Mod_odds_211, e_Mod_odds_213, e_Mod_odds_215, e_Mod_odds_216, e_Mod_odds_218, e_Mod_odds_220, e_Mod_odds_222, e_Mod_odds_224, e_Mod_odds_226, e_Mod_odds_229, e_Mod_odds_231, e_Mod_odds_231b, e_Mod_odds_234, e_Mod_odds_236, e_Mod_odds_238, e_Mod_odds_239, e_Mod_odds_242, e_Mod_odds_244, e_Mod_odds_246, e_Mod_odds_247, alk_in, ask_in, blk_in, bsk_in, qlk_in, ack_in, rcv_in, rcA_in, bk_i, bk_l, bk_v, hS_same, hS_ne, hS_hS, hS_2, am_10, am_01, am_00, if_true, if_false, js]
    rw [if_pos (by omega)]
    refine Eq.trans e1 ?_
    by_cases y : (fbt G T m k N).1 m = -9
    · rw [if_pos y] at c1 ⊢
      simp (disch := omega) only [e_Mod_odds_0, e_Mod_odds_1, e_Mod_odds_2, e_Mod_odds_5, e_Mod_odds_5b, e_Mod_odds_8, e_Mod_odds_9, e_Mod_odds_10, e_Mod_odds_12, e_Mod_odds_15, e_Mod_odds_15b, e_Mod_odds_18, e_Mod_odds_19, e_Mod_odds_20, e_Mod_odds_22, e_Mod_odds_25, e_Mod_odds_25b, e_Mod_odds_28, e_Mod_odds_30, e_Mod_odds_31, e_Mod_odds_32, e_Mod_odds_35, e_Mod_odds_35b, e_Mod_odds_38, e_Mod_odds_39, e_Mod_odds_40, e_Mod_odds_41, e_Mod_odds_44, e_Mod_odds_45, e_Mod_odds_47, e_Mod_odds_48, e_Mod_odds_50, e_Mod_odds_51, e_Mod_odds_55, e_Mod_odds_56, e_Mod_odds_59, e_Mod_odds_61, e_Mod_odds_63, e_Mod_odds_64, e_Mod_odds_66, e_Mod_odds_69, e_Mod_odds_72, e_Mod_odds_73, e_Mod_odds_77, e_Mod_odds_78, e_Mod_odds_79, e_Mod_odds_80, e_Mod_odds_83, e_Mod_odds_84, e_Mod_odds_86, e_Mod_odds_87, e_Mod_odds_91, e_Mod_odds_92, e_Mod_odds_95, e_Mod_odds_97, e_Mod_odds_99, e_Mod_odds_100, e_Mod_odds_101, e_Mod_odds_102, e_Mod_odds_103, e_Mod_odds_106, e_Mod_odds_107, e_Mod_odds_110, e_Mod_odds_111, e_Mod_odds_113, e_Mod_odds_115, e_Mod_odds_117, e_Mod_odds_117b, e_Mod_odds_120, e_Mod_odds_121, e_Mod_odds_124, e_Mod_odds_126, e_Mod_odds_127, e_Mod_odds_128, e_Mod_odds_129, e_Mod_odds_131, e_Mod_odds_132, e_Mod_odds_135, e_Mod_odds_137, e_Mod_odds_138, e_Mod_odds_139, e_Mod_odds_141, e_Mod_odds_141b, e_Mod_odds_144, e_Mod_odds_145, e_Mod_odds_148, e_Mod_odds_149, e_Mod_odds_152, e_Mod_odds_154, e_Mod_odds_155, e_Mod_odds_156, e_Mod_odds_157, e_Mod_odds_158, e_Mod_odds_159, e_Mod_odds_162, e_Mod_odds_163, e_Mod_odds_166, e_Mod_odds_169, e_Mod_odds_171, e_Mod_odds_172, e_Mod_odds_173, e_Mod_odds_176, e_Mod_odds_176b, e_Mod_odds_179, e_Mod_odds_180, e_Mod_odds_183, e_Mod_odds_185, e_Mod_odds_186, e_Mod_odds_188, e_Mod_odds_189, e_Mod_odds_192, e_Mod_odds_195, e_Mod_odds_200, e_Mod_odds_202, e_Mod_odds_204, e_Mod_odds_208, e_Mod_odds_211, e_Mod_odds_213, e_Mod_odds_215, e_Mod_odds_216, e_Mod_odds_218, e_Mod_odds_220, e_Mod_odds_222, e_Mod_odds_224, e_Mod_odds_226, e_Mod_odds_229, e_Mod_odds_231, e_Mod_odds_231b, e_Mod_odds_234, e_Mod_odds_236, e_Mod_odds_238, e_Mod_odds_239, e_Mod_odds_242, e_Mod_odds_244, e_Mod_odds_246, e_Mod_odds_247, alk_in, ask_in, blk_in, bsk_in, qlk_in, ack_in, rcv_in, rcA_in, bk_i, bk_l, bk_v, hS_same, hS_ne, hS_hS, hS_2, am_10, am_01, am_00, if_true, if_false, gf_12_0, pf_12_0, gf_12_1, pf_12_1, gf_12_2, pf_12_2, gf_12_3, pf_12_3, gf_12_4, pf_12_4, gf_12_5, pf_12_5, gf_12_6, pf_12_6, gf_12_7, pf_12_7, gf_12_8, pf_12_8, gf_12_9, pf_12_9, gf_12_10, pf_12_10, gf_12_11, pf_12_11, gf_12_12, pf_12_12, gf_12_13, pf_12_13, gf_12_14, pf_12_14, gf_12_15, pf_12_15, gf_12_16, pf_12_16, gf_12_17, pf_12_17, gf_12_18, pf_12_18, gf_12_19, pf_12_19, gf_12_20, pf_12_20, o, c1, e2]
      rfl
    · rw [if_neg y] at c1 ⊢
      simp (disch := omega) only [e_Mod_odds_0, e_Mod_odds_1, e_Mod_odds_2, e_Mod_odds_5, e_Mod_odds_5b, e_Mod_odds_8, e_Mod_odds_9, e_Mod_odds_10, e_Mod_odds_12, e_Mod_odds_15, e_Mod_odds_15b, e_Mod_odds_18, e_Mod_odds_19, e_Mod_odds_20, e_Mod_odds_22, e_Mod_odds_25, e_Mod_odds_25b, e_Mod_odds_28, e_Mod_odds_30, e_Mod_odds_31, e_Mod_odds_32, e_Mod_odds_35, e_Mod_odds_35b, e_Mod_odds_38, e_Mod_odds_39, e_Mod_odds_40, e_Mod_odds_41, e_Mod_odds_44, e_Mod_odds_45, e_Mod_odds_47, e_Mod_odds_48, e_Mod_odds_50, e_Mod_odds_51, e_Mod_odds_55, e_Mod_odds_56, e_Mod_odds_59, e_Mod_odds_61, e_Mod_odds_63, e_Mod_odds_64, e_Mod_odds_66, e_Mod_odds_69, e_Mod_odds_72, e_Mod_odds_73, e_Mod_odds_77, e_Mod_odds_78, e_Mod_odds_79, e_Mod_odds_80, e_Mod_odds_83, e_Mod_odds_84, e_Mod_odds_86, e_Mod_odds_87, e_Mod_odds_91, e_Mod_odds_92, e_Mod_odds_95, e_Mod_odds_97, e_Mod_odds_99, e_Mod_odds_100, e_Mod_odds_101, e_Mod_odds_102, e_Mod_odds_103, e_Mod_odds_106, e_Mod_odds_107, e_Mod_odds_110, e_Mod_odds_111, e_Mod_odds_113, e_Mod_odds_115, e_Mod_odds_117, e_Mod_odds_117b, e_Mod_odds_120, e_Mod_odds_121, e_Mod_odds_124, e_Mod_odds_126, e_Mod_odds_127, e_Mod_odds_128, e_Mod_odds_129, e_Mod_odds_131, e_Mod_odds_132, e_Mod_odds_135, e_Mod_odds_137, e_Mod_odds_138, e_Mod_odds_139, e_Mod_odds_141, e_Mod_odds_141b, e_Mod_odds_144, e_Mod_odds_145, e_Mod_odds_148, e_Mod_odds_149, e_Mod_odds_152, e_Mod_odds_154, e_Mod_odds_155, e_Mod_odds_156, e_Mod_odds_157, e_Mod_odds_158, e_Mod_odds_159, e_Mod_odds_162, e_Mod_odds_163, e_Mod_odds_166, e_Mod_odds_169, e_Mod_odds_171, e_Mod_odds_172, e_Mod_odds_173, e_Mod_odds_176, e_Mod_odds_176b, e_Mod_odds_179, e_Mod_odds_180, e_Mod_odds_183, e_Mod_odds_185, e_Mod_odds_186, e_Mod_odds_188, e_Mod_odds_189, e_Mod_odds_192, e_Mod_odds_195, e_Mod_odds_200, e_Mod_odds_202, e_Mod_odds_204, e_Mod_odds_208, e_Mod_odds_211, e_Mod_odds_213, e_Mod_odds_215, e_Mod_odds_216, e_Mod_odds_218, e_Mod_odds_220, e_Mod_odds_222, e_Mod_odds_224, e_Mod_odds_226, e_Mod_odds_229, e_Mod_odds_231, e_Mod_odds_231b, e_Mod_odds_234, e_Mod_odds_236, e_Mod_odds_238, e_Mod_odds_239, e_Mod_odds_242, e_Mod_odds_244, e_Mod_odds_246, e_Mod_odds_247, alk_in, ask_in, blk_in, bsk_in, qlk_in, ack_in, rcv_in, rcA_in, bk_i, bk_l, bk_v, hS_same, hS_ne, hS_hS, hS_2, am_10, am_01, am_00, if_true, if_false, gf_12_0, pf_12_0, gf_12_1, pf_12_1, gf_12_2, pf_12_2, gf_12_3, pf_12_3, gf_12_4, pf_12_4, gf_12_5, pf_12_5, gf_12_6, pf_12_6, gf_12_7, pf_12_7, gf_12_8, pf_12_8, gf_12_9, pf_12_9, gf_12_10, pf_12_10, gf_12_11, pf_12_11, gf_12_12, pf_12_12, gf_12_13, pf_12_13, gf_12_14, pf_12_14, gf_12_15, pf_12_15, gf_12_16, pf_12_16, gf_12_17, pf_12_17, gf_12_18, pf_12_18, gf_12_19, pf_12_19, gf_12_20, pf_12_20, o, c1, e2]
      rfl
theorem q_odds (S : RM h G T) (hw : WT G T) (s1 : Sh h 129 6) (s2 : Sh h 130 19) {m x n w : Int} (hm : rg32 m) (hx : rg32 x) (hn : rg32 n) (hr : rg32 w) : ∃ h', ev mMod_odds [vR 120, vI m, vI x, vI n, vI w] h = some (some (vI (aOdds G T m x n w)), h') ∧ RM h' G T ∧ Sh h' 129 6 ∧ Sh h' 130 19 ∧ FE [124, 129, 130] h h' := by
  unfold rg32 at hm hx hn hr
  have S' : RepM h G.1 G.2.1 G.2.2.1 T.1 T.2.1 T.2.2.1 G.2.2.2 T.2.2.2 := S
  have c1 := m_isMan S' hw.1 hm
  have c2 := c_min (h := h) (v := x) (x := 0) (y := 10) hx (by omega) (by omega)
  have c3 := c_min (h := h) (v := n) (x := 0) (y := 6) hn (by omega) (by omega)
  have c4 := c_min (h := h) (v := w) (x := 0) (y := 1) hr (by omega) (by omega)
  have S0 := S
  obtain ⟨x0, x2, x7, x11, x12, x13, x14, x15, T', F, o, -⟩ := S0
  unfold MoA at o
  unfold aOdds
  by_cases q1 : 0 ≤ m ∧ m < G.1
  · rw [if_pos q1] at c1
    by_cases q2 : 0 ≤ x ∧ x ≤ 10
    · rw [if_pos q2] at c2
      by_cases q3 : 0 ≤ n ∧ n ≤ 6
      · rw [if_pos q3] at c3
        by_cases q4 : w = 0 ∨ w = 1
        · rw [if_pos (by omega)] at c4
          rw [if_pos ⟨q1, q2, q3, q4⟩]
          obtain ⟨m, rfl⟩ : ∃ k : Nat, m = (k : Int) := ⟨m.toNat, by omega⟩
          obtain ⟨n, rfl⟩ : ∃ k : Nat, n = (k : Int) := ⟨n.toNat, by omega⟩
          rw [Int.toNat_natCast, Int.toNat_natCast]
          obtain ⟨h1, e1, R1, A1, f1⟩ := m_holds S' hw.1 s2
          have e2 := lm_bel (h := h1) (m := m) (x := x) (w := w) (U := 0) (x8 := vU) (x9 := vU) (x10 := vU) (show n ≤ 6 by omega) n 0 (by omega)
          obtain ⟨h3, e3, M3, f3⟩ := lm_odds q2 q4 hw (show m < G.1 by omega) (show n ≤ 6 by omega) (2 ^ n) 0 h1 vU vU vU (by omega) ⟨R1, A1, s1.fe f1 (by decide)⟩
          refine ⟨h3, ?_, M3.1, M3.2.2, M3.2.1.sh, (f1.wd (by decide)).tr (f3.wd (by decide))⟩
          rw [ev_Mod_odds]
          simp (disch := omega) only [e_Mod_odds_0, e_Mod_odds_1, e_Mod_odds_2, e_Mod_odds_5, e_Mod_odds_5b, e_Mod_odds_8, e_Mod_odds_9, e_Mod_odds_10, e_Mod_odds_12, e_Mod_odds_15, e_Mod_odds_15b, e_Mod_odds_18, e_Mod_odds_19, e_Mod_odds_20, e_Mod_odds_22, e_Mod_odds_25, e_Mod_odds_25b, e_Mod_odds_28, e_Mod_odds_30, e_Mod_odds_31, e_Mod_odds_32, e_Mod_odds_35, e_Mod_odds_35b, e_Mod_odds_38, e_Mod_odds_39, e_Mod_odds_40, e_Mod_odds_41, e_Mod_odds_44, e_Mod_odds_45, e_Mod_odds_47, e_Mod_odds_48, e_Mod_odds_50, e_Mod_odds_51, alk_in, ask_in, blk_in, bsk_in, qlk_in, ack_in, rcv_in, rcA_in, bk_i, bk_l, bk_v, hS_same, hS_ne, hS_hS, hS_2, am_10, am_01, am_00, if_true, if_false, gf_12_0, pf_12_0, gf_12_1, pf_12_1, gf_12_2, pf_12_2, gf_12_3, pf_12_3, gf_12_4, pf_12_4, gf_12_5, pf_12_5, gf_12_6, pf_12_6, gf_12_7, pf_12_7, gf_12_8, pf_12_8, gf_12_9, pf_12_9, gf_12_10, pf_12_10, gf_12_11, pf_12_11, gf_12_12, pf_12_12, gf_12_13, pf_12_13, gf_12_14, pf_12_14, gf_12_15, pf_12_15, gf_12_16, pf_12_16, gf_12_17, pf_12_17, gf_12_18, pf_12_18, gf_12_19, pf_12_19, gf_12_20, pf_12_20, o, c1, c2, c3, c4, e1]
          exact e2.trans e3
        · rw [if_neg (by omega)] at c4
          rw [if_neg (fun z => q4 z.2.2.2)]
          refine ⟨h, ?_, S, s1, s2, FE.rf⟩
          rw [ev_Mod_odds]
          simp (disch := omega) only [e_Mod_odds_0, e_Mod_odds_1, e_Mod_odds_2, e_Mod_odds_5, e_Mod_odds_5b, e_Mod_odds_8, e_Mod_odds_9, e_Mod_odds_10, e_Mod_odds_12, e_Mod_odds_15, e_Mod_odds_15b, e_Mod_odds_18, e_Mod_odds_19, e_Mod_odds_20, e_Mod_odds_22, e_Mod_odds_25, e_Mod_odds_25b, e_Mod_odds_28, e_Mod_odds_30, e_Mod_odds_31, e_Mod_odds_32, e_Mod_odds_35, e_Mod_odds_35b, e_Mod_odds_38, e_Mod_odds_39, alk_in, ask_in, blk_in, bsk_in, qlk_in, ack_in, rcv_in, rcA_in, bk_i, bk_l, bk_v, hS_same, hS_ne, hS_hS, hS_2, am_10, am_01, am_00, if_true, if_false, gf_12_0, pf_12_0, gf_12_1, pf_12_1, gf_12_2, pf_12_2, gf_12_3, pf_12_3, gf_12_4, pf_12_4, gf_12_5, pf_12_5, gf_12_6, pf_12_6, gf_12_7, pf_12_7, gf_12_8, pf_12_8, gf_12_9, pf_12_9, gf_12_10, pf_12_10, gf_12_11, pf_12_11, gf_12_12, pf_12_12, gf_12_13, pf_12_13, gf_12_14, pf_12_14, gf_12_15, pf_12_15, gf_12_16, pf_12_16, gf_12_17, pf_12_17, gf_12_18, pf_12_18, gf_12_19, pf_12_19, gf_12_20, pf_12_20, o, c1, c2, c3, c4]
      · rw [if_neg q3] at c3
        rw [if_neg (fun z => q3 z.2.2.1)]
        refine ⟨h, ?_, S, s1, s2, FE.rf⟩
        rw [ev_Mod_odds]
        simp (disch := omega) only [e_Mod_odds_0, e_Mod_odds_1, e_Mod_odds_2, e_Mod_odds_5, e_Mod_odds_5b, e_Mod_odds_8, e_Mod_odds_9, e_Mod_odds_10, e_Mod_odds_12, e_Mod_odds_15, e_Mod_odds_15b, e_Mod_odds_18, e_Mod_odds_19, e_Mod_odds_20, e_Mod_odds_22, e_Mod_odds_25, e_Mod_odds_25b, e_Mod_odds_28, e_Mod_odds_30, e_Mod_odds_31, e_Mod_odds_32, e_Mod_odds_35, e_Mod_odds_35b, e_Mod_odds_38, e_Mod_odds_39, alk_in, ask_in, blk_in, bsk_in, qlk_in, ack_in, rcv_in, rcA_in, bk_i, bk_l, bk_v, hS_same, hS_ne, hS_hS, hS_2, am_10, am_01, am_00, if_true, if_false, gf_12_0, pf_12_0, gf_12_1, pf_12_1, gf_12_2, pf_12_2, gf_12_3, pf_12_3, gf_12_4, pf_12_4, gf_12_5, pf_12_5, gf_12_6, pf_12_6, gf_12_7, pf_12_7, gf_12_8, pf_12_8, gf_12_9, pf_12_9, gf_12_10, pf_12_10, gf_12_11, pf_12_11, gf_12_12, pf_12_12, gf_12_13, pf_12_13, gf_12_14, pf_12_14, gf_12_15, pf_12_15, gf_12_16, pf_12_16, gf_12_17, pf_12_17, gf_12_18, pf_12_18, gf_12_19, pf_12_19, gf_12_20, pf_12_20, o, c1, c2, c3]
    · rw [if_neg q2] at c2
      rw [if_neg (fun z => q2 z.2.1)]
      refine ⟨h, ?_, S, s1, s2, FE.rf⟩
      rw [ev_Mod_odds]
      simp (disch := omega) only [e_Mod_odds_0, e_Mod_odds_1, e_Mod_odds_2, e_Mod_odds_5, e_Mod_odds_5b, e_Mod_odds_8, e_Mod_odds_9, e_Mod_odds_10, e_Mod_odds_12, e_Mod_odds_15, e_Mod_odds_15b, e_Mod_odds_18, e_Mod_odds_19, e_Mod_odds_20, e_Mod_odds_22, e_Mod_odds_25, e_Mod_odds_25b, e_Mod_odds_28, e_Mod_odds_30, e_Mod_odds_31, e_Mod_odds_32, e_Mod_odds_35, e_Mod_odds_35b, e_Mod_odds_38, e_Mod_odds_39, alk_in, ask_in, blk_in, bsk_in, qlk_in, ack_in, rcv_in, rcA_in, bk_i, bk_l, bk_v, hS_same, hS_ne, hS_hS, hS_2, am_10, am_01, am_00, if_true, if_false, gf_12_0, pf_12_0, gf_12_1, pf_12_1, gf_12_2, pf_12_2, gf_12_3, pf_12_3, gf_12_4, pf_12_4, gf_12_5, pf_12_5, gf_12_6, pf_12_6, gf_12_7, pf_12_7, gf_12_8, pf_12_8, gf_12_9, pf_12_9, gf_12_10, pf_12_10, gf_12_11, pf_12_11, gf_12_12, pf_12_12, gf_12_13, pf_12_13, gf_12_14, pf_12_14, gf_12_15, pf_12_15, gf_12_16, pf_12_16, gf_12_17, pf_12_17, gf_12_18, pf_12_18, gf_12_19, pf_12_19, gf_12_20, pf_12_20, o, c1, c2]
  · rw [if_neg q1] at c1
    rw [if_neg (fun z => q1 z.1)]
    refine ⟨h, ?_, S, s1, s2, FE.rf⟩
    rw [ev_Mod_odds]
    simp (disch := omega) only [e_Mod_odds_0, e_Mod_odds_1, e_Mod_odds_2, e_Mod_odds_5, e_Mod_odds_5b, e_Mod_odds_8, e_Mod_odds_9, e_Mod_odds_10, e_Mod_odds_12, e_Mod_odds_15, e_Mod_odds_15b, e_Mod_odds_18, e_Mod_odds_19, e_Mod_odds_20, e_Mod_odds_22, e_Mod_odds_25, e_Mod_odds_25b, e_Mod_odds_28, e_Mod_odds_30, e_Mod_odds_31, e_Mod_odds_32, e_Mod_odds_35, e_Mod_odds_35b, e_Mod_odds_38, e_Mod_odds_39, alk_in, ask_in, blk_in, bsk_in, qlk_in, ack_in, rcv_in, rcA_in, bk_i, bk_l, bk_v, hS_same, hS_ne, hS_hS, hS_2, am_10, am_01, am_00, if_true, if_false, gf_12_0, pf_12_0, gf_12_1, pf_12_1, gf_12_2, pf_12_2, gf_12_3, pf_12_3, gf_12_4, pf_12_4, gf_12_5, pf_12_5, gf_12_6, pf_12_6, gf_12_7, pf_12_7, gf_12_8, pf_12_8, gf_12_9, pf_12_9, gf_12_10, pf_12_10, gf_12_11, pf_12_11, gf_12_12, pf_12_12, gf_12_13, pf_12_13, gf_12_14, pf_12_14, gf_12_15, pf_12_15, gf_12_16, pf_12_16, gf_12_17, pf_12_17, gf_12_18, pf_12_18, gf_12_19, pf_12_19, gf_12_20, pf_12_20, o, c1]
end OddsM
