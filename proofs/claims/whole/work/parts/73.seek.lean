/-! how all should lie: seek, lies, now of the class -/
theorem Wf.co {n c : Nat} {ce so ha ye ce1 so1 ha1 ye1 : Nat → Int} (hW : Wf n c ce so ha ye) (e : ∀ j, j < n → ce j = ce1 j ∧ so j = so1 j ∧ ha j = ha1 j ∧ ye j = ye1 j) : Wf n c ce1 so1 ha1 ye1 := by
  refine ⟨hW.1, hW.2.1, hW.2.2.1, fun j hj => ?_, fun i j hi hj => ?_⟩
  · obtain ⟨e1, e2, e3, e4⟩ := e j hj
    rw [← e1, ← e2, ← e3, ← e4]
    exact hW.2.2.2.1 j hj
  · rw [← (e i hi).1, ← (e j hj).1]
    exact hW.2.2.2.2 i j hi hj
theorem trn_4 {n : Nat} {ce so ha ye : Nat → Int} : ∀ j, j < n → ce j = trn n ce j ∧ so j = trn n so j ∧ ha j = trn n ha j ∧ ye j = trn n ye j := fun _ hj => ⟨(trn_at hj).symm, (trn_at hj).symm, (trn_at hj).symm, (trn_at hj).symm⟩
section Seek
variable {n c : Nat} {ce so ha ye : Nat → Int}
theorem l_like {h : am_H} {c1 n1 : Nat} {t t1 : Int} {ce1 so1 ha1 ye1 : Nat → Int} (S : RepS h 29 n c t ce so ha ye) (hW : Wf n c ce so ha ye) (S1 : RepS h 10 n1 c1 t1 ce1 so1 ha1 ye1) (hW1 : Wf n1 c1 ce1 so1 ha1 ye1) (hn : n = n1) : ∀ (d k : Nat) (l3 l4 : am_V), k + d = n → ∃ b : Int, gv mScene_liesLike 15 [vR 29, vR 10, vI (k : Int), l3, l4] [] h = some (some (vI b), h) ∧ (b = 0 ∨ b = 1 ∧ ∀ j, k ≤ j → j < n → ce j = ce1 j ∧ so j = so1 j ∧ ha j = ha1 j ∧ ye j = ye1 j) := by
  have h6 := hW.1
  have h9 := hW.2.2.1
  have h91 := hW1.2.2.1
  obtain ⟨ce', so', ha', ye', ic, ⟨s0, s1, s2, s3, s4, s5⟩, r1, r2⟩ := S
  obtain ⟨ce'', so'', ha'', ye'', ic', ⟨z0, z1, z2, z3, z4, z5⟩, q1, q2⟩ := S1
  intro d
  induction d with
  | zero =>
    intro k l3 l4 hk
    have : k = n := by omega
    subst this
    refine ⟨1, ?_, Or.inr ⟨rfl, fun j h1 h2 => by omega⟩⟩
    rw [e_Scene_liesLike_15]
    simp (disch := omega) only [e_Scene_liesLike_0, e_Scene_liesLike_1, e_Scene_liesLike_4, e_Scene_liesLike_5, e_Scene_liesLike_8, e_Scene_liesLike_11, e_Scene_liesLike_12, e_Scene_liesLike_13, e_Scene_liesLike_14, e_Scene_liesLike_16, e_Scene_liesLike_17, e_Scene_liesLike_20, e_Scene_liesLike_23, e_Scene_liesLike_24, e_Scene_liesLike_27, e_Scene_liesLike_28, e_Scene_liesLike_29, e_Scene_liesLike_30, e_Scene_liesLike_33, e_Scene_liesLike_34, e_Scene_liesLike_35, e_Scene_liesLike_38, e_Scene_liesLike_39, e_Scene_liesLike_42, e_Scene_liesLike_43, e_Scene_liesLike_44, e_Scene_liesLike_45, e_Scene_liesLike_48, e_Scene_liesLike_49, e_Scene_liesLike_50, e_Scene_liesLike_53, e_Scene_liesLike_54, e_Scene_liesLike_57, e_Scene_liesLike_58, e_Scene_liesLike_59, e_Scene_liesLike_60, e_Scene_liesLike_63, e_Scene_liesLike_64, e_Scene_liesLike_65, e_Scene_liesLike_66, e_Scene_liesLike_69, e_Scene_liesLike_70, e_Scene_liesLike_71, e_Scene_liesLike_74, e_Scene_liesLike_75, e_Scene_liesLike_78, e_Scene_liesLike_79, e_Scene_liesLike_80, e_Scene_liesLike_81, e_Scene_liesLike_84, e_Scene_liesLike_85, e_Scene_liesLike_86, e_Scene_liesLike_89, e_Scene_liesLike_90, e_Scene_liesLike_93, e_Scene_liesLike_94, e_Scene_liesLike_96, e_Scene_liesLike_97, e_Scene_liesLike_97b, e_Scene_liesLike_100, e_Scene_liesLike_102, e_Scene_liesLike_102b, e_Scene_liesLike_105, e_Scene_liesLike_106, e_Scene_liesLike_107, e_Scene_liesLike_110, e_Scene_liesLike_113, e_Scene_liesLike_114, alk_in, ask_in, blk_in, bsk_in, qlk_in, ack_in, rcv_in, rcA_in, bk_i, bk_l, bk_v, hS_same, hS_ne, hS_hS, hS_2, am_10, am_01, am_00, if_true, if_false, gf_5_0, pf_5_0, gf_5_1, pf_5_1, gf_5_2, pf_5_2, gf_5_3, pf_5_3, gf_5_4, pf_5_4, gf_5_5, pf_5_5, gf_5_6, pf_5_6, gf_5_7, pf_5_7, s0]
    rw [if_neg (by omega)]
  | succ d ih =>
    intro k l3 l4 hk
    have a := hW.2.2.2.1 k (by omega)
    have a1 := hW1.2.2.2.1 k (by omega)
    have x := r1 k (by omega)
    have y := q1 k (by omega)
    obtain ⟨b, e, hb⟩ := ih (k + 1) (vI 1) (vI 1) (by omega)
    by_cases p1 : ce k = ce1 k
    · by_cases p2 : ye k = ye1 k
      · by_cases p3 : so k = so1 k
        · by_cases p4 : ha k = ha1 k
          · refine ⟨b, ?_, ?_⟩
            · rw [e_Scene_liesLike_15, ← e]
              simp (disch := omega) only [e_Scene_liesLike_0, e_Scene_liesLike_1, e_Scene_liesLike_4, e_Scene_liesLike_5, e_Scene_liesLike_8, e_Scene_liesLike_11, e_Scene_liesLike_12, e_Scene_liesLike_13, e_Scene_liesLike_14, e_Scene_liesLike_16, e_Scene_liesLike_17, e_Scene_liesLike_20, e_Scene_liesLike_23, e_Scene_liesLike_24, e_Scene_liesLike_27, e_Scene_liesLike_28, e_Scene_liesLike_29, e_Scene_liesLike_30, e_Scene_liesLike_33, e_Scene_liesLike_34, e_Scene_liesLike_35, e_Scene_liesLike_38, e_Scene_liesLike_39, e_Scene_liesLike_42, e_Scene_liesLike_43, e_Scene_liesLike_44, e_Scene_liesLike_45, e_Scene_liesLike_48, e_Scene_liesLike_49, e_Scene_liesLike_50, e_Scene_liesLike_53, e_Scene_liesLike_54, e_Scene_liesLike_57, e_Scene_liesLike_58, e_Scene_liesLike_59, e_Scene_liesLike_60, e_Scene_liesLike_63, e_Scene_liesLike_64, e_Scene_liesLike_65, e_Scene_liesLike_66, e_Scene_liesLike_69, e_Scene_liesLike_70, e_Scene_liesLike_71, e_Scene_liesLike_74, e_Scene_liesLike_75, e_Scene_liesLike_78, e_Scene_liesLike_79, e_Scene_liesLike_80, e_Scene_liesLike_81, e_Scene_liesLike_84, e_Scene_liesLike_85, e_Scene_liesLike_86, e_Scene_liesLike_89, e_Scene_liesLike_90, e_Scene_liesLike_93, e_Scene_liesLike_94, e_Scene_liesLike_96, e_Scene_liesLike_97, e_Scene_liesLike_97b, e_Scene_liesLike_100, e_Scene_liesLike_102, e_Scene_liesLike_102b, e_Scene_liesLike_105, e_Scene_liesLike_106, e_Scene_liesLike_107, e_Scene_liesLike_110, e_Scene_liesLike_113, e_Scene_liesLike_114, alk_in, ask_in, blk_in, bsk_in, qlk_in, ack_in, rcv_in, rcA_in, bk_i, bk_l, bk_v, hS_same, hS_ne, hS_hS, hS_2, am_10, am_01, am_00, if_true, if_false, gf_5_0, pf_5_0, gf_5_1, pf_5_1, gf_5_2, pf_5_2, gf_5_3, pf_5_3, gf_5_4, pf_5_4, gf_5_5, pf_5_5, gf_5_6, pf_5_6, gf_5_7, pf_5_7, s0, s1, s2, s3, s4, z0, z1, z2, z3, z4, Int.toNat_natCast, x.1, x.2.1, x.2.2.1, x.2.2.2, y.1, y.2.1, y.2.2.1, y.2.2.2, p1, p2, p3, p4]
              rw [if_pos (by omega)]; rfl
            · rcases hb with hb | ⟨hb, H⟩
              · exact Or.inl hb
              · refine Or.inr ⟨hb, fun j h1 h2 => ?_⟩
                by_cases q : j = k
                · subst q; exact ⟨p1, p3, p4, p2⟩
                · exact H j (by omega) h2
          · refine ⟨0, ?_, Or.inl rfl⟩
            rw [e_Scene_liesLike_15]
            simp (disch := omega) only [e_Scene_liesLike_0, e_Scene_liesLike_1, e_Scene_liesLike_4, e_Scene_liesLike_5, e_Scene_liesLike_8, e_Scene_liesLike_11, e_Scene_liesLike_12, e_Scene_liesLike_13, e_Scene_liesLike_14, e_Scene_liesLike_16, e_Scene_liesLike_17, e_Scene_liesLike_20, e_Scene_liesLike_23, e_Scene_liesLike_24, e_Scene_liesLike_27, e_Scene_liesLike_28, e_Scene_liesLike_29, e_Scene_liesLike_30, e_Scene_liesLike_33, e_Scene_liesLike_34, e_Scene_liesLike_35, e_Scene_liesLike_38, e_Scene_liesLike_39, e_Scene_liesLike_42, e_Scene_liesLike_43, e_Scene_liesLike_44, e_Scene_liesLike_45, e_Scene_liesLike_48, e_Scene_liesLike_49, e_Scene_liesLike_50, e_Scene_liesLike_53, e_Scene_liesLike_54, e_Scene_liesLike_57, e_Scene_liesLike_58, e_Scene_liesLike_59, e_Scene_liesLike_60, e_Scene_liesLike_63, e_Scene_liesLike_64, e_Scene_liesLike_65, e_Scene_liesLike_66, e_Scene_liesLike_69, e_Scene_liesLike_70, e_Scene_liesLike_71, e_Scene_liesLike_74, e_Scene_liesLike_75, e_Scene_liesLike_78, e_Scene_liesLike_79, e_Scene_liesLike_80, e_Scene_liesLike_81, e_Scene_liesLike_84, e_Scene_liesLike_85, e_Scene_liesLike_86, e_Scene_liesLike_89, e_Scene_liesLike_90, e_Scene_liesLike_93, e_Scene_liesLike_94, e_Scene_liesLike_96, e_Scene_liesLike_97, e_Scene_liesLike_97b, e_Scene_liesLike_100, e_Scene_liesLike_102, e_Scene_liesLike_102b, e_Scene_liesLike_105, e_Scene_liesLike_106, e_Scene_liesLike_107, e_Scene_liesLike_110, e_Scene_liesLike_113, e_Scene_liesLike_114, alk_in, ask_in, blk_in, bsk_in, qlk_in, ack_in, rcv_in, rcA_in, bk_i, bk_l, bk_v, hS_same, hS_ne, hS_hS, hS_2, am_10, am_01, am_00, if_true, if_false, gf_5_0, pf_5_0, gf_5_1, pf_5_1, gf_5_2, pf_5_2, gf_5_3, pf_5_3, gf_5_4, pf_5_4, gf_5_5, pf_5_5, gf_5_6, pf_5_6, gf_5_7, pf_5_7, s0, s1, s2, s3, s4, z0, z1, z2, z3, z4, Int.toNat_natCast, x.1, x.2.1, x.2.2.1, x.2.2.2, y.1, y.2.1, y.2.2.1, y.2.2.2, p1, p2, p3, p4]
            rw [if_pos (by omega)]
        · refine ⟨0, ?_, Or.inl rfl⟩
          rw [e_Scene_liesLike_15]
          simp (disch := omega) only [e_Scene_liesLike_0, e_Scene_liesLike_1, e_Scene_liesLike_4, e_Scene_liesLike_5, e_Scene_liesLike_8, e_Scene_liesLike_11, e_Scene_liesLike_12, e_Scene_liesLike_13, e_Scene_liesLike_14, e_Scene_liesLike_16, e_Scene_liesLike_17, e_Scene_liesLike_20, e_Scene_liesLike_23, e_Scene_liesLike_24, e_Scene_liesLike_27, e_Scene_liesLike_28, e_Scene_liesLike_29, e_Scene_liesLike_30, e_Scene_liesLike_33, e_Scene_liesLike_34, e_Scene_liesLike_35, e_Scene_liesLike_38, e_Scene_liesLike_39, e_Scene_liesLike_42, e_Scene_liesLike_43, e_Scene_liesLike_44, e_Scene_liesLike_45, e_Scene_liesLike_48, e_Scene_liesLike_49, e_Scene_liesLike_50, e_Scene_liesLike_53, e_Scene_liesLike_54, e_Scene_liesLike_57, e_Scene_liesLike_58, e_Scene_liesLike_59, e_Scene_liesLike_60, e_Scene_liesLike_63, e_Scene_liesLike_64, e_Scene_liesLike_65, e_Scene_liesLike_66, e_Scene_liesLike_69, e_Scene_liesLike_70, e_Scene_liesLike_71, e_Scene_liesLike_74, e_Scene_liesLike_75, e_Scene_liesLike_78, e_Scene_liesLike_79, e_Scene_liesLike_80, e_Scene_liesLike_81, e_Scene_liesLike_84, e_Scene_liesLike_85, e_Scene_liesLike_86, e_Scene_liesLike_89, e_Scene_liesLike_90, e_Scene_liesLike_93, e_Scene_liesLike_94, e_Scene_liesLike_96, e_Scene_liesLike_97, e_Scene_liesLike_97b, e_Scene_liesLike_100, e_Scene_liesLike_102, e_Scene_liesLike_102b, e_Scene_liesLike_105, e_Scene_liesLike_106, e_Scene_liesLike_107, e_Scene_liesLike_110, e_Scene_liesLike_113, e_Scene_liesLike_114, alk_in, ask_in, blk_in, bsk_in, qlk_in, ack_in, rcv_in, rcA_in, bk_i, bk_l, bk_v, hS_same, hS_ne, hS_hS, hS_2, am_10, am_01, am_00, if_true, if_false, gf_5_0, pf_5_0, gf_5_1, pf_5_1, gf_5_2, pf_5_2, gf_5_3, pf_5_3, gf_5_4, pf_5_4, gf_5_5, pf_5_5, gf_5_6, pf_5_6, gf_5_7, pf_5_7, s0, s1, s2, s3, s4, z0, z1, z2, z3, z4, Int.toNat_natCast, x.1, x.2.1, x.2.2.1, x.2.2.2, y.1, y.2.1, y.2.2.1, y.2.2.2, p1, p2, p3]
          rw [if_pos (by omega)]
      · refine ⟨0, ?_, Or.inl rfl⟩
        by_cases p3 : so k = so1 k
        · by_cases p4 : ha k = ha1 k
          · rw [e_Scene_liesLike_15]
            simp (disch := omega) only [e_Scene_liesLike_0, e_Scene_liesLike_1, e_Scene_liesLike_4, e_Scene_liesLike_5, e_Scene_liesLike_8, e_Scene_liesLike_11, e_Scene_liesLike_12, e_Scene_liesLike_13, e_Scene_liesLike_14, e_Scene_liesLike_16, e_Scene_liesLike_17, e_Scene_liesLike_20, e_Scene_liesLike_23, e_Scene_liesLike_24, e_Scene_liesLike_27, e_Scene_liesLike_28, e_Scene_liesLike_29, e_Scene_liesLike_30, e_Scene_liesLike_33, e_Scene_liesLike_34, e_Scene_liesLike_35, e_Scene_liesLike_38, e_Scene_liesLike_39, e_Scene_liesLike_42, e_Scene_liesLike_43, e_Scene_liesLike_44, e_Scene_liesLike_45, e_Scene_liesLike_48, e_Scene_liesLike_49, e_Scene_liesLike_50, e_Scene_liesLike_53, e_Scene_liesLike_54, e_Scene_liesLike_57, e_Scene_liesLike_58, e_Scene_liesLike_59, e_Scene_liesLike_60, e_Scene_liesLike_63, e_Scene_liesLike_64, e_Scene_liesLike_65, e_Scene_liesLike_66, e_Scene_liesLike_69, e_Scene_liesLike_70, e_Scene_liesLike_71, e_Scene_liesLike_74, e_Scene_liesLike_75, e_Scene_liesLike_78, e_Scene_liesLike_79, e_Scene_liesLike_80, e_Scene_liesLike_81, e_Scene_liesLike_84, e_Scene_liesLike_85, e_Scene_liesLike_86, e_Scene_liesLike_89, e_Scene_liesLike_90, e_Scene_liesLike_93, e_Scene_liesLike_94, e_Scene_liesLike_96, e_Scene_liesLike_97, e_Scene_liesLike_97b, e_Scene_liesLike_100, e_Scene_liesLike_102, e_Scene_liesLike_102b, e_Scene_liesLike_105, e_Scene_liesLike_106, e_Scene_liesLike_107, e_Scene_liesLike_110, e_Scene_liesLike_113, e_Scene_liesLike_114, alk_in, ask_in, blk_in, bsk_in, qlk_in, ack_in, rcv_in, rcA_in, bk_i, bk_l, bk_v, hS_same, hS_ne, hS_hS, hS_2, am_10, am_01, am_00, if_true, if_false, gf_5_0, pf_5_0, gf_5_1, pf_5_1, gf_5_2, pf_5_2, gf_5_3, pf_5_3, gf_5_4, pf_5_4, gf_5_5, pf_5_5, gf_5_6, pf_5_6, gf_5_7, pf_5_7, s0, s1, s2, s3, s4, z0, z1, z2, z3, z4, Int.toNat_natCast, x.1, x.2.1, x.2.2.1, x.2.2.2, y.1, y.2.1, y.2.2.1, y.2.2.2, p1, p2, p3, p4]
            rw [if_pos (by omega)]
          · rw [e_Scene_liesLike_15]
            simp (disch := omega) only [e_Scene_liesLike_0, e_Scene_liesLike_1, e_Scene_liesLike_4, e_Scene_liesLike_5, e_Scene_liesLike_8, e_Scene_liesLike_11, e_Scene_liesLike_12, e_Scene_liesLike_13, e_Scene_liesLike_14, e_Scene_liesLike_16, e_Scene_liesLike_17, e_Scene_liesLike_20, e_Scene_liesLike_23, e_Scene_liesLike_24, e_Scene_liesLike_27, e_Scene_liesLike_28, e_Scene_liesLike_29, e_Scene_liesLike_30, e_Scene_liesLike_33, e_Scene_liesLike_34, e_Scene_liesLike_35, e_Scene_liesLike_38, e_Scene_liesLike_39, e_Scene_liesLike_42, e_Scene_liesLike_43, e_Scene_liesLike_44, e_Scene_liesLike_45, e_Scene_liesLike_48, e_Scene_liesLike_49, e_Scene_liesLike_50, e_Scene_liesLike_53, e_Scene_liesLike_54, e_Scene_liesLike_57, e_Scene_liesLike_58, e_Scene_liesLike_59, e_Scene_liesLike_60, e_Scene_liesLike_63, e_Scene_liesLike_64, e_Scene_liesLike_65, e_Scene_liesLike_66, e_Scene_liesLike_69, e_Scene_liesLike_70, e_Scene_liesLike_71, e_Scene_liesLike_74, e_Scene_liesLike_75, e_Scene_liesLike_78, e_Scene_liesLike_79, e_Scene_liesLike_80, e_Scene_liesLike_81, e_Scene_liesLike_84, e_Scene_liesLike_85, e_Scene_liesLike_86, e_Scene_liesLike_89, e_Scene_liesLike_90, e_Scene_liesLike_93, e_Scene_liesLike_94, e_Scene_liesLike_96, e_Scene_liesLike_97, e_Scene_liesLike_97b, e_Scene_liesLike_100, e_Scene_liesLike_102, e_Scene_liesLike_102b, e_Scene_liesLike_105, e_Scene_liesLike_106, e_Scene_liesLike_107, e_Scene_liesLike_110, e_Scene_liesLike_113, e_Scene_liesLike_114, alk_in, ask_in, blk_in, bsk_in, qlk_in, ack_in, rcv_in, rcA_in, bk_i, bk_l, bk_v, hS_same, hS_ne, hS_hS, hS_2, am_10, am_01, am_00, if_true, if_false, gf_5_0, pf_5_0, gf_5_1, pf_5_1, gf_5_2, pf_5_2, gf_5_3, pf_5_3, gf_5_4, pf_5_4, gf_5_5, pf_5_5, gf_5_6, pf_5_6, gf_5_7, pf_5_7, s0, s1, s2, s3, s4, z0, z1, z2, z3, z4, Int.toNat_natCast, x.1, x.2.1, x.2.2.1, x.2.2.2, y.1, y.2.1, y.2.2.1, y.2.2.2, p1, p2, p3, p4]
            rw [if_pos (by omega)]
        · rw [e_Scene_liesLike_15]
          simp (disch := omega) only [e_Scene_liesLike_0, e_Scene_liesLike_1, e_Scene_liesLike_4, e_Scene_liesLike_5, e_Scene_liesLike_8, e_Scene_liesLike_11, e_Scene_liesLike_12, e_Scene_liesLike_13, e_Scene_liesLike_14, e_Scene_liesLike_16, e_Scene_liesLike_17, e_Scene_liesLike_20, e_Scene_liesLike_23, e_Scene_liesLike_24, e_Scene_liesLike_27, e_Scene_liesLike_28, e_Scene_liesLike_29, e_Scene_liesLike_30, e_Scene_liesLike_33, e_Scene_liesLike_34, e_Scene_liesLike_35, e_Scene_liesLike_38, e_Scene_liesLike_39, e_Scene_liesLike_42, e_Scene_liesLike_43, e_Scene_liesLike_44, e_Scene_liesLike_45, e_Scene_liesLike_48, e_Scene_liesLike_49, e_Scene_liesLike_50, e_Scene_liesLike_53, e_Scene_liesLike_54, e_Scene_liesLike_57, e_Scene_liesLike_58, e_Scene_liesLike_59, e_Scene_liesLike_60, e_Scene_liesLike_63, e_Scene_liesLike_64, e_Scene_liesLike_65, e_Scene_liesLike_66, e_Scene_liesLike_69, e_Scene_liesLike_70, e_Scene_liesLike_71, e_Scene_liesLike_74, e_Scene_liesLike_75, e_Scene_liesLike_78, e_Scene_liesLike_79, e_Scene_liesLike_80, e_Scene_liesLike_81, e_Scene_liesLike_84, e_Scene_liesLike_85, e_Scene_liesLike_86, e_Scene_liesLike_89, e_Scene_liesLike_90, e_Scene_liesLike_93, e_Scene_liesLike_94, e_Scene_liesLike_96, e_Scene_liesLike_97, e_Scene_liesLike_97b, e_Scene_liesLike_100, e_Scene_liesLike_102, e_Scene_liesLike_102b, e_Scene_liesLike_105, e_Scene_liesLike_106, e_Scene_liesLike_107, e_Scene_liesLike_110, e_Scene_liesLike_113, e_Scene_liesLike_114, alk_in, ask_in, blk_in, bsk_in, qlk_in, ack_in, rcv_in, rcA_in, bk_i, bk_l, bk_v, hS_same, hS_ne, hS_hS, hS_2, am_10, am_01, am_00, if_true, if_false, gf_5_0, pf_5_0, gf_5_1, pf_5_1, gf_5_2, pf_5_2, gf_5_3, pf_5_3, gf_5_4, pf_5_4, gf_5_5, pf_5_5, gf_5_6, pf_5_6, gf_5_7, pf_5_7, s0, s1, s2, s3, s4, z0, z1, z2, z3, z4, Int.toNat_natCast, x.1, x.2.1, x.2.2.1, x.2.2.2, y.1, y.2.1, y.2.2.1, y.2.2.2, p1, p2, p3]
          rw [if_pos (by omega)]
    · refine ⟨0, ?_, Or.inl rfl⟩
      by_cases p3 : so k = so1 k
      · by_cases p4 : ha k = ha1 k
        · rw [e_Scene_liesLike_15]
          simp (disch := omega) only [e_Scene_liesLike_0, e_Scene_liesLike_1, e_Scene_liesLike_4, e_Scene_liesLike_5, e_Scene_liesLike_8, e_Scene_liesLike_11, e_Scene_liesLike_12, e_Scene_liesLike_13, e_Scene_liesLike_14, e_Scene_liesLike_16, e_Scene_liesLike_17, e_Scene_liesLike_20, e_Scene_liesLike_23, e_Scene_liesLike_24, e_Scene_liesLike_27, e_Scene_liesLike_28, e_Scene_liesLike_29, e_Scene_liesLike_30, e_Scene_liesLike_33, e_Scene_liesLike_34, e_Scene_liesLike_35, e_Scene_liesLike_38, e_Scene_liesLike_39, e_Scene_liesLike_42, e_Scene_liesLike_43, e_Scene_liesLike_44, e_Scene_liesLike_45, e_Scene_liesLike_48, e_Scene_liesLike_49, e_Scene_liesLike_50, e_Scene_liesLike_53, e_Scene_liesLike_54, e_Scene_liesLike_57, e_Scene_liesLike_58, e_Scene_liesLike_59, e_Scene_liesLike_60, e_Scene_liesLike_63, e_Scene_liesLike_64, e_Scene_liesLike_65, e_Scene_liesLike_66, e_Scene_liesLike_69, e_Scene_liesLike_70, e_Scene_liesLike_71, e_Scene_liesLike_74, e_Scene_liesLike_75, e_Scene_liesLike_78, e_Scene_liesLike_79, e_Scene_liesLike_80, e_Scene_liesLike_81, e_Scene_liesLike_84, e_Scene_liesLike_85, e_Scene_liesLike_86, e_Scene_liesLike_89, e_Scene_liesLike_90, e_Scene_liesLike_93, e_Scene_liesLike_94, e_Scene_liesLike_96, e_Scene_liesLike_97, e_Scene_liesLike_97b, e_Scene_liesLike_100, e_Scene_liesLike_102, e_Scene_liesLike_102b, e_Scene_liesLike_105, e_Scene_liesLike_106, e_Scene_liesLike_107, e_Scene_liesLike_110, e_Scene_liesLike_113, e_Scene_liesLike_114, alk_in, ask_in, blk_in, bsk_in, qlk_in, ack_in, rcv_in, rcA_in, bk_i, bk_l, bk_v, hS_same, hS_ne, hS_hS, hS_2, am_10, am_01, am_00, if_true, if_false, gf_5_0, pf_5_0, gf_5_1, pf_5_1, gf_5_2, pf_5_2, gf_5_3, pf_5_3, gf_5_4, pf_5_4, gf_5_5, pf_5_5, gf_5_6, pf_5_6, gf_5_7, pf_5_7, s0, s1, s2, s3, s4, z0, z1, z2, z3, z4, Int.toNat_natCast, x.1, x.2.1, x.2.2.1, x.2.2.2, y.1, y.2.1, y.2.2.1, y.2.2.2, p1, p3, p4]
          rw [if_pos (by omega)]
        · rw [e_Scene_liesLike_15]
          simp (disch := omega) only [e_Scene_liesLike_0, e_Scene_liesLike_1, e_Scene_liesLike_4, e_Scene_liesLike_5, e_Scene_liesLike_8, e_Scene_liesLike_11, e_Scene_liesLike_12, e_Scene_liesLike_13, e_Scene_liesLike_14, e_Scene_liesLike_16, e_Scene_liesLike_17, e_Scene_liesLike_20, e_Scene_liesLike_23, e_Scene_liesLike_24, e_Scene_liesLike_27, e_Scene_liesLike_28, e_Scene_liesLike_29, e_Scene_liesLike_30, e_Scene_liesLike_33, e_Scene_liesLike_34, e_Scene_liesLike_35, e_Scene_liesLike_38, e_Scene_liesLike_39, e_Scene_liesLike_42, e_Scene_liesLike_43, e_Scene_liesLike_44, e_Scene_liesLike_45, e_Scene_liesLike_48, e_Scene_liesLike_49, e_Scene_liesLike_50, e_Scene_liesLike_53, e_Scene_liesLike_54, e_Scene_liesLike_57, e_Scene_liesLike_58, e_Scene_liesLike_59, e_Scene_liesLike_60, e_Scene_liesLike_63, e_Scene_liesLike_64, e_Scene_liesLike_65, e_Scene_liesLike_66, e_Scene_liesLike_69, e_Scene_liesLike_70, e_Scene_liesLike_71, e_Scene_liesLike_74, e_Scene_liesLike_75, e_Scene_liesLike_78, e_Scene_liesLike_79, e_Scene_liesLike_80, e_Scene_liesLike_81, e_Scene_liesLike_84, e_Scene_liesLike_85, e_Scene_liesLike_86, e_Scene_liesLike_89, e_Scene_liesLike_90, e_Scene_liesLike_93, e_Scene_liesLike_94, e_Scene_liesLike_96, e_Scene_liesLike_97, e_Scene_liesLike_97b, e_Scene_liesLike_100, e_Scene_liesLike_102, e_Scene_liesLike_102b, e_Scene_liesLike_105, e_Scene_liesLike_106, e_Scene_liesLike_107, e_Scene_liesLike_110, e_Scene_liesLike_113, e_Scene_liesLike_114, alk_in, ask_in, blk_in, bsk_in, qlk_in, ack_in, rcv_in, rcA_in, bk_i, bk_l, bk_v, hS_same, hS_ne, hS_hS, hS_2, am_10, am_01, am_00, if_true, if_false, gf_5_0, pf_5_0, gf_5_1, pf_5_1, gf_5_2, pf_5_2, gf_5_3, pf_5_3, gf_5_4, pf_5_4, gf_5_5, pf_5_5, gf_5_6, pf_5_6, gf_5_7, pf_5_7, s0, s1, s2, s3, s4, z0, z1, z2, z3, z4, Int.toNat_natCast, x.1, x.2.1, x.2.2.1, x.2.2.2, y.1, y.2.1, y.2.2.1, y.2.2.2, p1, p3, p4]
          rw [if_pos (by omega)]
      · rw [e_Scene_liesLike_15]
        simp (disch := omega) only [e_Scene_liesLike_0, e_Scene_liesLike_1, e_Scene_liesLike_4, e_Scene_liesLike_5, e_Scene_liesLike_8, e_Scene_liesLike_11, e_Scene_liesLike_12, e_Scene_liesLike_13, e_Scene_liesLike_14, e_Scene_liesLike_16, e_Scene_liesLike_17, e_Scene_liesLike_20, e_Scene_liesLike_23, e_Scene_liesLike_24, e_Scene_liesLike_27, e_Scene_liesLike_28, e_Scene_liesLike_29, e_Scene_liesLike_30, e_Scene_liesLike_33, e_Scene_liesLike_34, e_Scene_liesLike_35, e_Scene_liesLike_38, e_Scene_liesLike_39, e_Scene_liesLike_42, e_Scene_liesLike_43, e_Scene_liesLike_44, e_Scene_liesLike_45, e_Scene_liesLike_48, e_Scene_liesLike_49, e_Scene_liesLike_50, e_Scene_liesLike_53, e_Scene_liesLike_54, e_Scene_liesLike_57, e_Scene_liesLike_58, e_Scene_liesLike_59, e_Scene_liesLike_60, e_Scene_liesLike_63, e_Scene_liesLike_64, e_Scene_liesLike_65, e_Scene_liesLike_66, e_Scene_liesLike_69, e_Scene_liesLike_70, e_Scene_liesLike_71, e_Scene_liesLike_74, e_Scene_liesLike_75, e_Scene_liesLike_78, e_Scene_liesLike_79, e_Scene_liesLike_80, e_Scene_liesLike_81, e_Scene_liesLike_84, e_Scene_liesLike_85, e_Scene_liesLike_86, e_Scene_liesLike_89, e_Scene_liesLike_90, e_Scene_liesLike_93, e_Scene_liesLike_94, e_Scene_liesLike_96, e_Scene_liesLike_97, e_Scene_liesLike_97b, e_Scene_liesLike_100, e_Scene_liesLike_102, e_Scene_liesLike_102b, e_Scene_liesLike_105, e_Scene_liesLike_106, e_Scene_liesLike_107, e_Scene_liesLike_110, e_Scene_liesLike_113, e_Scene_liesLike_114, alk_in, ask_in, blk_in, bsk_in, qlk_in, ack_in, rcv_in, rcA_in, bk_i, bk_l, bk_v, hS_same, hS_ne, hS_hS, hS_2, am_10, am_01, am_00, if_true, if_false, gf_5_0, pf_5_0, gf_5_1, pf_5_1, gf_5_2, pf_5_2, gf_5_3, pf_5_3, gf_5_4, pf_5_4, gf_5_5, pf_5_5, gf_5_6, pf_5_6, gf_5_7, pf_5_7, s0, s1, s2, s3, s4, z0, z1, z2, z3, z4, Int.toNat_natCast, x.1, x.2.1, x.2.2.1, x.2.2.2, y.1, y.2.1, y.2.2.1, y.2.2.2, p1, p3]
        rw [if_pos (by omega)]
theorem c_like {h : am_H} {c1 n1 : Nat} {t t1 : Int} {ce1 so1 ha1 ye1 : Nat → Int} (S : RepS h 29 n c t ce so ha ye) (hW : Wf n c ce so ha ye) (S1 : RepS h 10 n1 c1 t1 ce1 so1 ha1 ye1) (hW1 : Wf n1 c1 ce1 so1 ha1 ye1) : ∃ b : Int, ev mScene_liesLike [vR 29, vR 10] h = some (some (vI b), h) ∧ (b = 0 ∨ b = 1 ∧ n = n1 ∧ ∀ j, j < n → ce j = ce1 j ∧ so j = so1 j ∧ ha j = ha1 j ∧ ye j = ye1 j) := by
  have h6 := hW.1
  have h61 := hW1.1
  by_cases q : n = n1
  · obtain ⟨b, e, hb⟩ := l_like S hW S1 hW1 q n 0 vU vU (by omega)
    refine ⟨b, ?_, ?_⟩
    · obtain ⟨ce', so', ha', ye', ic, ⟨s0, s1, s2, s3, s4, s5⟩, r1, r2⟩ := S
      obtain ⟨ce'', so'', ha'', ye'', ic', ⟨z0, z1, z2, z3, z4, z5⟩, q1, q2⟩ := S1
      rw [ev_Scene_liesLike, ← e]
      simp (disch := omega) only [e_Scene_liesLike_0, e_Scene_liesLike_1, e_Scene_liesLike_4, e_Scene_liesLike_5, e_Scene_liesLike_8, e_Scene_liesLike_11, e_Scene_liesLike_12, e_Scene_liesLike_13, e_Scene_liesLike_14, alk_in, ask_in, blk_in, bsk_in, qlk_in, ack_in, rcv_in, rcA_in, bk_i, bk_l, bk_v, hS_same, hS_ne, hS_hS, hS_2, am_10, am_01, am_00, if_true, if_false, gf_5_0, pf_5_0, gf_5_1, pf_5_1, gf_5_2, pf_5_2, gf_5_3, pf_5_3, gf_5_4, pf_5_4, gf_5_5, pf_5_5, gf_5_6, pf_5_6, gf_5_7, pf_5_7, s0, z0]
      rw [if_pos (by omega)]; rfl
    · rcases hb with hb | ⟨hb, H⟩
      · exact Or.inl hb
      · exact Or.inr ⟨hb, q, fun j hj => H j (by omega) hj⟩
  · refine ⟨0, ?_, Or.inl rfl⟩
    obtain ⟨ce', so', ha', ye', ic, ⟨s0, s1, s2, s3, s4, s5⟩, r1, r2⟩ := S
    obtain ⟨ce'', so'', ha'', ye'', ic', ⟨z0, z1, z2, z3, z4, z5⟩, q1, q2⟩ := S1
    rw [ev_Scene_liesLike]
    simp (disch := omega) only [e_Scene_liesLike_0, e_Scene_liesLike_1, e_Scene_liesLike_4, e_Scene_liesLike_5, e_Scene_liesLike_8, e_Scene_liesLike_11, e_Scene_liesLike_12, e_Scene_liesLike_13, e_Scene_liesLike_14, alk_in, ask_in, blk_in, bsk_in, qlk_in, ack_in, rcv_in, rcA_in, bk_i, bk_l, bk_v, hS_same, hS_ne, hS_hS, hS_2, am_10, am_01, am_00, if_true, if_false, gf_5_0, pf_5_0, gf_5_1, pf_5_1, gf_5_2, pf_5_2, gf_5_3, pf_5_3, gf_5_4, pf_5_4, gf_5_5, pf_5_5, gf_5_6, pf_5_6, gf_5_7, pf_5_7, s0, z0]
    rw [if_neg (by omega)]
end Seek
abbrev lieG (G : Gl) (T : Tm) : Int × (Nat → Int) := lieR G.1 (trn G.1 T.2.1) (trn G.1 T.2.2.1) (trn G.1 G.2.2.2) (trn G.1 T.2.2.2)
/-- what was sought is of those men -/
def LiA (h : am_H) (G : Gl) (T : Tm) : Prop := ∃ A C, h.1 28 = cO 2 [vI (lieG G T).1, vR 29, vI 1, vI (lK G.1 (trn G.1 T.2.1) : Int), vR 35, vR 36, vR 37, vR 38, vR 39] ∧ h.1 35 = cI 0 6 A ∧ h.1 37 = cI 0 6 C ∧ EqB (lK G.1 (trn G.1 T.2.1)) A (lM G.1 (trn G.1 T.2.1)) ∧ EqB (lK G.1 (trn G.1 T.2.1)) C (lieG G T).2
def CLi (h : am_H) : Prop := ∃ ly is sz A B C P I, h.1 28 = cO 2 [vI ly, vR 29, vI is, vI sz, vR 35, vR 36, vR 37, vR 38, vR 39] ∧ h.1 35 = cI 0 6 A ∧ h.1 36 = cI 0 6 B ∧ (∀ i, i < 6 → 0 ≤ B i ∧ B i ≤ 8) ∧ h.1 37 = cI 0 6 C ∧ h.1 38 = cI 0 36 P ∧ h.1 39 = cI 0 9 I ∧ ScSh h 29 ∧ (is = 0 ∨ is = 1 ∧ ∃ G T, LiA h G T ∧ RT h 29 G T ∧ WT G T)
theorem CLi.on {h h' : am_H} (S : CLi h) (f : SameOn (fun x => 28 ≤ x ∧ x < 40) h h') : CLi h' := by
  obtain ⟨ly, is, sz, A, B, C, P, I, a0, a1, a2, a3, a4, a5, a6, a7, a8⟩ := S
  refine ⟨ly, is, sz, A, B, C, P, I, by rw [f _ (by omega)]; exact a0, by rw [f _ (by omega)]; exact a1, by rw [f _ (by omega)]; exact a2, a3, by rw [f _ (by omega)]; exact a4, by rw [f _ (by omega)]; exact a5, by rw [f _ (by omega)]; exact a6, a7.on (fun x hx => f x (by omega)), ?_⟩
  rcases a8 with z | ⟨z, G, T, ⟨A', C', b0, b1, b2, b3, b4⟩, b5, b6⟩
  · exact Or.inl z
  · exact Or.inr ⟨z, G, T, ⟨A', C', by rw [f _ (by omega)]; exact b0, by rw [f _ (by omega)]; exact b1, by rw [f _ (by omega)]; exact b2, b3, b4⟩, b5.on (fun x hx => f x (by omega)), b6⟩
section Seek2
variable {h : am_H} {G : Gl} {T : Tm} {lo pc : Int}
theorem lk_fresh {sz is ly : Int} {A B C P I : Nat → Int} (S : RT h 10 G T) (hw : WT G T) (a0 : h.1 28 = cO 2 [vI ly, vR 29, vI is, vI sz, vR 35, vR 36, vR 37, vR 38, vR 39]) (a1 : h.1 35 = cI 0 6 A) (a2 : h.1 36 = cI 0 6 B) (a3 : ∀ i, i < 6 → 0 ≤ B i ∧ B i ≤ 8) (a4 : h.1 37 = cI 0 6 C) (a5 : h.1 38 = cI 0 36 P) (a6 : h.1 39 = cI 0 9 I) (a7 : ScSh h 29) : ∃ h', gv mLie_seek 19 [vR 28, vR 10, vU, vU] [] h = some (none, h') ∧ CLi h' ∧ LiA h' G T ∧ Fr 28 40 h h' := by
  obtain ⟨n, c, lq, ha⟩ := G
  obtain ⟨t, ce, so, ye⟩ := T
  unfold RT at S
  unfold WT at hw
  simp only at S hw
  have hn := hw.1
  have hc9 := hw.2.2.1
  have S' := RepS.co S (trn_4 (n := n))
  have hw' := Wf.co hw (trn_4 (n := n))
  obtain ⟨fs, qob⟩ := a7.ob
  obtain ⟨h1, e1, S1, f1⟩ := d_copyFrom S' hn hc9 a7 (by omega)
  have b0 := (f1.at (a := 28) (by omega)).trans a0
  have f2 : Fr 28 29 h1 (hS h1 28 (cO 2 [vI ly, vR 29, vI 1, vI sz, vR 35, vR 36, vR 37, vR 38, vR 39])) := Fr.st (by omega)
  have S2 := S1.fr f2 (by omega)
  obtain ⟨h3, P', I', e3, O3, A3, B3, P3, P4, I3, I4, f3⟩ := k_gather hw' (hS_same (h := h1) (a := 28) (c := cO 2 [vI ly, vR 29, vI 1, vI sz, vR 35, vR 36, vR 37, vR 38, vR 39])) S2 ((f2.at (by omega)).trans ((f1.at (by omega)).trans a1)) ((f2.at (by omega)).trans ((f1.at (by omega)).trans a2)) ((f2.at (by omega)).trans ((f1.at (by omega)).trans a5)) ((f2.at (by omega)).trans ((f1.at (by omega)).trans a6))
  have S3 : RepS h3 29 n c t (trn n ce) (trn n so) (trn n ha) (trn n ye) := RT.on (G := (n, c, 0, trn n ha)) (T := (t, trn n ce, trn n so, trn n ye)) S2 (fun x hx => f3.2 x (by omega))
  have gl := gm_le (trn n ce) A n
  have mno := gm_mno (trn n ce) A n
  have hM : ∀ i, i < (gm (trn n ce) A n).1 → ∃ m : Nat, m < n ∧ (gm (trn n ce) A n).2 i = (m : Int) := fun i hi => by
    obtain ⟨m, x, y, -⟩ := mno.1 i hi
    exact ⟨m, x, y⟩
  have hr := gc_r n (trn n ce) B a3 9 (by omega)
  obtain ⟨h4, I5, e4, I6, I7, f4⟩ := k_years hw' (show (gm (trn n ce) A n).1 ≤ 6 by omega) O3 hM S3 A3 B3 P3 P4 I3 (fun x hx => Or.inl (I4 x hx)) (fun i hi => hr i (by omega))
  have O4 : h4.1 28 = cO 2 [vI ly, vR 29, vI 1, vI ((gm (trn n ce) A n).1 : Int), vR 35, vR 36, vR 37, vR 38, vR 39] := (f4.at (by omega)).trans O3
  have yr := yb_b (gm (trn n ce) A n).1 (gm (trn n ce) A n).2 (trn n so) (trn n ha) (trn n ye) (gc n (trn n ce) B 9).2
  have C4 : h4.1 37 = cI 0 6 C := (f4.at (by omega)).trans ((f3.2 37 (by omega)).trans ((f2.at (by omega)).trans ((f1.at (by omega)).trans a4)))
  have W4 : h4.1 36 = cI 0 6 (gc n (trn n ce) B 9).2 := (f4.at (by omega)).trans B3
  have f5 : FP (fun x => x = 28 ∨ x = 36 ∨ x = 37 ∨ x = 39) h4 (hS (hS h4 28 (cO 2 [vI (yb (gm (trn n ce) A n).1 (gm (trn n ce) A n).2 (trn n so) (trn n ha) (trn n ye) (gc n (trn n ce) B 9).2), vR 29, vI 1, vI ((gm (trn n ce) A n).1 : Int), vR 35, vR 36, vR 37, vR 38, vR 39])) 37 (cI 0 6 (fun j => if j < 6 then (gc n (trn n ce) B 9).2 j else C j))) := (FP.st (Or.inl rfl)).tr (FP.st (Or.inr (Or.inr (Or.inl rfl))))
  obtain ⟨h6, w', C', I8, e6, O6, W6, W7, C6, C7, I9, f6⟩ := lk_seek hw' (show (gm (trn n ce) A n).1 ≤ 6 by omega) hM P4 719 (hS (hS h4 28 (cO 2 [vI (yb (gm (trn n ce) A n).1 (gm (trn n ce) A n).2 (trn n so) (trn n ha) (trn n ye) (gc n (trn n ce) B 9).2), vR 29, vI 1, vI ((gm (trn n ce) A n).1 : Int), vR 35, vR 36, vR 37, vR 38, vR 39])) 37 (cI 0 6 (fun j => if j < 6 then (gc n (trn n ce) B 9).2 j else C j))) (gc n (trn n ce) B 9).2 (gc n (trn n ce) B 9).2 _ I5 (yb (gm (trn n ce) A n).1 (gm (trn n ce) A n).2 (trn n so) (trn n ha) (trn n ye) (gc n (trn n ce) B 9).2) vU (by omega) (by unfold LiO; rw [hS_ne (by omega)]; exact hS_same) (RT.on (G := (n, c, 0, trn n ha)) (T := (t, trn n ce, trn n so, trn n ye)) (S3.fr f4 (by omega)) (fun x hx => f5.2 x (by omega))) (f5.at ((f4.at (by omega)).trans A3) (by omega)) (by rw [hS_ne (by omega), hS_ne (by omega)]; exact W4) hS_same (fun j hj => if_pos hj) (f5.at ((f4.at (by omega)).trans P3) (by omega)) (by rw [hS_ne (by omega), hS_ne (by omega)]; exact I6) I7 hr (by omega)
  have g3 : Fr 28 40 h h3 := (f1.wd (by omega)).tr ((f2.wd (by omega)).tr ⟨f3.1, fun x hx => f3.2 x (by omega)⟩)
  have g6 : Fr 28 40 h h6 := (g3.tr (f4.wd (by omega))).tr ((show Fr 28 40 _ _ from ⟨f5.1, fun x hx => f5.2 x (by omega)⟩).tr ⟨f6.1, fun x hx => f6.2 x (by omega)⟩)
  have S6 : RepS h6 29 n c t (trn n ce) (trn n so) (trn n ha) (trn n ye) := RT.on (G := (n, c, 0, trn n ha)) (T := (t, trn n ce, trn n so, trn n ye)) (S3.fr f4 (by omega)) (fun x hx => (f6.2 x (by omega)).trans (f5.2 x (by omega)))
  obtain ⟨k1, k2, k3, k4⟩ := lieR_co (A := A) (B := B) hw'
  unfold LiO at O6
  rw [k3, k1] at O6
  have A6 : h6.1 35 = cI 0 6 (gm (trn n ce) A n).2 := (f6.2 35 (by omega)).trans ((f5.2 35 (by omega)).trans ((f4.at (by omega)).trans A3))
  have P6 : h6.1 38 = cI 0 36 P' := (f6.2 38 (by omega)).trans ((f5.2 38 (by omega)).trans ((f4.at (by omega)).trans P3))
  have D : LiA h6 (n, c, lq, ha) (t, ce, so, ye) := ⟨_, _, O6, A6, C6, k2, (fun j hj => (C7 j (by have := k1; simp only at hj; omega)).trans (k4 j hj))⟩
  have E : RT h6 29 (n, c, lq, ha) (t, ce, so, ye) := RepS.co S6 (fun j hj => by obtain ⟨x1, x2, x3, x4⟩ := trn_4 (ce := ce) (so := so) (ha := ha) (ye := ye) j hj; exact ⟨x1.symm, x2.symm, x3.symm, x4.symm⟩)
  refine ⟨h6, ?_, ⟨_, 1, _, _, _, _, _, _, O6, A6, W6, W7, C6, P6, I9, S6.sh, Or.inr ⟨rfl, _, _, D, E, hw⟩⟩, D, g6⟩
  unfold LiO at O3
  simp (disch := omega) only [e_Lie_seek_0, e_Lie_seek_1, e_Lie_seek_4, e_Lie_seek_4b, e_Lie_seek_7, e_Lie_seek_8, e_Lie_seek_11, e_Lie_seek_12, e_Lie_seek_15, e_Lie_seek_15b, e_Lie_seek_18, e_Lie_seek_19, e_Lie_seek_20, e_Lie_seek_23, e_Lie_seek_24, e_Lie_seek_27, e_Lie_seek_28, e_Lie_seek_29, e_Lie_seek_32, e_Lie_seek_33, e_Lie_seek_36, e_Lie_seek_37, e_Lie_seek_38, e_Lie_seek_41, e_Lie_seek_44, e_Lie_seek_45, e_Lie_seek_48, e_Lie_seek_49, e_Lie_seek_50, e_Lie_seek_53, e_Lie_seek_54, e_Lie_seek_56, e_Lie_seek_59, e_Lie_seek_60, e_Lie_seek_62, e_Lie_seek_65, e_Lie_seek_68, e_Lie_seek_69, e_Lie_seek_72, e_Lie_seek_72b, e_Lie_seek_75, e_Lie_seek_76, e_Lie_seek_79, e_Lie_seek_80, e_Lie_seek_81, e_Lie_seek_82, e_Lie_seek_85, e_Lie_seek_88, e_Lie_seek_89, e_Lie_seek_90, e_Lie_seek_93, e_Lie_seek_94, e_Lie_seek_97, e_Lie_seek_98, e_Lie_seek_99, e_Lie_seek_102, e_Lie_seek_103, e_Lie_seek_105, e_Lie_seek_108, e_Lie_seek_111, e_Lie_seek_114, alk_in, ask_in, blk_in, bsk_in, qlk_in, ack_in, rcv_in, rcA_in, bk_i, bk_l, bk_v, hS_same, hS_ne, hS_hS, hS_2, am_10, am_01, am_00, if_true, if_false, gf_2_0, pf_2_0, gf_2_1, pf_2_1, gf_2_2, pf_2_2, gf_2_3, pf_2_3, gf_2_4, pf_2_4, gf_2_5, pf_2_5, gf_2_6, pf_2_6, gf_2_7, pf_2_7, gf_2_8, pf_2_8, a0, qob, e1, b0, e3, O3, e4, O4, W4, C4]
  exact e6
theorem k_seek (L : CLi h) (S : RT h 10 G T) (hw : WT G T) : ∃ h', ev mLie_seek [vR 28, vR 10] h = some (none, h') ∧ CLi h' ∧ LiA h' G T ∧ Fr 28 40 h h' := by
  have L' := L
  obtain ⟨ly, is, sz, A, B, C, P, I, a0, a1, a2, a3, a4, a5, a6, a7, a8⟩ := L
  rw [ev_Lie_seek]
  obtain ⟨h', e', r⟩ := lk_fresh S hw a0 a1 a2 a3 a4 a5 a6 a7
  rcases a8 with z | ⟨z, G1, T1, D, b5, b6⟩
  · subst z
    refine ⟨h', ?_, r⟩
    rw [← e']
    simp (disch := omega) only [e_Lie_seek_0, e_Lie_seek_1, e_Lie_seek_4, e_Lie_seek_4b, alk_in, ask_in, blk_in, bsk_in, qlk_in, ack_in, rcv_in, rcA_in, bk_i, bk_l, bk_v, hS_same, hS_ne, hS_hS, hS_2, am_10, am_01, am_00, if_true, if_false, gf_2_0, pf_2_0, gf_2_1, pf_2_1, gf_2_2, pf_2_2, gf_2_3, pf_2_3, gf_2_4, pf_2_4, gf_2_5, pf_2_5, gf_2_6, pf_2_6, gf_2_7, pf_2_7, gf_2_8, pf_2_8, a0]
  · subst z
    obtain ⟨b, e, hb⟩ := c_like b5 b6 S hw
    obtain ⟨fs, qob⟩ := a7.ob
    rcases hb with hb | ⟨hb, hn, H⟩
    · subst hb
      refine ⟨h', ?_, r⟩
      rw [← e']
      simp (disch := omega) only [e_Lie_seek_0, e_Lie_seek_1, e_Lie_seek_4, e_Lie_seek_4b, e_Lie_seek_7, e_Lie_seek_8, e_Lie_seek_11, e_Lie_seek_12, e_Lie_seek_15, e_Lie_seek_15b, alk_in, ask_in, blk_in, bsk_in, qlk_in, ack_in, rcv_in, rcA_in, bk_i, bk_l, bk_v, hS_same, hS_ne, hS_hS, hS_2, am_10, am_01, am_00, if_true, if_false, gf_2_0, pf_2_0, gf_2_1, pf_2_1, gf_2_2, pf_2_2, gf_2_3, pf_2_3, gf_2_4, pf_2_4, gf_2_5, pf_2_5, gf_2_6, pf_2_6, gf_2_7, pf_2_7, gf_2_8, pf_2_8, a0, qob, e]
    · subst hb
      refine ⟨h, ?_, L', ?_, Fr.rf⟩
      · simp (disch := omega) only [e_Lie_seek_0, e_Lie_seek_1, e_Lie_seek_4, e_Lie_seek_4b, e_Lie_seek_7, e_Lie_seek_8, e_Lie_seek_11, e_Lie_seek_12, e_Lie_seek_15, e_Lie_seek_15b, e_Lie_seek_18, alk_in, ask_in, blk_in, bsk_in, qlk_in, ack_in, rcv_in, rcA_in, bk_i, bk_l, bk_v, hS_same, hS_ne, hS_hS, hS_2, am_10, am_01, am_00, if_true, if_false, gf_2_0, pf_2_0, gf_2_1, pf_2_1, gf_2_2, pf_2_2, gf_2_3, pf_2_3, gf_2_4, pf_2_4, gf_2_5, pf_2_5, gf_2_6, pf_2_6, gf_2_7, pf_2_7, gf_2_8, pf_2_8, a0, qob, e]
      · obtain ⟨n, c, lq, ha⟩ := G
        obtain ⟨t, ce, so, ye⟩ := T
        obtain ⟨n1, c1, lq1, ha1⟩ := G1
        obtain ⟨t1, ce1, so1, ye1⟩ := T1
        simp only at hn H
        subst hn
        have u1 : trn n1 ce1 = trn n1 ce := trn_eq (fun j hj => (H j hj).1)
        have u2 : trn n1 so1 = trn n1 so := trn_eq (fun j hj => (H j hj).2.1)
        have u3 : trn n1 ha1 = trn n1 ha := trn_eq (fun j hj => (H j hj).2.2.1)
        have u4 : trn n1 ye1 = trn n1 ye := trn_eq (fun j hj => (H j hj).2.2.2)
        unfold LiA lieG at D ⊢
        simp only at D ⊢
        rw [u1, u2, u3, u4] at D
        exact D
def aLies (G : Gl) (T : Tm) (m : Int) : Int := if 0 ≤ m ∧ m < G.1 then (if who (lK G.1 (trn G.1 T.2.1)) (lM G.1 (trn G.1 T.2.1)) m = -9 then -9 else (lieG G T).2 (who (lK G.1 (trn G.1 T.2.1)) (lM G.1 (trn G.1 T.2.1)) m).toNat) else -1
theorem lk_best {k : Nat} {ly : am_V} {A C M R : Nat → Int} {m : Int} (hk : k ≤ 6) (hm : rg32 m) (O : LiO h ly (vI 1) k) (a1 : h.1 35 = cI 0 6 A) (a2 : h.1 37 = cI 0 6 C) (b1 : EqB k A M) (b2 : EqB k C R) (hr : ∀ i, i < k → 0 ≤ M i ∧ M i ≤ 6) (hi : ∀ i j, i < k → j < k → M i = M j → i = j) : ∀ (d i : Nat), i + d = k → (∀ j, j < i → ¬ M j = m) → gv mLie_bestCellOf 2 [vR 28, vI m, vI (i : Int)] [] h = some (some (vI (if who k M m = -9 then -9 else R (who k M m).toNat)), h) := by
  unfold LiO at O
  unfold rg32 at hm
  intro d
  induction d with
  | zero =>
    intro i hd H
    have : i = k := by omega
    subst this
    rw [if_pos (who_no H), e_Lie_bestCellOf_2]
    simp (disch := omega) only [e_Lie_bestCellOf_0, e_Lie_bestCellOf_1, e_Lie_bestCellOf_3, e_Lie_bestCellOf_4, e_Lie_bestCellOf_7, e_Lie_bestCellOf_10, e_Lie_bestCellOf_11, e_Lie_bestCellOf_14, e_Lie_bestCellOf_15, e_Lie_bestCellOf_16, e_Lie_bestCellOf_17, e_Lie_bestCellOf_20, e_Lie_bestCellOf_21, e_Lie_bestCellOf_24, e_Lie_bestCellOf_25, e_Lie_bestCellOf_26, e_Lie_bestCellOf_27, e_Lie_bestCellOf_30, e_Lie_bestCellOf_33, e_Lie_bestCellOf_35, alk_in, ask_in, blk_in, bsk_in, qlk_in, ack_in, rcv_in, rcA_in, bk_i, bk_l, bk_v, hS_same, hS_ne, hS_hS, hS_2, am_10, am_01, am_00, if_true, if_false, gf_2_0, pf_2_0, gf_2_1, pf_2_1, gf_2_2, pf_2_2, gf_2_3, pf_2_3, gf_2_4, pf_2_4, gf_2_5, pf_2_5, gf_2_6, pf_2_6, gf_2_7, pf_2_7, gf_2_8, pf_2_8, O]
    rw [if_neg (by omega)]
  | succ d ih =>
    intro i hd H
    have r := hr i (by omega)
    have e1 := b1 i (by omega)
    have e2 := b2 i (by omega)
    by_cases q : M i = m
    · have e3 := who_at (n := k) (ce := M) (x := m) (show i < k by omega) q (fun j hj e => hi j i hj (by omega) (e.trans q.symm))
      rw [e3, if_neg (by omega), Int.toNat_natCast, e_Lie_bestCellOf_2]
      simp (disch := omega) only [e_Lie_bestCellOf_0, e_Lie_bestCellOf_1, e_Lie_bestCellOf_3, e_Lie_bestCellOf_4, e_Lie_bestCellOf_7, e_Lie_bestCellOf_10, e_Lie_bestCellOf_11, e_Lie_bestCellOf_14, e_Lie_bestCellOf_15, e_Lie_bestCellOf_16, e_Lie_bestCellOf_17, e_Lie_bestCellOf_20, e_Lie_bestCellOf_21, e_Lie_bestCellOf_24, e_Lie_bestCellOf_25, e_Lie_bestCellOf_26, e_Lie_bestCellOf_27, e_Lie_bestCellOf_30, e_Lie_bestCellOf_33, e_Lie_bestCellOf_35, alk_in, ask_in, blk_in, bsk_in, qlk_in, ack_in, rcv_in, rcA_in, bk_i, bk_l, bk_v, hS_same, hS_ne, hS_hS, hS_2, am_10, am_01, am_00, if_true, if_false, gf_2_0, pf_2_0, gf_2_1, pf_2_1, gf_2_2, pf_2_2, gf_2_3, pf_2_3, gf_2_4, pf_2_4, gf_2_5, pf_2_5, gf_2_6, pf_2_6, gf_2_7, pf_2_7, gf_2_8, pf_2_8, O, a1, a2, Int.toNat_natCast, e1, e2, q]
      rw [if_pos (by omega)]
    · have e3 := ih (i + 1) (by omega) (fun j hj => by
        by_cases z : j = i
        · subst z; exact q
        · exact H j (by omega))
      rw [← e3, e_Lie_bestCellOf_2]
      simp (disch := omega) only [e_Lie_bestCellOf_0, e_Lie_bestCellOf_1, e_Lie_bestCellOf_3, e_Lie_bestCellOf_4, e_Lie_bestCellOf_7, e_Lie_bestCellOf_10, e_Lie_bestCellOf_11, e_Lie_bestCellOf_14, e_Lie_bestCellOf_15, e_Lie_bestCellOf_16, e_Lie_bestCellOf_17, e_Lie_bestCellOf_20, e_Lie_bestCellOf_21, e_Lie_bestCellOf_24, e_Lie_bestCellOf_25, e_Lie_bestCellOf_26, e_Lie_bestCellOf_27, e_Lie_bestCellOf_30, e_Lie_bestCellOf_33, e_Lie_bestCellOf_35, alk_in, ask_in, blk_in, bsk_in, qlk_in, ack_in, rcv_in, rcA_in, bk_i, bk_l, bk_v, hS_same, hS_ne, hS_hS, hS_2, am_10, am_01, am_00, if_true, if_false, gf_2_0, pf_2_0, gf_2_1, pf_2_1, gf_2_2, pf_2_2, gf_2_3, pf_2_3, gf_2_4, pf_2_4, gf_2_5, pf_2_5, gf_2_6, pf_2_6, gf_2_7, pf_2_7, gf_2_8, pf_2_8, O, a1, a2, Int.toNat_natCast, e1, e2, q]
      rw [if_pos (by omega)]; rfl
theorem k_lies (O : CeO h lo pc) (L : CLi h) (S : RT h 10 G T) (hw : WT G T) {m : Int} (hm : rg32 m) : ∃ h', ev mCell_lies [vR 1, vI m] h = some (some (vI (aLies G T m)), h') ∧ CLi h' ∧ Fr 28 40 h h' := by
  obtain ⟨n, c, lq, ha⟩ := G
  obtain ⟨t, ce, so, ye⟩ := T
  have c1 := d_hasMan S hm hw.1
  have sob := S.ob
  unfold aLies
  simp only at c1 sob ⊢
  obtain ⟨h1, e1, L1, D1, f1⟩ := k_seek L S hw
  have O1 : CeO h1 lo pc := (f1.at (by omega)).trans O
  by_cases q : 0 ≤ m ∧ m < n
  · simp only [q, and_self, if_true] at c1
    rw [if_pos q]
    obtain ⟨A, C, d0, d1, d2, d3, d4⟩ := D1
    simp only at d0 d3 d4
    have gl := gm_le (trn n ce) (fun _ => 0) n
    have mno := gm_mno (trn n ce) (fun _ => 0) n
    have hn : n ≤ 6 := hw.1
    have e2 := lk_best (k := lK n (trn n ce)) (h := h1) (m := m) (show (gm (trn n ce) (fun _ => 0) n).1 ≤ 6 by omega) hm d0 d1 d2 d3 d4 (fun i hi => by obtain ⟨z, z1, z2, -⟩ := mno.1 i hi; show 0 ≤ (gm (trn n ce) (fun _ => 0) n).2 i ∧ (gm (trn n ce) (fun _ => 0) n).2 i ≤ 6; omega) mno.2.1 (lK n (trn n ce)) 0 (by omega) (fun j hj => by omega)
    have e3 : ev mLie_bestCellOf [vR 28, vI m] h1 = gv mLie_bestCellOf 2 [vR 28, vI m, vI ((0 : Nat) : Int)] [] h1 := by
      rw [ev_Lie_bestCellOf]
      simp (disch := omega) only [e_Lie_bestCellOf_0, e_Lie_bestCellOf_1]
      rfl
    rw [e2] at e3
    refine ⟨h1, ?_, L1, f1⟩
    have L' := L
    obtain ⟨ly, is, sz, A', B', C', P', I', a0, -⟩ := L'
    unfold CeO at O O1
    rw [ev_Cell_lies]
    simp (disch := omega) only [e_Cell_lies_0, e_Cell_lies_1, e_Cell_lies_4, e_Cell_lies_5, e_Cell_lies_8, e_Cell_lies_8b, e_Cell_lies_11, e_Cell_lies_12, e_Cell_lies_13, e_Cell_lies_14, e_Cell_lies_17, e_Cell_lies_18, e_Cell_lies_21, e_Cell_lies_24, e_Cell_lies_25, e_Cell_lies_28, e_Cell_lies_29, e_Cell_lies_32, alk_in, ask_in, blk_in, bsk_in, qlk_in, ack_in, rcv_in, rcA_in, bk_i, bk_l, bk_v, hS_same, hS_ne, hS_hS, hS_2, am_10, am_01, am_00, if_true, if_false, gf_2_0, pf_2_0, gf_2_1, pf_2_1, gf_2_2, pf_2_2, gf_2_3, pf_2_3, gf_2_4, pf_2_4, gf_2_5, pf_2_5, gf_2_6, pf_2_6, gf_2_7, pf_2_7, gf_2_8, pf_2_8, gf_11_0, pf_11_0, gf_11_1, pf_11_1, gf_11_2, pf_11_2, gf_11_3, pf_11_3, gf_11_4, pf_11_4, gf_11_5, pf_11_5, gf_11_6, pf_11_6, gf_11_7, pf_11_7, gf_11_8, pf_11_8, gf_11_9, pf_11_9, gf_11_10, pf_11_10, gf_11_11, pf_11_11, O, O1, sob, a0, d0, c1, e1, e3]
  · simp only [q, if_false] at c1
    rw [if_neg q]
    refine ⟨h, ?_, L, Fr.rf⟩
    unfold CeO at O
    rw [ev_Cell_lies]
    simp (disch := omega) only [e_Cell_lies_0, e_Cell_lies_1, e_Cell_lies_4, e_Cell_lies_5, e_Cell_lies_8, e_Cell_lies_8b, e_Cell_lies_11, e_Cell_lies_12, e_Cell_lies_13, e_Cell_lies_14, e_Cell_lies_17, e_Cell_lies_18, e_Cell_lies_21, e_Cell_lies_24, e_Cell_lies_25, e_Cell_lies_28, e_Cell_lies_29, e_Cell_lies_32, alk_in, ask_in, blk_in, bsk_in, qlk_in, ack_in, rcv_in, rcA_in, bk_i, bk_l, bk_v, hS_same, hS_ne, hS_hS, hS_2, am_10, am_01, am_00, if_true, if_false, gf_2_0, pf_2_0, gf_2_1, pf_2_1, gf_2_2, pf_2_2, gf_2_3, pf_2_3, gf_2_4, pf_2_4, gf_2_5, pf_2_5, gf_2_6, pf_2_6, gf_2_7, pf_2_7, gf_2_8, pf_2_8, gf_11_0, pf_11_0, gf_11_1, pf_11_1, gf_11_2, pf_11_2, gf_11_3, pf_11_3, gf_11_4, pf_11_4, gf_11_5, pf_11_5, gf_11_6, pf_11_6, gf_11_7, pf_11_7, gf_11_8, pf_11_8, gf_11_9, pf_11_9, gf_11_10, pf_11_10, gf_11_11, pf_11_11, O, sob, c1]
def aNow (G : Gl) (T : Tm) (k : Nat) (w : Int) : Int := if w = 0 then T.1 else if w = 1 then ((btn T.2.1 G.1 : Nat) : Int) else if w = 2 then sye T.2.2.2 G.1 else if w = 3 then (lieG G T).1 else if w = 4 then (k : Int) else -1
theorem k_now {k : Nat} (O : CeO h lo k) (L : CLi h) (S : RT h 10 G T) (hw : WT G T) {w : Int} (hr : rg32 w) : ∃ h', ev mCell_now [vR 1, vI w] h = some (some (vI (aNow G T k w)), h') ∧ CLi h' ∧ Fr 28 40 h h' := by
  obtain ⟨n, c, lq, ha⟩ := G
  obtain ⟨t, ce, so, ye⟩ := T
  have c1 := d_bitsIn S hw
  have c2 := d_yearsOfAll S hw
  have sob := S.ob
  unfold rg32 at hr
  unfold aNow
  simp only at c1 c2 sob ⊢
  obtain ⟨h1, e1, L1, D1, f1⟩ := k_seek L S hw
  have O1 : CeO h1 lo k := (f1.at (by omega)).trans O
  unfold CeO at O O1
  rw [ev_Cell_now]
  by_cases w0 : w = 0
  · subst w0; exact ⟨h, by simp (disch := omega) only [e_Cell_now_0, e_Cell_now_1c0, e_Cell_now_1c1, e_Cell_now_1c2, e_Cell_now_1c3, e_Cell_now_1c4, e_Cell_now_1d, e_Cell_now_36, e_Cell_now_37, e_Cell_now_40, e_Cell_now_43, e_Cell_now_44, e_Cell_now_45, e_Cell_now_48, e_Cell_now_51, e_Cell_now_52, e_Cell_now_53, e_Cell_now_56, e_Cell_now_59, e_Cell_now_60, e_Cell_now_61, e_Cell_now_64, e_Cell_now_65, e_Cell_now_68, e_Cell_now_71, e_Cell_now_72, e_Cell_now_75, e_Cell_now_78, e_Cell_now_79, e_Cell_now_80, e_Cell_now_83, e_Cell_now_84, e_Cell_now_85, alk_in, ask_in, blk_in, bsk_in, qlk_in, ack_in, rcv_in, rcA_in, bk_i, bk_l, bk_v, hS_same, hS_ne, hS_hS, hS_2, am_10, am_01, am_00, if_true, if_false, gf_5_0, pf_5_0, gf_5_1, pf_5_1, gf_5_2, pf_5_2, gf_5_3, pf_5_3, gf_5_4, pf_5_4, gf_5_5, pf_5_5, gf_5_6, pf_5_6, gf_5_7, pf_5_7, gf_11_0, pf_11_0, gf_11_1, pf_11_1, gf_11_2, pf_11_2, gf_11_3, pf_11_3, gf_11_4, pf_11_4, gf_11_5, pf_11_5, gf_11_6, pf_11_6, gf_11_7, pf_11_7, gf_11_8, pf_11_8, gf_11_9, pf_11_9, gf_11_10, pf_11_10, gf_11_11, pf_11_11, O, sob], L, Fr.rf⟩
  by_cases w1 : w = 1
  · subst w1; exact ⟨h, by simp (disch := omega) only [e_Cell_now_0, e_Cell_now_1c0, e_Cell_now_1c1, e_Cell_now_1c2, e_Cell_now_1c3, e_Cell_now_1c4, e_Cell_now_1d, e_Cell_now_36, e_Cell_now_37, e_Cell_now_40, e_Cell_now_43, e_Cell_now_44, e_Cell_now_45, e_Cell_now_48, e_Cell_now_51, e_Cell_now_52, e_Cell_now_53, e_Cell_now_56, e_Cell_now_59, e_Cell_now_60, e_Cell_now_61, e_Cell_now_64, e_Cell_now_65, e_Cell_now_68, e_Cell_now_71, e_Cell_now_72, e_Cell_now_75, e_Cell_now_78, e_Cell_now_79, e_Cell_now_80, e_Cell_now_83, e_Cell_now_84, e_Cell_now_85, alk_in, ask_in, blk_in, bsk_in, qlk_in, ack_in, rcv_in, rcA_in, bk_i, bk_l, bk_v, hS_same, hS_ne, hS_hS, hS_2, am_10, am_01, am_00, if_true, if_false, gf_5_0, pf_5_0, gf_5_1, pf_5_1, gf_5_2, pf_5_2, gf_5_3, pf_5_3, gf_5_4, pf_5_4, gf_5_5, pf_5_5, gf_5_6, pf_5_6, gf_5_7, pf_5_7, gf_11_0, pf_11_0, gf_11_1, pf_11_1, gf_11_2, pf_11_2, gf_11_3, pf_11_3, gf_11_4, pf_11_4, gf_11_5, pf_11_5, gf_11_6, pf_11_6, gf_11_7, pf_11_7, gf_11_8, pf_11_8, gf_11_9, pf_11_9, gf_11_10, pf_11_10, gf_11_11, pf_11_11, O, sob, c1], L, Fr.rf⟩
  by_cases w2 : w = 2
  · subst w2; exact ⟨h, by simp (disch := omega) only [e_Cell_now_0, e_Cell_now_1c0, e_Cell_now_1c1, e_Cell_now_1c2, e_Cell_now_1c3, e_Cell_now_1c4, e_Cell_now_1d, e_Cell_now_36, e_Cell_now_37, e_Cell_now_40, e_Cell_now_43, e_Cell_now_44, e_Cell_now_45, e_Cell_now_48, e_Cell_now_51, e_Cell_now_52, e_Cell_now_53, e_Cell_now_56, e_Cell_now_59, e_Cell_now_60, e_Cell_now_61, e_Cell_now_64, e_Cell_now_65, e_Cell_now_68, e_Cell_now_71, e_Cell_now_72, e_Cell_now_75, e_Cell_now_78, e_Cell_now_79, e_Cell_now_80, e_Cell_now_83, e_Cell_now_84, e_Cell_now_85, alk_in, ask_in, blk_in, bsk_in, qlk_in, ack_in, rcv_in, rcA_in, bk_i, bk_l, bk_v, hS_same, hS_ne, hS_hS, hS_2, am_10, am_01, am_00, if_true, if_false, gf_5_0, pf_5_0, gf_5_1, pf_5_1, gf_5_2, pf_5_2, gf_5_3, pf_5_3, gf_5_4, pf_5_4, gf_5_5, pf_5_5, gf_5_6, pf_5_6, gf_5_7, pf_5_7, gf_11_0, pf_11_0, gf_11_1, pf_11_1, gf_11_2, pf_11_2, gf_11_3, pf_11_3, gf_11_4, pf_11_4, gf_11_5, pf_11_5, gf_11_6, pf_11_6, gf_11_7, pf_11_7, gf_11_8, pf_11_8, gf_11_9, pf_11_9, gf_11_10, pf_11_10, gf_11_11, pf_11_11, O, sob, c2, w0, w1], L, Fr.rf⟩
  by_cases w3 : w = 3
  · subst w3
    obtain ⟨A, C, d0, d1, d2, d3, d4⟩ := D1
    have L' := L
    obtain ⟨ly, is, sz, A', B', C', P', I', a0, -⟩ := L'
    exact ⟨h1, by simp (disch := omega) only [e_Cell_now_0, e_Cell_now_1c0, e_Cell_now_1c1, e_Cell_now_1c2, e_Cell_now_1c3, e_Cell_now_1c4, e_Cell_now_1d, e_Cell_now_36, e_Cell_now_37, e_Cell_now_40, e_Cell_now_43, e_Cell_now_44, e_Cell_now_45, e_Cell_now_48, e_Cell_now_51, e_Cell_now_52, e_Cell_now_53, e_Cell_now_56, e_Cell_now_59, e_Cell_now_60, e_Cell_now_61, e_Cell_now_64, e_Cell_now_65, e_Cell_now_68, e_Cell_now_71, e_Cell_now_72, e_Cell_now_75, e_Cell_now_78, e_Cell_now_79, e_Cell_now_80, e_Cell_now_83, e_Cell_now_84, e_Cell_now_85, alk_in, ask_in, blk_in, bsk_in, qlk_in, ack_in, rcv_in, rcA_in, bk_i, bk_l, bk_v, hS_same, hS_ne, hS_hS, hS_2, am_10, am_01, am_00, if_true, if_false, gf_2_0, pf_2_0, gf_2_1, pf_2_1, gf_2_2, pf_2_2, gf_2_3, pf_2_3, gf_2_4, pf_2_4, gf_2_5, pf_2_5, gf_2_6, pf_2_6, gf_2_7, pf_2_7, gf_2_8, pf_2_8, gf_5_0, pf_5_0, gf_5_1, pf_5_1, gf_5_2, pf_5_2, gf_5_3, pf_5_3, gf_5_4, pf_5_4, gf_5_5, pf_5_5, gf_5_6, pf_5_6, gf_5_7, pf_5_7, gf_11_0, pf_11_0, gf_11_1, pf_11_1, gf_11_2, pf_11_2, gf_11_3, pf_11_3, gf_11_4, pf_11_4, gf_11_5, pf_11_5, gf_11_6, pf_11_6, gf_11_7, pf_11_7, gf_11_8, pf_11_8, gf_11_9, pf_11_9, gf_11_10, pf_11_10, gf_11_11, pf_11_11, O, O1, a0, d0, e1, w0, w1, w2], L1, f1⟩
  by_cases w4 : w = 4
  · subst w4; exact ⟨h, by simp (disch := omega) only [e_Cell_now_0, e_Cell_now_1c0, e_Cell_now_1c1, e_Cell_now_1c2, e_Cell_now_1c3, e_Cell_now_1c4, e_Cell_now_1d, e_Cell_now_36, e_Cell_now_37, e_Cell_now_40, e_Cell_now_43, e_Cell_now_44, e_Cell_now_45, e_Cell_now_48, e_Cell_now_51, e_Cell_now_52, e_Cell_now_53, e_Cell_now_56, e_Cell_now_59, e_Cell_now_60, e_Cell_now_61, e_Cell_now_64, e_Cell_now_65, e_Cell_now_68, e_Cell_now_71, e_Cell_now_72, e_Cell_now_75, e_Cell_now_78, e_Cell_now_79, e_Cell_now_80, e_Cell_now_83, e_Cell_now_84, e_Cell_now_85, alk_in, ask_in, blk_in, bsk_in, qlk_in, ack_in, rcv_in, rcA_in, bk_i, bk_l, bk_v, hS_same, hS_ne, hS_hS, hS_2, am_10, am_01, am_00, if_true, if_false, gf_5_0, pf_5_0, gf_5_1, pf_5_1, gf_5_2, pf_5_2, gf_5_3, pf_5_3, gf_5_4, pf_5_4, gf_5_5, pf_5_5, gf_5_6, pf_5_6, gf_5_7, pf_5_7, gf_11_0, pf_11_0, gf_11_1, pf_11_1, gf_11_2, pf_11_2, gf_11_3, pf_11_3, gf_11_4, pf_11_4, gf_11_5, pf_11_5, gf_11_6, pf_11_6, gf_11_7, pf_11_7, gf_11_8, pf_11_8, gf_11_9, pf_11_9, gf_11_10, pf_11_10, gf_11_11, pf_11_11, O, w0, w1, w2, w3], L, Fr.rf⟩
  · exact ⟨h, by simp (disch := omega) only [e_Cell_now_0, e_Cell_now_1c0, e_Cell_now_1c1, e_Cell_now_1c2, e_Cell_now_1c3, e_Cell_now_1c4, e_Cell_now_1d, e_Cell_now_36, e_Cell_now_37, e_Cell_now_40, e_Cell_now_43, e_Cell_now_44, e_Cell_now_45, e_Cell_now_48, e_Cell_now_51, e_Cell_now_52, e_Cell_now_53, e_Cell_now_56, e_Cell_now_59, e_Cell_now_60, e_Cell_now_61, e_Cell_now_64, e_Cell_now_65, e_Cell_now_68, e_Cell_now_71, e_Cell_now_72, e_Cell_now_75, e_Cell_now_78, e_Cell_now_79, e_Cell_now_80, e_Cell_now_83, e_Cell_now_84, e_Cell_now_85, alk_in, ask_in, blk_in, bsk_in, qlk_in, ack_in, rcv_in, rcA_in, bk_i, bk_l, bk_v, hS_same, hS_ne, hS_hS, hS_2, am_10, am_01, am_00, if_true, if_false, gf_5_0, pf_5_0, gf_5_1, pf_5_1, gf_5_2, pf_5_2, gf_5_3, pf_5_3, gf_5_4, pf_5_4, gf_5_5, pf_5_5, gf_5_6, pf_5_6, gf_5_7, pf_5_7, gf_11_0, pf_11_0, gf_11_1, pf_11_1, gf_11_2, pf_11_2, gf_11_3, pf_11_3, gf_11_4, pf_11_4, gf_11_5, pf_11_5, gf_11_6, pf_11_6, gf_11_7, pf_11_7, gf_11_8, pf_11_8, gf_11_9, pf_11_9, gf_11_10, pf_11_10, gf_11_11, pf_11_11, O, w0, w1, w2, w3, w4], L, Fr.rf⟩
end Seek2
