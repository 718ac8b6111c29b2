/-! rate: kinds over one another -/
def aRate (G : Gl) (T : Tm) (kd m : Int) : Int := if (0 ≤ kd ∧ kd ≤ 5) ∧ 0 ≤ m ∧ m < G.1 then (
  let y := T.2.2.2 m.toNat
  let th := y + G.2.2.2 m.toNat
  let bo := y - (if T.2.1 m.toNat = -9 then 0 else T.2.1 m.toNat)
  if kd = 0 then y else if kd = 1 then th else if kd = 2 then bo else if kd = 3 then 2 * th else if kd = 4 then bo + m else y + T.1) else -1000000
def nRate (G : Gl) (tr kd m : Int) : Int := if (0 ≤ kd ∧ kd ≤ 5) ∧ 0 ≤ m ∧ m < G.1 then tr + (if kd = 0 then 1 else if kd = 1 then 11 else if kd = 2 then 101 else if kd = 3 then 1011 else if kd = 4 then 10101 else 100001) else tr
theorem RT.s41 {h : am_H} {G : Gl} {T : Tm} (S : RT h 10 G T) (c : am_C) : RT (hS h 41 c) 10 G T := S.on (fun x hx => hS_ne (by omega))
section Rate
variable {h : am_H} {G : Gl} {T : Tm} {a : Nat} {tr : Int} {fs : List am_V} {ci : Nat}
theorem w_man (S : RT h 10 G T) (hn : G.1 ≤ 6) (E : h.1 41 = cO 7 [vL tr]) {k : Nat} (hk : k < G.1) : ev mMan_worth [vR a, vR 10, vI (k : Int), vR 41] h = some (some (vI (T.2.2.2 k)), hS h 41 (cO 7 [vL (tr + 1)])) := by
  obtain ⟨n, c, lq, ha⟩ := G
  obtain ⟨t, ce, so, ye⟩ := T
  unfold RT at S
  simp only at S hk hn ⊢
  obtain ⟨ce', so', ha', ye', ic, ⟨s0, s1, s2, s3, s4, s5⟩, r1, r2⟩ := S
  rw [ev_Man_worth]
  simp (disch := omega) only [e_Man_worth_0, e_Man_worth_1, e_Man_worth_2, e_Man_worth_5, e_Man_worth_6, e_Man_worth_7, e_Man_worth_10, e_Man_worth_11, e_Man_worth_14, e_Man_worth_15, e_Man_worth_16, alk_in, ask_in, blk_in, bsk_in, qlk_in, ack_in, rcv_in, rcA_in, bk_i, bk_l, bk_v, hS_same, hS_ne, hS_hS, hS_2, am_10, am_01, am_00, if_true, if_false, gf_5_0, pf_5_0, gf_5_1, pf_5_1, gf_5_2, pf_5_2, gf_5_3, pf_5_3, gf_5_4, pf_5_4, gf_5_5, pf_5_5, gf_5_6, pf_5_6, gf_5_7, pf_5_7, gf_7_0, pf_7_0, E, s0, s4, Int.toNat_natCast, (r1 k hk).2.2.2]
theorem w_thief (S : RT h 10 G T) (hn : G.1 ≤ 6) (E : h.1 41 = cO 7 [vL tr]) (A : h.1 a = cO ci fs) (ha41 : ¬ a = 41) {k : Nat} (hk : k < G.1) : ev mThief_worth [vR a, vR 10, vI (k : Int), vR 41] h = some (some (vI (T.2.2.2 k + G.2.2.2 k)), hS h 41 (cO 7 [vL (tr + 11)])) := by
  have c1 := w_man (a := a) (tr := tr + 10) (S.s41 (cO 7 [vL (tr + 10)])) hn hS_same hk
  rw [hS_hS] at c1
  obtain ⟨n, c, lq, ha⟩ := G
  obtain ⟨t, ce, so, ye⟩ := T
  unfold RT at S
  simp only at S hk hn c1 ⊢
  obtain ⟨ce', so', ha', ye', ic, ⟨s0, s1, s2, s3, s4, s5⟩, r1, r2⟩ := S
  have e1 : tr + 10 + 1 = tr + 11 := by omega
  rw [e1] at c1
  rw [ev_Thief_worth]
  simp (disch := omega) only [e_Thief_worth_0, e_Thief_worth_1, e_Thief_worth_2, e_Thief_worth_5, e_Thief_worth_8, e_Thief_worth_9, e_Thief_worth_12, e_Thief_worth_13, e_Thief_worth_14, e_Thief_worth_15, e_Thief_worth_16, e_Thief_worth_19, e_Thief_worth_20, e_Thief_worth_23, e_Thief_worth_24, e_Thief_worth_25, e_Thief_worth_26, alk_in, ask_in, blk_in, bsk_in, qlk_in, ack_in, rcv_in, rcA_in, bk_i, bk_l, bk_v, hS_same, hS_ne, hS_hS, hS_2, am_10, am_01, am_00, if_true, if_false, gf_5_0, pf_5_0, gf_5_1, pf_5_1, gf_5_2, pf_5_2, gf_5_3, pf_5_3, gf_5_4, pf_5_4, gf_5_5, pf_5_5, gf_5_6, pf_5_6, gf_5_7, pf_5_7, gf_7_0, pf_7_0, E, A, s0, s3, c1, Int.toNat_natCast, (r1 k hk).2.2.1]
theorem w_boy (S : RT h 10 G T) (hw : WT G T) (E : h.1 41 = cO 7 [vL tr]) (A : h.1 a = cO ci fs) (ha41 : ¬ a = 41) {k : Nat} (hk : k < G.1) : ev mBoy_worth [vR a, vR 10, vI (k : Int), vR 41] h = some (some (vI (T.2.2.2 k - (if T.2.1 k = -9 then 0 else T.2.1 k))), hS h 41 (cO 7 [vL (tr + 101)])) := by
  have c1 := w_man (a := a) (tr := tr + 100) (S.s41 (cO 7 [vL (tr + 100)])) hw.1 hS_same hk
  rw [hS_hS] at c1
  have S2 := S.s41 (cO 7 [vL (tr + 100)])
  obtain ⟨n, c, lq, ha⟩ := G
  obtain ⟨t, ce, so, ye⟩ := T
  unfold RT at S S2
  unfold WT at hw
  simp only at S S2 hk hw c1 ⊢
  have hn := hw.1
  have c2 := d_isIn S2 hw hk
  obtain ⟨ce', so', ha', ye', ic, ⟨s0, s1, s2, s3, s4, s5⟩, r1, r2⟩ := S
  have e1 : tr + 100 + 1 = tr + 101 := by omega
  rw [e1] at c1
  rw [ev_Boy_worth]
  by_cases q : ce k = -9
  · simp only [q, if_true] at c2 ⊢
    simp (disch := omega) only [e_Boy_worth_0, e_Boy_worth_1, e_Boy_worth_2, e_Boy_worth_5, e_Boy_worth_8, e_Boy_worth_9, e_Boy_worth_12, e_Boy_worth_13, e_Boy_worth_14, e_Boy_worth_17, e_Boy_worth_17b, e_Boy_worth_20, e_Boy_worth_21, e_Boy_worth_24, e_Boy_worth_25, e_Boy_worth_26, e_Boy_worth_29, e_Boy_worth_30, e_Boy_worth_32, e_Boy_worth_33, e_Boy_worth_34, e_Boy_worth_35, e_Boy_worth_36, e_Boy_worth_39, e_Boy_worth_41, e_Boy_worth_42, alk_in, ask_in, blk_in, bsk_in, qlk_in, ack_in, rcv_in, rcA_in, bk_i, bk_l, bk_v, hS_same, hS_ne, hS_hS, hS_2, am_10, am_01, am_00, if_true, if_false, gf_5_0, pf_5_0, gf_5_1, pf_5_1, gf_5_2, pf_5_2, gf_5_3, pf_5_3, gf_5_4, pf_5_4, gf_5_5, pf_5_5, gf_5_6, pf_5_6, gf_5_7, pf_5_7, gf_7_0, pf_7_0, E, A, s0, c1, c2]
  · simp only [q, if_false] at c2 ⊢
    simp (disch := omega) only [e_Boy_worth_0, e_Boy_worth_1, e_Boy_worth_2, e_Boy_worth_5, e_Boy_worth_8, e_Boy_worth_9, e_Boy_worth_12, e_Boy_worth_13, e_Boy_worth_14, e_Boy_worth_17, e_Boy_worth_17b, e_Boy_worth_20, e_Boy_worth_21, e_Boy_worth_24, e_Boy_worth_25, e_Boy_worth_26, e_Boy_worth_29, e_Boy_worth_30, e_Boy_worth_32, e_Boy_worth_33, e_Boy_worth_34, e_Boy_worth_35, e_Boy_worth_36, e_Boy_worth_39, e_Boy_worth_41, e_Boy_worth_42, alk_in, ask_in, blk_in, bsk_in, qlk_in, ack_in, rcv_in, rcA_in, bk_i, bk_l, bk_v, hS_same, hS_ne, hS_hS, hS_2, am_10, am_01, am_00, if_true, if_false, gf_5_0, pf_5_0, gf_5_1, pf_5_1, gf_5_2, pf_5_2, gf_5_3, pf_5_3, gf_5_4, pf_5_4, gf_5_5, pf_5_5, gf_5_6, pf_5_6, gf_5_7, pf_5_7, gf_7_0, pf_7_0, E, A, s0, s1, c1, c2, Int.toNat_natCast, (r1 k hk).1]
theorem w_lawyer (S : RT h 10 G T) (hn : G.1 ≤ 6) (E : h.1 41 = cO 7 [vL tr]) (A : h.1 a = cO ci fs) (ha41 : ¬ a = 41) {k : Nat} (hk : k < G.1) : ev mLawyer_worth [vR a, vR 10, vI (k : Int), vR 41] h = some (some (vI (2 * (T.2.2.2 k + G.2.2.2 k))), hS h 41 (cO 7 [vL (tr + 1011)])) := by
  have c1 := w_thief (a := a) (tr := tr + 1000) (S.s41 (cO 7 [vL (tr + 1000)])) hn hS_same (by rw [hS_ne ha41]; exact A) ha41 hk
  rw [hS_hS] at c1
  have e1 : tr + 1000 + 11 = tr + 1011 := by omega
  rw [e1] at c1
  rw [ev_Lawyer_worth]
  simp (disch := omega) only [e_Lawyer_worth_0, e_Lawyer_worth_1, e_Lawyer_worth_2, e_Lawyer_worth_5, e_Lawyer_worth_8, e_Lawyer_worth_9, e_Lawyer_worth_12, e_Lawyer_worth_13, e_Lawyer_worth_14, e_Lawyer_worth_15, e_Lawyer_worth_16, e_Lawyer_worth_17, e_Lawyer_worth_20, e_Lawyer_worth_21, alk_in, ask_in, blk_in, bsk_in, qlk_in, ack_in, rcv_in, rcA_in, bk_i, bk_l, bk_v, hS_same, hS_ne, hS_hS, hS_2, am_10, am_01, am_00, if_true, if_false, gf_5_0, pf_5_0, gf_5_1, pf_5_1, gf_5_2, pf_5_2, gf_5_3, pf_5_3, gf_5_4, pf_5_4, gf_5_5, pf_5_5, gf_5_6, pf_5_6, gf_5_7, pf_5_7, gf_7_0, pf_7_0, E, A, c1]
theorem w_pear (S : RT h 10 G T) (hw : WT G T) (E : h.1 41 = cO 7 [vL tr]) (A : h.1 a = cO ci fs) (ha41 : ¬ a = 41) {k : Nat} (hk : k < G.1) : ev mPear_worth [vR a, vR 10, vI (k : Int), vR 41] h = some (some (vI (T.2.2.2 k - (if T.2.1 k = -9 then 0 else T.2.1 k) + (k : Int))), hS h 41 (cO 7 [vL (tr + 10101)])) := by
  have c1 := w_boy (a := a) (tr := tr + 10000) (S.s41 (cO 7 [vL (tr + 10000)])) hw hS_same (by rw [hS_ne ha41]; exact A) ha41 hk
  rw [hS_hS] at c1
  have e1 : tr + 10000 + 101 = tr + 10101 := by omega
  rw [e1] at c1
  rw [ev_Pear_worth]
  simp (disch := omega) only [e_Pear_worth_0, e_Pear_worth_1, e_Pear_worth_2, e_Pear_worth_5, e_Pear_worth_8, e_Pear_worth_9, e_Pear_worth_12, e_Pear_worth_13, e_Pear_worth_14, e_Pear_worth_15, e_Pear_worth_16, e_Pear_worth_19, e_Pear_worth_20, e_Pear_worth_21, alk_in, ask_in, blk_in, bsk_in, qlk_in, ack_in, rcv_in, rcA_in, bk_i, bk_l, bk_v, hS_same, hS_ne, hS_hS, hS_2, am_10, am_01, am_00, if_true, if_false, gf_5_0, pf_5_0, gf_5_1, pf_5_1, gf_5_2, pf_5_2, gf_5_3, pf_5_3, gf_5_4, pf_5_4, gf_5_5, pf_5_5, gf_5_6, pf_5_6, gf_5_7, pf_5_7, gf_7_0, pf_7_0, E, A, c1]
theorem w_warder (S : RT h 10 G T) (hn : G.1 ≤ 6) (E : h.1 41 = cO 7 [vL tr]) (A : h.1 a = cO ci fs) (ha41 : ¬ a = 41) {k : Nat} (hk : k < G.1) : ev mWarder_worth [vR a, vR 10, vI (k : Int), vR 41] h = some (some (vI (T.2.2.2 k + T.1)), hS h 41 (cO 7 [vL (tr + 100001)])) := by
  have c1 := w_man (a := a) (tr := tr + 100000) (S.s41 (cO 7 [vL (tr + 100000)])) hn hS_same hk
  rw [hS_hS] at c1
  obtain ⟨n, c, lq, ha⟩ := G
  obtain ⟨t, ce, so, ye⟩ := T
  unfold RT at S
  simp only at S hk hn c1 ⊢
  obtain ⟨ce', so', ha', ye', ic, ⟨s0, s1, s2, s3, s4, s5⟩, r1, r2⟩ := S
  have e1 : tr + 100000 + 1 = tr + 100001 := by omega
  rw [e1] at c1
  rw [ev_Warder_worth]
  simp (disch := omega) only [e_Warder_worth_0, e_Warder_worth_1, e_Warder_worth_2, e_Warder_worth_5, e_Warder_worth_8, e_Warder_worth_9, e_Warder_worth_12, e_Warder_worth_13, e_Warder_worth_14, e_Warder_worth_15, e_Warder_worth_16, e_Warder_worth_19, e_Warder_worth_20, e_Warder_worth_23, e_Warder_worth_24, alk_in, ask_in, blk_in, bsk_in, qlk_in, ack_in, rcv_in, rcA_in, bk_i, bk_l, bk_v, hS_same, hS_ne, hS_hS, hS_2, am_10, am_01, am_00, if_true, if_false, gf_5_0, pf_5_0, gf_5_1, pf_5_1, gf_5_2, pf_5_2, gf_5_3, pf_5_3, gf_5_4, pf_5_4, gf_5_5, pf_5_5, gf_5_6, pf_5_6, gf_5_7, pf_5_7, gf_7_0, pf_7_0, E, A, s0, c1]
theorem k_rate {lo pc : Int} (O : CeO h lo pc) (S : RT h 10 G T) (hw : WT G T) (K : CKi h) (E : CTa h tr) {kd m : Int} (h1 : rg32 kd) (h2 : rg32 m) : ∃ h', ev mCell_rate [vR 1, vI kd, vI m] h = some (some (vI (aRate G T kd m)), h') ∧ CTa h' (nRate G tr kd m) ∧ Fr 41 42 h h' := by
  unfold CeO at O
  unfold CTa at E ⊢
  unfold rg32 at h1 h2
  have c1 := d_hasMan (show RepS h 10 G.1 G.2.1 T.1 T.2.1 T.2.2.1 G.2.2.2 T.2.2.2 from S) h2 hw.1
  obtain ⟨K, K0, K1, k0, k1, k2, k3, k4, k5⟩ := K
  have S0 := S
  obtain ⟨ce', so', ha', ye', ic, ⟨s0, -⟩, -⟩ := S0
  have hn := hw.1
  unfold aRate nRate
  by_cases q : (0 ≤ kd ∧ kd ≤ 5) ∧ 0 ≤ m ∧ m < G.1
  · rw [if_pos q, if_pos q]
    obtain ⟨k, rfl⟩ : ∃ k : Nat, m = (k : Int) := ⟨m.toNat, by omega⟩
    have hk : k < G.1 := by omega
    rw [if_pos q.2] at c1
    simp only [Int.toNat_natCast]
    have fr : ∀ cc : am_C, Fr 41 42 h (hS h 41 cc) := fun cc => Fr.st (by omega)
    have hkd : kd = 0 ∨ kd = 1 ∨ kd = 2 ∨ kd = 3 ∨ kd = 4 ∨ kd = 5 := by omega
    rcases hkd with z | z | z | z | z | z <;> subst z
    · have ct := w_man (a := 114) S hw.1 E hk
      refine ⟨_, ?_, hS_same, fr _⟩
      rw [ev_Cell_rate]
      simp (disch := omega) only [e_Cell_rate_0, e_Cell_rate_1, e_Cell_rate_4, e_Cell_rate_5, e_Cell_rate_7, e_Cell_rate_10, e_Cell_rate_11, e_Cell_rate_14, e_Cell_rate_15, e_Cell_rate_18, e_Cell_rate_18b, e_Cell_rate_21, e_Cell_rate_23, e_Cell_rate_24, e_Cell_rate_25, e_Cell_rate_28, e_Cell_rate_29, e_Cell_rate_30, e_Cell_rate_31, e_Cell_rate_34, e_Cell_rate_35, e_Cell_rate_36, e_Cell_rate_42, alk_in, ask_in, blk_in, bsk_in, qlk_in, ack_in, rcv_in, rcA_in, bk_i, bk_l, bk_v, hS_same, hS_ne, hS_hS, hS_2, am_10, am_01, am_00, if_true, if_false, gf_5_0, pf_5_0, gf_5_1, pf_5_1, gf_5_2, pf_5_2, gf_5_3, pf_5_3, gf_5_4, pf_5_4, gf_5_5, pf_5_5, gf_5_6, pf_5_6, gf_5_7, pf_5_7, gf_11_0, pf_11_0, gf_11_1, pf_11_1, gf_11_2, pf_11_2, gf_11_3, pf_11_3, gf_11_4, pf_11_4, gf_11_5, pf_11_5, gf_11_6, pf_11_6, gf_11_7, pf_11_7, gf_11_8, pf_11_8, gf_11_9, pf_11_9, gf_11_10, pf_11_10, gf_11_11, pf_11_11, O, s0, c1, K0, tl_0, K1 0 (by omega)]
      rw [if_neg (by omega), if_pos (by omega), e_Cell_rate_39k3 k0, ct, bk_i, e_Cell_rate_42]
    · have ct := w_thief (a := 115) S hw.1 E k1 (by decide) hk
      refine ⟨_, ?_, hS_same, fr _⟩
      rw [ev_Cell_rate]
      simp (disch := omega) only [e_Cell_rate_0, e_Cell_rate_1, e_Cell_rate_4, e_Cell_rate_5, e_Cell_rate_7, e_Cell_rate_10, e_Cell_rate_11, e_Cell_rate_14, e_Cell_rate_15, e_Cell_rate_18, e_Cell_rate_18b, e_Cell_rate_21, e_Cell_rate_23, e_Cell_rate_24, e_Cell_rate_25, e_Cell_rate_28, e_Cell_rate_29, e_Cell_rate_30, e_Cell_rate_31, e_Cell_rate_34, e_Cell_rate_35, e_Cell_rate_36, e_Cell_rate_42, alk_in, ask_in, blk_in, bsk_in, qlk_in, ack_in, rcv_in, rcA_in, bk_i, bk_l, bk_v, hS_same, hS_ne, hS_hS, hS_2, am_10, am_01, am_00, if_true, if_false, gf_5_0, pf_5_0, gf_5_1, pf_5_1, gf_5_2, pf_5_2, gf_5_3, pf_5_3, gf_5_4, pf_5_4, gf_5_5, pf_5_5, gf_5_6, pf_5_6, gf_5_7, pf_5_7, gf_11_0, pf_11_0, gf_11_1, pf_11_1, gf_11_2, pf_11_2, gf_11_3, pf_11_3, gf_11_4, pf_11_4, gf_11_5, pf_11_5, gf_11_6, pf_11_6, gf_11_7, pf_11_7, gf_11_8, pf_11_8, gf_11_9, pf_11_9, gf_11_10, pf_11_10, gf_11_11, pf_11_11, O, s0, c1, K0, tl_1, K1 1 (by omega)]
      rw [if_neg (by omega), if_pos (by omega), e_Cell_rate_39k9 k1, ct, bk_i, e_Cell_rate_42]
    · have ct := w_boy (a := 116) S hw E k2 (by decide) hk
      refine ⟨_, ?_, hS_same, fr _⟩
      rw [ev_Cell_rate]
      simp (disch := omega) only [e_Cell_rate_0, e_Cell_rate_1, e_Cell_rate_4, e_Cell_rate_5, e_Cell_rate_7, e_Cell_rate_10, e_Cell_rate_11, e_Cell_rate_14, e_Cell_rate_15, e_Cell_rate_18, e_Cell_rate_18b, e_Cell_rate_21, e_Cell_rate_23, e_Cell_rate_24, e_Cell_rate_25, e_Cell_rate_28, e_Cell_rate_29, e_Cell_rate_30, e_Cell_rate_31, e_Cell_rate_34, e_Cell_rate_35, e_Cell_rate_36, e_Cell_rate_42, alk_in, ask_in, blk_in, bsk_in, qlk_in, ack_in, rcv_in, rcA_in, bk_i, bk_l, bk_v, hS_same, hS_ne, hS_hS, hS_2, am_10, am_01, am_00, if_true, if_false, gf_5_0, pf_5_0, gf_5_1, pf_5_1, gf_5_2, pf_5_2, gf_5_3, pf_5_3, gf_5_4, pf_5_4, gf_5_5, pf_5_5, gf_5_6, pf_5_6, gf_5_7, pf_5_7, gf_11_0, pf_11_0, gf_11_1, pf_11_1, gf_11_2, pf_11_2, gf_11_3, pf_11_3, gf_11_4, pf_11_4, gf_11_5, pf_11_5, gf_11_6, pf_11_6, gf_11_7, pf_11_7, gf_11_8, pf_11_8, gf_11_9, pf_11_9, gf_11_10, pf_11_10, gf_11_11, pf_11_11, O, s0, c1, K0, tl_2, K1 2 (by omega)]
      rw [if_neg (by omega), if_pos (by omega), e_Cell_rate_39k0 k2, ct, bk_i, e_Cell_rate_42]
      rfl
    · have ct := w_lawyer (a := 117) S hw.1 E k3 (by decide) hk
      refine ⟨_, ?_, hS_same, fr _⟩
      rw [ev_Cell_rate]
      simp (disch := omega) only [e_Cell_rate_0, e_Cell_rate_1, e_Cell_rate_4, e_Cell_rate_5, e_Cell_rate_7, e_Cell_rate_10, e_Cell_rate_11, e_Cell_rate_14, e_Cell_rate_15, e_Cell_rate_18, e_Cell_rate_18b, e_Cell_rate_21, e_Cell_rate_23, e_Cell_rate_24, e_Cell_rate_25, e_Cell_rate_28, e_Cell_rate_29, e_Cell_rate_30, e_Cell_rate_31, e_Cell_rate_34, e_Cell_rate_35, e_Cell_rate_36, e_Cell_rate_42, alk_in, ask_in, blk_in, bsk_in, qlk_in, ack_in, rcv_in, rcA_in, bk_i, bk_l, bk_v, hS_same, hS_ne, hS_hS, hS_2, am_10, am_01, am_00, if_true, if_false, gf_5_0, pf_5_0, gf_5_1, pf_5_1, gf_5_2, pf_5_2, gf_5_3, pf_5_3, gf_5_4, pf_5_4, gf_5_5, pf_5_5, gf_5_6, pf_5_6, gf_5_7, pf_5_7, gf_11_0, pf_11_0, gf_11_1, pf_11_1, gf_11_2, pf_11_2, gf_11_3, pf_11_3, gf_11_4, pf_11_4, gf_11_5, pf_11_5, gf_11_6, pf_11_6, gf_11_7, pf_11_7, gf_11_8, pf_11_8, gf_11_9, pf_11_9, gf_11_10, pf_11_10, gf_11_11, pf_11_11, O, s0, c1, K0, tl_3, K1 3 (by omega)]
      rw [if_neg (by omega), if_pos (by omega), e_Cell_rate_39k1 k3, ct, bk_i, e_Cell_rate_42]
      rfl
    · have ct := w_pear (a := 118) S hw E k4 (by decide) hk
      refine ⟨_, ?_, hS_same, fr _⟩
      rw [ev_Cell_rate]
      simp (disch := omega) only [e_Cell_rate_0, e_Cell_rate_1, e_Cell_rate_4, e_Cell_rate_5, e_Cell_rate_7, e_Cell_rate_10, e_Cell_rate_11, e_Cell_rate_14, e_Cell_rate_15, e_Cell_rate_18, e_Cell_rate_18b, e_Cell_rate_21, e_Cell_rate_23, e_Cell_rate_24, e_Cell_rate_25, e_Cell_rate_28, e_Cell_rate_29, e_Cell_rate_30, e_Cell_rate_31, e_Cell_rate_34, e_Cell_rate_35, e_Cell_rate_36, e_Cell_rate_42, alk_in, ask_in, blk_in, bsk_in, qlk_in, ack_in, rcv_in, rcA_in, bk_i, bk_l, bk_v, hS_same, hS_ne, hS_hS, hS_2, am_10, am_01, am_00, if_true, if_false, gf_5_0, pf_5_0, gf_5_1, pf_5_1, gf_5_2, pf_5_2, gf_5_3, pf_5_3, gf_5_4, pf_5_4, gf_5_5, pf_5_5, gf_5_6, pf_5_6, gf_5_7, pf_5_7, gf_11_0, pf_11_0, gf_11_1, pf_11_1, gf_11_2, pf_11_2, gf_11_3, pf_11_3, gf_11_4, pf_11_4, gf_11_5, pf_11_5, gf_11_6, pf_11_6, gf_11_7, pf_11_7, gf_11_8, pf_11_8, gf_11_9, pf_11_9, gf_11_10, pf_11_10, gf_11_11, pf_11_11, O, s0, c1, K0, tl_4, K1 4 (by omega)]
      rw [if_neg (by omega), if_pos (by omega), e_Cell_rate_39k4 k4, ct, bk_i, e_Cell_rate_42]
      rfl
    · have ct := w_warder (a := 119) S hw.1 E k5 (by decide) hk
      refine ⟨_, ?_, hS_same, fr _⟩
      rw [ev_Cell_rate]
      simp (disch := omega) only [e_Cell_rate_0, e_Cell_rate_1, e_Cell_rate_4, e_Cell_rate_5, e_Cell_rate_7, e_Cell_rate_10, e_Cell_rate_11, e_Cell_rate_14, e_Cell_rate_15, e_Cell_rate_18, e_Cell_rate_18b, e_Cell_rate_21, e_Cell_rate_23, e_Cell_rate_24, e_Cell_rate_25, e_Cell_rate_28, e_Cell_rate_29, e_Cell_rate_30, e_Cell_rate_31, e_Cell_rate_34, e_Cell_rate_35, e_Cell_rate_36, e_Cell_rate_42, alk_in, ask_in, blk_in, bsk_in, qlk_in, ack_in, rcv_in, rcA_in, bk_i, bk_l, bk_v, hS_same, hS_ne, hS_hS, hS_2, am_10, am_01, am_00, if_true, if_false, gf_5_0, pf_5_0, gf_5_1, pf_5_1, gf_5_2, pf_5_2, gf_5_3, pf_5_3, gf_5_4, pf_5_4, gf_5_5, pf_5_5, gf_5_6, pf_5_6, gf_5_7, pf_5_7, gf_11_0, pf_11_0, gf_11_1, pf_11_1, gf_11_2, pf_11_2, gf_11_3, pf_11_3, gf_11_4, pf_11_4, gf_11_5, pf_11_5, gf_11_6, pf_11_6, gf_11_7, pf_11_7, gf_11_8, pf_11_8, gf_11_9, pf_11_9, gf_11_10, pf_11_10, gf_11_11, pf_11_11, O, s0, c1, K0, show (5 : Int).toNat = 5 from rfl, K1 5 (by omega)]
      rw [if_neg (by omega), if_pos (by omega), e_Cell_rate_39k10 k5, ct, bk_i, e_Cell_rate_42]
      rfl
  · rw [if_neg q, if_neg q]
    refine ⟨h, ?_, E, Fr.rf⟩
    rw [ev_Cell_rate]
    by_cases y : 0 ≤ kd ∧ kd ≤ 5
    · rw [if_neg (fun z => q ⟨y, z⟩)] at c1
      simp (disch := omega) only [e_Cell_rate_0, e_Cell_rate_1, e_Cell_rate_4, e_Cell_rate_5, e_Cell_rate_7, e_Cell_rate_10, e_Cell_rate_11, e_Cell_rate_14, e_Cell_rate_15, e_Cell_rate_18, e_Cell_rate_18b, e_Cell_rate_21, e_Cell_rate_23, e_Cell_rate_24, e_Cell_rate_25, e_Cell_rate_28, e_Cell_rate_29, e_Cell_rate_30, e_Cell_rate_31, e_Cell_rate_34, e_Cell_rate_35, e_Cell_rate_36, e_Cell_rate_42, alk_in, ask_in, blk_in, bsk_in, qlk_in, ack_in, rcv_in, rcA_in, bk_i, bk_l, bk_v, hS_same, hS_ne, hS_hS, hS_2, am_10, am_01, am_00, if_true, if_false, gf_5_0, pf_5_0, gf_5_1, pf_5_1, gf_5_2, pf_5_2, gf_5_3, pf_5_3, gf_5_4, pf_5_4, gf_5_5, pf_5_5, gf_5_6, pf_5_6, gf_5_7, pf_5_7, gf_11_0, pf_11_0, gf_11_1, pf_11_1, gf_11_2, pf_11_2, gf_11_3, pf_11_3, gf_11_4, pf_11_4, gf_11_5, pf_11_5, gf_11_6, pf_11_6, gf_11_7, pf_11_7, gf_11_8, pf_11_8, gf_11_9, pf_11_9, gf_11_10, pf_11_10, gf_11_11, pf_11_11, O, s0, c1]
      rw [if_neg (by omega), if_pos (by omega)]
    · simp (disch := omega) only [e_Cell_rate_0, e_Cell_rate_1, e_Cell_rate_4, e_Cell_rate_5, e_Cell_rate_7, e_Cell_rate_10, e_Cell_rate_11, e_Cell_rate_14, e_Cell_rate_15, e_Cell_rate_18, e_Cell_rate_18b, e_Cell_rate_21, e_Cell_rate_23, e_Cell_rate_24, e_Cell_rate_25, e_Cell_rate_28, e_Cell_rate_29, e_Cell_rate_30, e_Cell_rate_31, e_Cell_rate_34, e_Cell_rate_35, e_Cell_rate_36, e_Cell_rate_42, alk_in, ask_in, blk_in, bsk_in, qlk_in, ack_in, rcv_in, rcA_in, bk_i, bk_l, bk_v, hS_same, hS_ne, hS_hS, hS_2, am_10, am_01, am_00, if_true, if_false, gf_5_0, pf_5_0, gf_5_1, pf_5_1, gf_5_2, pf_5_2, gf_5_3, pf_5_3, gf_5_4, pf_5_4, gf_5_5, pf_5_5, gf_5_6, pf_5_6, gf_5_7, pf_5_7, gf_11_0, pf_11_0, gf_11_1, pf_11_1, gf_11_2, pf_11_2, gf_11_3, pf_11_3, gf_11_4, pf_11_4, gf_11_5, pf_11_5, gf_11_6, pf_11_6, gf_11_7, pf_11_7, gf_11_8, pf_11_8, gf_11_9, pf_11_9, gf_11_10, pf_11_10, gf_11_11, pf_11_11, O, s0, c1]
      by_cases z : kd < 0
      · rw [if_pos z]
      · rw [if_neg z, if_neg (by omega)]
theorem q_rate {L pc k : Int} (O : MO h tr L pc k) (S : RM h G T) (hw : WT G T) {kd m : Int} (h1 : rg32 kd) (h2 : rg32 m) : ∃ h', ev mMod_rate [vR 120, vI kd, vI m] h = some (some (vI (aRate G T kd m)), h') ∧ MO h' (nRate G tr kd m) L pc k ∧ RM h' G T ∧ FE [120] h h' := by
  have O' := O
  have S0 := S
  obtain ⟨n, c, lq, ha⟩ := G
  obtain ⟨t, ce, so, ye⟩ := T
  unfold rg32 at h1 h2
  have hw1 := hw
  unfold WT at hw1
  simp only at hw1
  have S1 : RepM h n c lq t ce so ha ye := S
  have hn := hw1.1
  have c0 := c_min (h := h) (v := kd) (x := 0) (y := 5) h1 (by omega) (by omega)
  have c1 := m_isMan S1 hn h2
  obtain ⟨y0, y2, y7, y11, y12, y13, y14, y15, T', F, -, a, b, r0, r1, r2, r3, r⟩ := S1
  obtain ⟨x12, x13, x14, x15, o⟩ := O
  unfold MoA at o
  unfold aRate nRate
  simp only
  by_cases q : (0 ≤ kd ∧ kd ≤ 5) ∧ 0 ≤ m ∧ m < n
  · rw [if_pos q, if_pos q]
    rw [if_pos q.1] at c0
    rw [if_pos q.2] at c1
    obtain ⟨i, rfl⟩ : ∃ i : Nat, m = (i : Int) := ⟨m.toNat, by omega⟩
    have hi : i < n := by omega
    have z := r i hi
    have hwi := hw1.2.2.2.1 i hi
    have ob : ∀ tr' : Int, RM (hS h 120 (cO 12 [vL tr', vR 121, vI L, vR 122, vR 123, vR 124, vR 125, vI pc, vR 126, vR 127, vR 128, vI k, x12, x13, x14, x15, vR 129, vR 130, vR 131, vR 132, vR 133])) (n, c, lq, ha) (t, ce, so, ye) := fun tr' => S0.obj _ _ _ _ _ _ _ _
    have c2 : ∀ tr' : Int, ev mMod_isIn [vR 120, vI (i : Int)] (hS h 120 (cO 12 [vL tr', vR 121, vI L, vR 122, vR 123, vR 124, vR 125, vI pc, vR 126, vR 127, vR 128, vI k, x12, x13, x14, x15, vR 129, vR 130, vR 131, vR 132, vR 133])) = some (some (vI (if ce i = -9 then 0 else 1)), hS h 120 (cO 12 [vL tr', vR 121, vI L, vR 122, vR 123, vR 124, vR 125, vI pc, vR 126, vR 127, vR 128, vI k, x12, x13, x14, x15, vR 129, vR 130, vR 131, vR 132, vR 133])) := fun tr' => m_isIn (ob tr') hw1 hi
    simp only [Int.toNat_natCast]
    have hkd : kd = 0 ∨ kd = 1 ∨ kd = 2 ∨ kd = 3 ∨ kd = 4 ∨ kd = 5 := by omega
    refine ⟨_, ?_, ⟨x12, x13, x14, x15, hS_same⟩, ob _, FE.st (by decide)⟩
    rw [ev_Mod_rate]
    by_cases y : ce i = -9
    · simp only [y, if_true] at c2 ⊢
      rcases hkd with w | w | w | w | w | w <;> subst w <;> simp (disch := omega) only [e_Mod_rate_0, e_Mod_rate_1, e_Mod_rate_2, e_Mod_rate_3, e_Mod_rate_6, e_Mod_rate_6b, e_Mod_rate_9, e_Mod_rate_10, e_Mod_rate_11, e_Mod_rate_14, e_Mod_rate_14b, e_Mod_rate_17, e_Mod_rate_19, e_Mod_rate_20, e_Mod_rate_21, e_Mod_rate_22, e_Mod_rate_25, e_Mod_rate_26, e_Mod_rate_26b, e_Mod_rate_29, e_Mod_rate_30, e_Mod_rate_33, e_Mod_rate_34, e_Mod_rate_35, e_Mod_rate_38, e_Mod_rate_41, e_Mod_rate_44, e_Mod_rate_45, e_Mod_rate_46, e_Mod_rate_49, e_Mod_rate_52, e_Mod_rate_55, e_Mod_rate_56, e_Mod_rate_57, e_Mod_rate_60, e_Mod_rate_63, e_Mod_rate_66, e_Mod_rate_67, e_Mod_rate_68, e_Mod_rate_71, e_Mod_rate_74, e_Mod_rate_77, e_Mod_rate_80, e_Mod_rate_81, e_Mod_rate_84, e_Mod_rate_85, e_Mod_rate_88, e_Mod_rate_90, e_Mod_rate_91, e_Mod_rate_92, e_Mod_rate_93, e_Mod_rate_94, e_Mod_rate_95, e_Mod_rate_96, e_Mod_rate_99, e_Mod_rate_100, e_Mod_rate_101, e_Mod_rate_102, e_Mod_rate_103, e_Mod_rate_104, e_Mod_rate_106, e_Mod_rate_107, e_Mod_rate_108, e_Mod_rate_109, e_Mod_rate_112, e_Mod_rate_112b, e_Mod_rate_115, e_Mod_rate_116, e_Mod_rate_119, e_Mod_rate_120, e_Mod_rate_121, e_Mod_rate_122, e_Mod_rate_123, e_Mod_rate_126, e_Mod_rate_127, e_Mod_rate_128, e_Mod_rate_130, e_Mod_rate_131, e_Mod_rate_131b, e_Mod_rate_134, e_Mod_rate_135, e_Mod_rate_138, e_Mod_rate_139, e_Mod_rate_140, e_Mod_rate_143, e_Mod_rate_145, e_Mod_rate_148, e_Mod_rate_149, e_Mod_rate_150, e_Mod_rate_153, e_Mod_rate_155, e_Mod_rate_158, e_Mod_rate_159, e_Mod_rate_160, e_Mod_rate_163, e_Mod_rate_164, e_Mod_rate_166, e_Mod_rate_167, e_Mod_rate_170, e_Mod_rate_171, e_Mod_rate_172, e_Mod_rate_175, e_Mod_rate_177, e_Mod_rate_178, e_Mod_rate_179, e_Mod_rate_182, e_Mod_rate_183, e_Mod_rate_184, e_Mod_rate_187, e_Mod_rate_188, e_Mod_rate_189, e_Mod_rate_190, alk_in, ask_in, blk_in, bsk_in, qlk_in, ack_in, rcv_in, rcA_in, bk_i, bk_l, bk_v, hS_same, hS_ne, hS_hS, hS_2, am_10, am_01, am_00, if_true, if_false, am_l01, am_l02, am_l03, am_l04, am_l05, am_l10, am_l12, am_l13, am_l14, am_l15, am_l20, am_l21, am_l23, am_l24, am_l25, am_l30, am_l31, am_l32, am_l34, am_l35, am_l40, am_l41, am_l42, am_l43, am_l45, am_l50, am_l51, am_l52, am_l53, am_l54, gf_12_0, pf_12_0, gf_12_1, pf_12_1, gf_12_2, pf_12_2, gf_12_3, pf_12_3, gf_12_4, pf_12_4, gf_12_5, pf_12_5, gf_12_6, pf_12_6, gf_12_7, pf_12_7, gf_12_8, pf_12_8, gf_12_9, pf_12_9, gf_12_10, pf_12_10, gf_12_11, pf_12_11, gf_12_12, pf_12_12, gf_12_13, pf_12_13, gf_12_14, pf_12_14, gf_12_15, pf_12_15, gf_12_16, pf_12_16, gf_12_17, pf_12_17, gf_12_18, pf_12_18, gf_12_19, pf_12_19, gf_12_20, pf_12_20, o, a, b, c0, c1, c2, tn_5, tn_13, tl_0, r3, z.1, z.2.2.2]
    · simp only [y, if_false] at c2 ⊢
      rcases hkd with w | w | w | w | w | w <;> subst w <;> simp (disch := omega) only [e_Mod_rate_0, e_Mod_rate_1, e_Mod_rate_2, e_Mod_rate_3, e_Mod_rate_6, e_Mod_rate_6b, e_Mod_rate_9, e_Mod_rate_10, e_Mod_rate_11, e_Mod_rate_14, e_Mod_rate_14b, e_Mod_rate_17, e_Mod_rate_19, e_Mod_rate_20, e_Mod_rate_21, e_Mod_rate_22, e_Mod_rate_25, e_Mod_rate_26, e_Mod_rate_26b, e_Mod_rate_29, e_Mod_rate_30, e_Mod_rate_33, e_Mod_rate_34, e_Mod_rate_35, e_Mod_rate_38, e_Mod_rate_41, e_Mod_rate_44, e_Mod_rate_45, e_Mod_rate_46, e_Mod_rate_49, e_Mod_rate_52, e_Mod_rate_55, e_Mod_rate_56, e_Mod_rate_57, e_Mod_rate_60, e_Mod_rate_63, e_Mod_rate_66, e_Mod_rate_67, e_Mod_rate_68, e_Mod_rate_71, e_Mod_rate_74, e_Mod_rate_77, e_Mod_rate_80, e_Mod_rate_81, e_Mod_rate_84, e_Mod_rate_85, e_Mod_rate_88, e_Mod_rate_90, e_Mod_rate_91, e_Mod_rate_92, e_Mod_rate_93, e_Mod_rate_94, e_Mod_rate_95, e_Mod_rate_96, e_Mod_rate_99, e_Mod_rate_100, e_Mod_rate_101, e_Mod_rate_102, e_Mod_rate_103, e_Mod_rate_104, e_Mod_rate_106, e_Mod_rate_107, e_Mod_rate_108, e_Mod_rate_109, e_Mod_rate_112, e_Mod_rate_112b, e_Mod_rate_115, e_Mod_rate_116, e_Mod_rate_119, e_Mod_rate_120, e_Mod_rate_121, e_Mod_rate_122, e_Mod_rate_123, e_Mod_rate_126, e_Mod_rate_127, e_Mod_rate_128, e_Mod_rate_130, e_Mod_rate_131, e_Mod_rate_131b, e_Mod_rate_134, e_Mod_rate_135, e_Mod_rate_138, e_Mod_rate_139, e_Mod_rate_140, e_Mod_rate_143, e_Mod_rate_145, e_Mod_rate_148, e_Mod_rate_149, e_Mod_rate_150, e_Mod_rate_153, e_Mod_rate_155, e_Mod_rate_158, e_Mod_rate_159, e_Mod_rate_160, e_Mod_rate_163, e_Mod_rate_164, e_Mod_rate_166, e_Mod_rate_167, e_Mod_rate_170, e_Mod_rate_171, e_Mod_rate_172, e_Mod_rate_175, e_Mod_rate_177, e_Mod_rate_178, e_Mod_rate_179, e_Mod_rate_182, e_Mod_rate_183, e_Mod_rate_184, e_Mod_rate_187, e_Mod_rate_188, e_Mod_rate_189, e_Mod_rate_190, alk_in, ask_in, blk_in, bsk_in, qlk_in, ack_in, rcv_in, rcA_in, bk_i, bk_l, bk_v, hS_same, hS_ne, hS_hS, hS_2, am_10, am_01, am_00, if_true, if_false, am_l01, am_l02, am_l03, am_l04, am_l05, am_l10, am_l12, am_l13, am_l14, am_l15, am_l20, am_l21, am_l23, am_l24, am_l25, am_l30, am_l31, am_l32, am_l34, am_l35, am_l40, am_l41, am_l42, am_l43, am_l45, am_l50, am_l51, am_l52, am_l53, am_l54, gf_12_0, pf_12_0, gf_12_1, pf_12_1, gf_12_2, pf_12_2, gf_12_3, pf_12_3, gf_12_4, pf_12_4, gf_12_5, pf_12_5, gf_12_6, pf_12_6, gf_12_7, pf_12_7, gf_12_8, pf_12_8, gf_12_9, pf_12_9, gf_12_10, pf_12_10, gf_12_11, pf_12_11, gf_12_12, pf_12_12, gf_12_13, pf_12_13, gf_12_14, pf_12_14, gf_12_15, pf_12_15, gf_12_16, pf_12_16, gf_12_17, pf_12_17, gf_12_18, pf_12_18, gf_12_19, pf_12_19, gf_12_20, pf_12_20, o, a, b, c0, c1, c2, tn_1, tn_5, tn_13, tl_0, r3, z.1, z.2.1, z.2.2.2]
  · rw [if_neg q, if_neg q]
    refine ⟨h, ?_, O', S0, FE.rf⟩
    rw [ev_Mod_rate]
    by_cases y : 0 ≤ kd ∧ kd ≤ 5
    · rw [if_pos y] at c0
      rw [if_neg (fun z => q ⟨y, z⟩)] at c1
      simp (disch := omega) only [e_Mod_rate_0, e_Mod_rate_1, e_Mod_rate_2, e_Mod_rate_3, e_Mod_rate_6, e_Mod_rate_6b, e_Mod_rate_9, e_Mod_rate_10, e_Mod_rate_11, e_Mod_rate_14, e_Mod_rate_14b, e_Mod_rate_17, e_Mod_rate_19, e_Mod_rate_20, e_Mod_rate_21, e_Mod_rate_22, e_Mod_rate_25, e_Mod_rate_26, e_Mod_rate_26b, e_Mod_rate_29, e_Mod_rate_30, e_Mod_rate_33, e_Mod_rate_34, e_Mod_rate_35, e_Mod_rate_38, e_Mod_rate_41, e_Mod_rate_44, e_Mod_rate_45, e_Mod_rate_46, e_Mod_rate_49, e_Mod_rate_52, e_Mod_rate_55, e_Mod_rate_56, e_Mod_rate_57, e_Mod_rate_60, e_Mod_rate_63, e_Mod_rate_66, e_Mod_rate_67, e_Mod_rate_68, e_Mod_rate_71, e_Mod_rate_74, e_Mod_rate_77, e_Mod_rate_80, e_Mod_rate_81, e_Mod_rate_84, e_Mod_rate_85, e_Mod_rate_88, e_Mod_rate_90, e_Mod_rate_91, e_Mod_rate_92, e_Mod_rate_93, e_Mod_rate_94, e_Mod_rate_95, e_Mod_rate_96, e_Mod_rate_99, e_Mod_rate_100, e_Mod_rate_101, e_Mod_rate_102, e_Mod_rate_103, e_Mod_rate_104, e_Mod_rate_106, e_Mod_rate_107, e_Mod_rate_108, e_Mod_rate_109, e_Mod_rate_112, e_Mod_rate_112b, e_Mod_rate_115, e_Mod_rate_116, e_Mod_rate_119, e_Mod_rate_120, e_Mod_rate_121, e_Mod_rate_122, e_Mod_rate_123, e_Mod_rate_126, e_Mod_rate_127, e_Mod_rate_128, e_Mod_rate_130, e_Mod_rate_131, e_Mod_rate_131b, e_Mod_rate_134, e_Mod_rate_135, e_Mod_rate_138, e_Mod_rate_139, e_Mod_rate_140, e_Mod_rate_143, e_Mod_rate_145, e_Mod_rate_148, e_Mod_rate_149, e_Mod_rate_150, e_Mod_rate_153, e_Mod_rate_155, e_Mod_rate_158, e_Mod_rate_159, e_Mod_rate_160, e_Mod_rate_163, e_Mod_rate_164, e_Mod_rate_166, e_Mod_rate_167, e_Mod_rate_170, e_Mod_rate_171, e_Mod_rate_172, e_Mod_rate_175, e_Mod_rate_177, e_Mod_rate_178, e_Mod_rate_179, e_Mod_rate_182, e_Mod_rate_183, e_Mod_rate_184, e_Mod_rate_187, e_Mod_rate_188, e_Mod_rate_189, e_Mod_rate_190, alk_in, ask_in, blk_in, bsk_in, qlk_in, ack_in, rcv_in, rcA_in, bk_i, bk_l, bk_v, hS_same, hS_ne, hS_hS, hS_2, am_10, am_01, am_00, if_true, if_false, gf_12_0, pf_12_0, gf_12_1, pf_12_1, gf_12_2, pf_12_2, gf_12_3, pf_12_3, gf_12_4, pf_12_4, gf_12_5, pf_12_5, gf_12_6, pf_12_6, gf_12_7, pf_12_7, gf_12_8, pf_12_8, gf_12_9, pf_12_9, gf_12_10, pf_12_10, gf_12_11, pf_12_11, gf_12_12, pf_12_12, gf_12_13, pf_12_13, gf_12_14, pf_12_14, gf_12_15, pf_12_15, gf_12_16, pf_12_16, gf_12_17, pf_12_17, gf_12_18, pf_12_18, gf_12_19, pf_12_19, gf_12_20, pf_12_20, o, c0, c1]
    · rw [if_neg y] at c0
      simp (disch := omega) only [e_Mod_rate_0, e_Mod_rate_1, e_Mod_rate_2, e_Mod_rate_3, e_Mod_rate_6, e_Mod_rate_6b, e_Mod_rate_9, e_Mod_rate_10, e_Mod_rate_11, e_Mod_rate_14, e_Mod_rate_14b, e_Mod_rate_17, e_Mod_rate_19, e_Mod_rate_20, e_Mod_rate_21, e_Mod_rate_22, e_Mod_rate_25, e_Mod_rate_26, e_Mod_rate_26b, e_Mod_rate_29, e_Mod_rate_30, e_Mod_rate_33, e_Mod_rate_34, e_Mod_rate_35, e_Mod_rate_38, e_Mod_rate_41, e_Mod_rate_44, e_Mod_rate_45, e_Mod_rate_46, e_Mod_rate_49, e_Mod_rate_52, e_Mod_rate_55, e_Mod_rate_56, e_Mod_rate_57, e_Mod_rate_60, e_Mod_rate_63, e_Mod_rate_66, e_Mod_rate_67, e_Mod_rate_68, e_Mod_rate_71, e_Mod_rate_74, e_Mod_rate_77, e_Mod_rate_80, e_Mod_rate_81, e_Mod_rate_84, e_Mod_rate_85, e_Mod_rate_88, e_Mod_rate_90, e_Mod_rate_91, e_Mod_rate_92, e_Mod_rate_93, e_Mod_rate_94, e_Mod_rate_95, e_Mod_rate_96, e_Mod_rate_99, e_Mod_rate_100, e_Mod_rate_101, e_Mod_rate_102, e_Mod_rate_103, e_Mod_rate_104, e_Mod_rate_106, e_Mod_rate_107, e_Mod_rate_108, e_Mod_rate_109, e_Mod_rate_112, e_Mod_rate_112b, e_Mod_rate_115, e_Mod_rate_116, e_Mod_rate_119, e_Mod_rate_120, e_Mod_rate_121, e_Mod_rate_122, e_Mod_rate_123, e_Mod_rate_126, e_Mod_rate_127, e_Mod_rate_128, e_Mod_rate_130, e_Mod_rate_131, e_Mod_rate_131b, e_Mod_rate_134, e_Mod_rate_135, e_Mod_rate_138, e_Mod_rate_139, e_Mod_rate_140, e_Mod_rate_143, e_Mod_rate_145, e_Mod_rate_148, e_Mod_rate_149, e_Mod_rate_150, e_Mod_rate_153, e_Mod_rate_155, e_Mod_rate_158, e_Mod_rate_159, e_Mod_rate_160, e_Mod_rate_163, e_Mod_rate_164, e_Mod_rate_166, e_Mod_rate_167, e_Mod_rate_170, e_Mod_rate_171, e_Mod_rate_172, e_Mod_rate_175, e_Mod_rate_177, e_Mod_rate_178, e_Mod_rate_179, e_Mod_rate_182, e_Mod_rate_183, e_Mod_rate_184, e_Mod_rate_187, e_Mod_rate_188, e_Mod_rate_189, e_Mod_rate_190, alk_in, ask_in, blk_in, bsk_in, qlk_in, ack_in, rcv_in, rcA_in, bk_i, bk_l, bk_v, hS_same, hS_ne, hS_hS, hS_2, am_10, am_01, am_00, if_true, if_false, gf_12_0, pf_12_0, gf_12_1, pf_12_1, gf_12_2, pf_12_2, gf_12_3, pf_12_3, gf_12_4, pf_12_4, gf_12_5, pf_12_5, gf_12_6, pf_12_6, gf_12_7, pf_12_7, gf_12_8, pf_12_8, gf_12_9, pf_12_9, gf_12_10, pf_12_10, gf_12_11, pf_12_11, gf_12_12, pf_12_12, gf_12_13, pf_12_13, gf_12_14, pf_12_14, gf_12_15, pf_12_15, gf_12_16, pf_12_16, gf_12_17, pf_12_17, gf_12_18, pf_12_18, gf_12_19, pf_12_19, gf_12_20, pf_12_20, o, c0]
end Rate
