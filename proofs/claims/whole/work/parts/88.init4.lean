/-! the model's object -/
theorem rdT_0 (f : Nat → Int) : rdT 0 f = .inr D0 := rfl
theorem q_init {h : am_H} (O : h.1 120 = cO 12 [vL 0, vN, vI 0, vN, vN, vN, vN, vI 0, vN, vN, vN, vI 0, vI 0, vI 0, vI 0, vI 0, vN, vN, vN, vN, vN]) (hn : h.2.1 = 121) : ∃ h', ev mMod_init [vR 120] h = some (none, h') ∧ MO h' 0 0 0 0 ∧ RM h' D0.1 D0.2.1 ∧ (∀ f, MTx h' 0 f) ∧ Sh h' 123 29 ∧ (∀ p, MPa h' D0.1 0 p) ∧ MIm h' D0.1 (fun _ => none) ∧ (∀ s v, MNo h' 0 s v) ∧ Sh h' 129 6 ∧ MLi h' ∧ h'.2.2 = h.2.2 + 482 ∧ h'.2.1 = 134 ∧ ∀ x, x < 120 → h'.1 x = h.1 x := by
  obtain ⟨H, e, q0, q1, q2, q3, q4, q5, q6, q7, q8, q9, q10, q11, q12, q13, qn, qr, qf⟩ : ∃ H, gv mMod_init 0 [vR 120] [] h = gv mMod_init 108 [vR 120] [] H ∧ MoA H (vL 0) (vI 0) (vI 0) (vI 0) (vI 0) (vI 0) (vI 0) (vI 0) ∧ H.1 121 = cI 0 120 (fun _ => 0) ∧ H.1 122 = cI 0 29 (fun _ => 0) ∧ H.1 123 = cI 0 29 (fun _ => 0) ∧ H.1 124 = cI 0 19 (fun _ => 0) ∧ H.1 125 = cI 0 190 (fun _ => 0) ∧ H.1 126 = cI 0 38 (fun _ => 0) ∧ H.1 127 = cI 1 2 (fun _ => 0) ∧ H.1 128 = cI 0 12 (fun _ => 0) ∧ H.1 129 = cI 0 6 (fun _ => 0) ∧ H.1 130 = cI 0 19 (fun _ => 0) ∧ H.1 131 = cI 0 6 (fun _ => 0) ∧ H.1 132 = cI 0 6 (fun _ => 0) ∧ H.1 133 = cI 0 6 (fun _ => 0) ∧ H.2.1 = 134 ∧ H.2.2 = h.2.2 + 482 ∧ ∀ x, x < 120 → H.1 x = h.1 x := by
    refine ⟨_, by
      simp (disch := (first | omega | (simp only [hS_21, hA_21, hn]; done) | (simp only [hS_21, hA_21, hn]; omega))) only [e_Mod_init_0, e_Mod_init_1, e_Mod_init_4, e_Mod_init_5, e_Mod_init_7, e_Mod_init_9, e_Mod_init_12, e_Mod_init_13, e_Mod_init_15, e_Mod_init_17, e_Mod_init_20, e_Mod_init_21, e_Mod_init_23, e_Mod_init_25, e_Mod_init_28, e_Mod_init_29, e_Mod_init_31, e_Mod_init_33, e_Mod_init_36, e_Mod_init_37, e_Mod_init_40, e_Mod_init_42, e_Mod_init_45, e_Mod_init_46, e_Mod_init_48, e_Mod_init_50, e_Mod_init_53, e_Mod_init_54, e_Mod_init_55, e_Mod_init_57, e_Mod_init_60, e_Mod_init_61, e_Mod_init_63, e_Mod_init_65, e_Mod_init_68, e_Mod_init_69, e_Mod_init_71, e_Mod_init_73, e_Mod_init_76, e_Mod_init_77, e_Mod_init_79, e_Mod_init_81, e_Mod_init_84, e_Mod_init_85, e_Mod_init_87, e_Mod_init_89, e_Mod_init_92, e_Mod_init_93, e_Mod_init_95, e_Mod_init_97, e_Mod_init_100, e_Mod_init_101, e_Mod_init_103, e_Mod_init_105, alk_in, ask_in, blk_in, bsk_in, qlk_in, ack_in, rcv_in, rcA_in, bk_i, bk_l, bk_v, hS_same, hS_ne, hS_hS, hS_2, am_10, am_01, am_00, if_true, if_false, gf_12_0, pf_12_0, gf_12_1, pf_12_1, gf_12_2, pf_12_2, gf_12_3, pf_12_3, gf_12_4, pf_12_4, gf_12_5, pf_12_5, gf_12_6, pf_12_6, gf_12_7, pf_12_7, gf_12_8, pf_12_8, gf_12_9, pf_12_9, gf_12_10, pf_12_10, gf_12_11, pf_12_11, gf_12_12, pf_12_12, gf_12_13, pf_12_13, gf_12_14, pf_12_14, gf_12_15, pf_12_15, gf_12_16, pf_12_16, gf_12_17, pf_12_17, gf_12_18, pf_12_18, gf_12_19, pf_12_19, gf_12_20, pf_12_20, O, hA_at, hA_ne, hS_21, hA_21, hn, Nat.reduceAdd]
      rfl, ?_, ?_, ?_, ?_, ?_, ?_, ?_, ?_, ?_, ?_, ?_, ?_, ?_, ?_, ?_, ?_, fun x hx => ?_⟩
    · unfold MoA
      simp (disch := (first | omega | (simp only [hS_21, hA_21, hn]; done) | (simp only [hS_21, hA_21, hn]; omega))) only [hS_same, hS_ne, hA_at, hA_ne]
    · simp (disch := (first | omega | (simp only [hS_21, hA_21, hn]; done) | (simp only [hS_21, hA_21, hn]; omega))) only [hS_same, hS_ne, hA_at, hA_ne]; rfl
    · simp (disch := (first | omega | (simp only [hS_21, hA_21, hn]; done) | (simp only [hS_21, hA_21, hn]; omega))) only [hS_same, hS_ne, hA_at, hA_ne]; rfl
    · simp (disch := (first | omega | (simp only [hS_21, hA_21, hn]; done) | (simp only [hS_21, hA_21, hn]; omega))) only [hS_same, hS_ne, hA_at, hA_ne]; rfl
    · simp (disch := (first | omega | (simp only [hS_21, hA_21, hn]; done) | (simp only [hS_21, hA_21, hn]; omega))) only [hS_same, hS_ne, hA_at, hA_ne]; rfl
    · simp (disch := (first | omega | (simp only [hS_21, hA_21, hn]; done) | (simp only [hS_21, hA_21, hn]; omega))) only [hS_same, hS_ne, hA_at, hA_ne]; rfl
    · simp (disch := (first | omega | (simp only [hS_21, hA_21, hn]; done) | (simp only [hS_21, hA_21, hn]; omega))) only [hS_same, hS_ne, hA_at, hA_ne]; rfl
    · simp (disch := (first | omega | (simp only [hS_21, hA_21, hn]; done) | (simp only [hS_21, hA_21, hn]; omega))) only [hS_same, hS_ne, hA_at, hA_ne]; rfl
    · simp (disch := (first | omega | (simp only [hS_21, hA_21, hn]; done) | (simp only [hS_21, hA_21, hn]; omega))) only [hS_same, hS_ne, hA_at, hA_ne]; rfl
    · simp (disch := (first | omega | (simp only [hS_21, hA_21, hn]; done) | (simp only [hS_21, hA_21, hn]; omega))) only [hS_same, hS_ne, hA_at, hA_ne]; rfl
    · simp (disch := (first | omega | (simp only [hS_21, hA_21, hn]; done) | (simp only [hS_21, hA_21, hn]; omega))) only [hS_same, hS_ne, hA_at, hA_ne]; rfl
    · simp (disch := (first | omega | (simp only [hS_21, hA_21, hn]; done) | (simp only [hS_21, hA_21, hn]; omega))) only [hS_same, hS_ne, hA_at, hA_ne]; rfl
    · simp (disch := (first | omega | (simp only [hS_21, hA_21, hn]; done) | (simp only [hS_21, hA_21, hn]; omega))) only [hS_same, hS_ne, hA_at, hA_ne]; rfl
    · simp (disch := (first | omega | (simp only [hS_21, hA_21, hn]; done) | (simp only [hS_21, hA_21, hn]; omega))) only [hS_same, hS_ne, hA_at, hA_ne]; rfl
    · simp only [hS_21, hA_21, hn]
    · simp only [hS_22, hA_22, Nat.add_assoc]; rfl
    · simp (disch := (first | omega | (simp only [hS_21, hA_21, hn]; done) | (simp only [hS_21, hA_21, hn]; omega))) only [hS_same, hS_ne, hA_at, hA_ne]
  have X : MxG 0 (fun _ => 0) (vL 0) (vI 0) (vI 0) (tkE 0 (fun _ => 0)) (tkS 0 (fun _ => 0)) (tkC 0 (fun _ => 0)) (tkN 0 (fun _ => 0)) := ⟨by omega, tk_ok (fun j hj => by omega), tk_mod (by omega) (fun j hj => by omega) (fun j hj => by omega)⟩
  obtain ⟨h1, z12, z13, z15, A', A2, f1, Q⟩ := m_reads X q0 q1 q3
  have er : rdA (tkE 0 (fun _ => 0)) (tkS 0 (fun _ => 0)) (tkC 0 (fun _ => 0)) (tkN 0 (fun _ => 0)) (0 + 1) D0 0 = .inr D0 := rfl
  rw [er] at Q
  simp only at Q
  obtain ⟨e1, ⟨z14, o1⟩, hA, hD⟩ := Q
  obtain ⟨h2, B', K', e2, o2, R2, B2, B3, K2, K3, f2⟩ := m_begins o1 A2 hA hD ⟨_, f1.at q2 (by decide)⟩ ⟨_, f1.at q4 (by decide)⟩ (f1.at q7 (by decide))
  have ff : FE [120, 122, 123, 124, 127] H h2 := (f1.wd (by decide)).tr (f2.wd (by decide))
  refine ⟨h2, ?_, ⟨_, _, _, _, o2⟩, R2, fun f => ⟨_, ff.at q1 (by decide), fun j hj => by omega⟩, ⟨A', f2.at A2 (by decide)⟩, fun p => ⟨_, ff.at q5 (by decide), fun i hi => by omega⟩, ⟨_, K', ff.at q6 (by decide), K2, fun i hi => K3 i hi⟩, fun s v => ⟨_, ff.at q8 (by decide), fun j hj => by omega⟩, ⟨_, ff.at q9 (by decide)⟩, ⟨⟨_, ff.at q10 (by decide)⟩, ⟨_, ff.at q11 (by decide)⟩, ⟨_, ff.at q12 (by decide)⟩, _, ff.at q13 (by decide), fun i hi => by omega⟩, ?_, ?_, fun x hx => ?_⟩
  · have o1' := o1
    unfold MoA at o1'
    have q0' := q0
    unfold MoA at q0'
    rw [ev_Mod_init, e]
    simp (disch := omega) only [e_Mod_init_108, e_Mod_init_109, e_Mod_init_112, e_Mod_init_113, e_Mod_init_114, e_Mod_init_117, alk_in, ask_in, blk_in, bsk_in, qlk_in, ack_in, rcv_in, rcA_in, bk_i, bk_l, bk_v, hS_same, hS_ne, hS_hS, hS_2, am_10, am_01, am_00, if_true, if_false, gf_12_0, pf_12_0, gf_12_1, pf_12_1, gf_12_2, pf_12_2, gf_12_3, pf_12_3, gf_12_4, pf_12_4, gf_12_5, pf_12_5, gf_12_6, pf_12_6, gf_12_7, pf_12_7, gf_12_8, pf_12_8, gf_12_9, pf_12_9, gf_12_10, pf_12_10, gf_12_11, pf_12_11, gf_12_12, pf_12_12, gf_12_13, pf_12_13, gf_12_14, pf_12_14, gf_12_15, pf_12_15, gf_12_16, pf_12_16, gf_12_17, pf_12_17, gf_12_18, pf_12_18, gf_12_19, pf_12_19, gf_12_20, pf_12_20, q0', e1, o1', e2]
  · rw [ff.1]; exact qr
  · rw [ff.1]; exact qn
  · rw [ff.2 x (by
      intro z
      simp only [List.mem_cons, List.not_mem_nil, or_false] at z
      omega)]
    exact qf x hx
