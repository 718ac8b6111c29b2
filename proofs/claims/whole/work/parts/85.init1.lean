/-! making objects: the scene, the text, what was seen, the lie -/
theorem hA_at {h : am_H} {c : am_C} {k a : Nat} (q : a = h.2.1) : (hA h c k).1 a = c := if_pos q
theorem hA_ne {h : am_H} {c : am_C} {k a : Nat} (q : ¬ a = h.2.1) : (hA h c k).1 a = h.1 a := if_neg q
theorem hA_21 {h : am_H} {c : am_C} {k : Nat} : (hA h c k).2.1 = h.2.1 + 1 := rfl
theorem hA_22 {h : am_H} {c : am_C} {k : Nat} : (hA h c k).2.2 = h.2.2 + k := rfl
theorem hS_21 {h : am_H} {a : Nat} {c : am_C} : (hS h a c).2.1 = h.2.1 := rfl
theorem hS_22 {h : am_H} {a : Nat} {c : am_C} : (hS h a c).2.2 = h.2.2 := rfl
/-- what making something changes: one that was there, and what is new -/
def Al (b N N' r : Nat) (h h' : am_H) : Prop := h'.2.1 = N' ∧ h'.2.2 = h.2.2 + r ∧ ∀ x, x < N → ¬ x = b → h'.1 x = h.1 x
theorem d_sinit {h : am_H} {b : Nat} (O : h.1 b = cO 5 [vI 0, vI 0, vI 0, vN, vN, vN, vN, vN]) (hn : h.2.1 = b + 1) : ∃ h' ce so ha ye I, ev mScene_init [vR b] h = some (none, h') ∧ ScAt h' b 0 6 0 ce so ha ye I ∧ (∀ j, j < 9 → I j = -9) ∧ Al b (b + 1) (b + 6) 33 h h' := by
  obtain ⟨H, e, q0, q1, q2, q3, q4, q5, q6, q7, q8⟩ : ∃ H, gv mScene_init 0 [vR b] [] h = gv mScene_init 44 [vR b] [] H ∧ H.1 b = cO 5 [vI 0, vI 0, vI 0, vR (b + 1), vR (b + 2), vR (b + 3), vR (b + 4), vR (b + 5)] ∧ H.1 (b + 1) = cI 0 6 (fun _ => 0) ∧ H.1 (b + 2) = cI 0 6 (fun _ => 0) ∧ H.1 (b + 3) = cI 0 6 (fun _ => 0) ∧ H.1 (b + 4) = cI 0 6 (fun _ => 0) ∧ H.1 (b + 5) = cI 0 9 (fun _ => 0) ∧ H.2.1 = b + 6 ∧ H.2.2 = h.2.2 + 33 ∧ ∀ x, x < b → H.1 x = h.1 x := by
    refine ⟨_, by
      simp (disch := (first | omega | (simp only [hS_21, hA_21, hn]; done) | (simp only [hS_21, hA_21, hn]; omega))) only [e_Scene_init_0, e_Scene_init_1, e_Scene_init_4, e_Scene_init_5, e_Scene_init_7, e_Scene_init_9, e_Scene_init_12, e_Scene_init_13, e_Scene_init_15, e_Scene_init_17, e_Scene_init_20, e_Scene_init_21, e_Scene_init_23, e_Scene_init_25, e_Scene_init_28, e_Scene_init_29, e_Scene_init_31, e_Scene_init_33, e_Scene_init_36, e_Scene_init_37, e_Scene_init_39, e_Scene_init_41, alk_in, ask_in, blk_in, bsk_in, qlk_in, ack_in, rcv_in, rcA_in, bk_i, bk_l, bk_v, hS_same, hS_ne, hS_hS, hS_2, am_10, am_01, am_00, if_true, if_false, gf_5_0, pf_5_0, gf_5_1, pf_5_1, gf_5_2, pf_5_2, gf_5_3, pf_5_3, gf_5_4, pf_5_4, gf_5_5, pf_5_5, gf_5_6, pf_5_6, gf_5_7, pf_5_7, O, hA_at, hA_ne, hS_21, hA_21, hn, Nat.add_assoc, Nat.reduceAdd]
      rfl, ?_, ?_, ?_, ?_, ?_, ?_, ?_, ?_, fun x hx => ?_⟩
    · simp (disch := (first | omega | (simp only [hS_21, hA_21, hn]; done) | (simp only [hS_21, hA_21, hn]; omega))) only [hS_same, hS_ne, hA_at, hA_ne]
    · simp (disch := (first | omega | (simp only [hS_21, hA_21, hn]; done) | (simp only [hS_21, hA_21, hn]; omega))) only [hS_same, hS_ne, hA_at, hA_ne]; rfl
    · simp (disch := (first | omega | (simp only [hS_21, hA_21, hn]; done) | (simp only [hS_21, hA_21, hn]; omega))) only [hS_same, hS_ne, hA_at, hA_ne]; rfl
    · simp (disch := (first | omega | (simp only [hS_21, hA_21, hn]; done) | (simp only [hS_21, hA_21, hn]; omega))) only [hS_same, hS_ne, hA_at, hA_ne]; rfl
    · simp (disch := (first | omega | (simp only [hS_21, hA_21, hn]; done) | (simp only [hS_21, hA_21, hn]; omega))) only [hS_same, hS_ne, hA_at, hA_ne]; rfl
    · simp (disch := (first | omega | (simp only [hS_21, hA_21, hn]; done) | (simp only [hS_21, hA_21, hn]; omega))) only [hS_same, hS_ne, hA_at, hA_ne]; rfl
    · simp only [hS_21, hA_21, hn, Nat.add_assoc, Nat.reduceAdd]
    · simp only [hS_22, hA_22, Nat.add_assoc]; rfl
    · simp (disch := (first | omega | (simp only [hS_21, hA_21, hn]; done) | (simp only [hS_21, hA_21, hn]; omega))) only [hS_same, hS_ne, hA_at, hA_ne]
  obtain ⟨h2, I, e2, S2, I2, f2⟩ := d_makeEmpty q0 q1 q2 q3 q4 q5
  refine ⟨h2, _, _, _, _, I, ?_, S2, I2, ?_, ?_, fun x hx hb => ?_⟩
  · rw [ev_Scene_init, e]
    simp (disch := omega) only [e_Scene_init_44, e_Scene_init_45, e_Scene_init_48, alk_in, ask_in, blk_in, bsk_in, qlk_in, ack_in, rcv_in, rcA_in, bk_i, bk_l, bk_v, hS_same, hS_ne, hS_hS, hS_2, am_10, am_01, am_00, if_true, if_false, q0, e2]
  · rw [f2.1]; exact q6
  · rw [f2.1]; exact q7
  · rw [f2.at (by omega)]; exact q8 x (by omega)
theorem d_tinit {h : am_H} (O : h.1 2 = cO 8 [vI 0, vN, vN, vI 0, vI 0, vI 0, vI 0, vI 0, vI 0, vI 0, vI 0]) (hn : h.2.1 = 3) : ∃ h' f, ev mText_init [vR 2] h = some (none, h') ∧ CTx h' 0 f ∧ Al 2 3 10 161 h h' := by
  obtain ⟨H, e, q0, q1, q2, q3, q4, q5⟩ : ∃ H, gv mText_init 0 [vR 2] [] h = gv mText_init 16 [vR 2] [vR 4, vR 2] H ∧ H.1 2 = cO 8 [vI 0, vR 3, vN, vI 0, vI 0, vI 0, vI 0, vI 0, vI 0, vI 0, vI 0] ∧ H.1 3 = cI 0 120 (fun _ => 0) ∧ H.1 4 = cO 5 [vI 0, vI 0, vI 0, vN, vN, vN, vN, vN] ∧ H.2.1 = 5 ∧ H.2.2 = h.2.2 + 128 ∧ ∀ x, x < 2 → H.1 x = h.1 x := by
    refine ⟨_, by
      simp (disch := (first | omega | (simp only [hS_21, hA_21, hn]; done) | (simp only [hS_21, hA_21, hn]; omega))) only [e_Text_init_0, e_Text_init_1, e_Text_init_4, e_Text_init_5, e_Text_init_7, e_Text_init_9, e_Text_init_12, e_Text_init_13, alk_in, ask_in, blk_in, bsk_in, qlk_in, ack_in, rcv_in, rcA_in, bk_i, bk_l, bk_v, hS_same, hS_ne, hS_hS, hS_2, am_10, am_01, am_00, if_true, if_false, gf_8_0, pf_8_0, gf_8_1, pf_8_1, gf_8_2, pf_8_2, gf_8_3, pf_8_3, gf_8_4, pf_8_4, gf_8_5, pf_8_5, gf_8_6, pf_8_6, gf_8_7, pf_8_7, gf_8_8, pf_8_8, gf_8_9, pf_8_9, gf_8_10, pf_8_10, O, hA_at, hA_ne, hS_21, hA_21, hn, Nat.reduceAdd]
      rfl, ?_, ?_, ?_, ?_, ?_, fun x hx => ?_⟩
    · simp (disch := (first | omega | (simp only [hS_21, hA_21, hn]; done) | (simp only [hS_21, hA_21, hn]; omega))) only [hS_same, hS_ne, hA_at, hA_ne]
    · simp (disch := (first | omega | (simp only [hS_21, hA_21, hn]; done) | (simp only [hS_21, hA_21, hn]; omega))) only [hS_same, hS_ne, hA_at, hA_ne]; rfl
    · simp (disch := (first | omega | (simp only [hS_21, hA_21, hn]; done) | (simp only [hS_21, hA_21, hn]; omega))) only [hS_same, hS_ne, hA_at, hA_ne]
    · simp only [hS_21, hA_21, hn]
    · simp only [hS_22, hA_22, Nat.add_assoc]; rfl
    · simp (disch := (first | omega | (simp only [hS_21, hA_21, hn]; done) | (simp only [hS_21, hA_21, hn]; omega))) only [hS_same, hS_ne, hA_at, hA_ne]
  obtain ⟨h2, ce, so, ha, ye, I, e2, S2, I2, a1, a2, a3⟩ := d_sinit q2 q3
  have b2 := (a3 2 (by omega) (by omega)).trans q0
  refine ⟨hS h2 2 (cO 8 [vI 0, vR 3, vR 4, vI 0, vI 0, vI 0, vI 0, vI 0, vI 0, vI 0, vI 0]), fun _ => 0, ?_, ⟨_, _, _, _, _, _, _, _, fun _ => 0, hS_same, by rw [hS_ne (by omega)]; exact (a3 3 (by omega) (by omega)).trans q1, fun j hj => by omega, ?_⟩, ?_, ?_, fun x hx hb => ?_⟩
  · rw [ev_Text_init, e]
    simp (disch := omega) only [e_Text_init_16, e_Text_init_17, e_Text_init_20, e_Text_init_23, alk_in, ask_in, blk_in, bsk_in, qlk_in, ack_in, rcv_in, rcA_in, bk_i, bk_l, bk_v, hS_same, hS_ne, hS_hS, hS_2, am_10, am_01, am_00, if_true, if_false, gf_8_0, pf_8_0, gf_8_1, pf_8_1, gf_8_2, pf_8_2, gf_8_3, pf_8_3, gf_8_4, pf_8_4, gf_8_5, pf_8_5, gf_8_6, pf_8_6, gf_8_7, pf_8_7, gf_8_8, pf_8_8, gf_8_9, pf_8_9, gf_8_10, pf_8_10, q2, e2, b2]
  · exact ScSh.on ⟨_, _, _, _, _, _, _, _, S2⟩ (fun x hx => hS_ne (by omega))
  · exact a1
  · show h2.2.2 = _
    rw [a2, q4]
  · rw [hS_ne (by omega), a3 x (by omega) (by omega), q5 x (by omega)]
theorem d_einit {h : am_H} (O : h.1 25 = cO 6 [vI 0, vN, vN]) (hn : h.2.1 = 26) : ∃ h' s v, ev mSeen_init [vR 25] h = some (none, h') ∧ CSe h' 0 s v ∧ Al 25 26 28 12 h h' := by
  refine ⟨_, fun _ => 0, fun _ => 0, by
    rw [ev_Seen_init]
    simp (disch := (first | omega | (simp only [hS_21, hA_21, hn]; done) | (simp only [hS_21, hA_21, hn]; omega))) only [e_Seen_init_0, e_Seen_init_1, e_Seen_init_4, e_Seen_init_5, e_Seen_init_7, e_Seen_init_9, e_Seen_init_12, e_Seen_init_13, e_Seen_init_15, e_Seen_init_17, e_Seen_init_20, alk_in, ask_in, blk_in, bsk_in, qlk_in, ack_in, rcv_in, rcA_in, bk_i, bk_l, bk_v, hS_same, hS_ne, hS_hS, hS_2, am_10, am_01, am_00, if_true, if_false, gf_6_0, pf_6_0, gf_6_1, pf_6_1, gf_6_2, pf_6_2, O, hA_at, hA_ne, hS_21, hA_21, hn, Nat.reduceAdd]
    rfl, ⟨fun _ => 0, fun _ => 0, ?_, ?_, ?_, fun j hj => by omega⟩, ?_, ?_, fun x hx hb => ?_⟩
  · simp (disch := (first | omega | (simp only [hS_21, hA_21, hn]; done) | (simp only [hS_21, hA_21, hn]; omega))) only [hS_same, hS_ne, hA_at, hA_ne]; rfl
  · simp (disch := (first | omega | (simp only [hS_21, hA_21, hn]; done) | (simp only [hS_21, hA_21, hn]; omega))) only [hS_same, hS_ne, hA_at, hA_ne]; rfl
  · simp (disch := (first | omega | (simp only [hS_21, hA_21, hn]; done) | (simp only [hS_21, hA_21, hn]; omega))) only [hS_same, hS_ne, hA_at, hA_ne]; rfl
  · simp only [hS_21, hA_21, hn]
  · simp only [hS_22, hA_22, Nat.add_assoc]; rfl
  · simp (disch := (first | omega | (simp only [hS_21, hA_21, hn]; done) | (simp only [hS_21, hA_21, hn]; omega))) only [hS_same, hS_ne, hA_at, hA_ne]
theorem d_linit {h : am_H} (O : h.1 28 = cO 2 [vI 0, vN, vI 0, vI 0, vN, vN, vN, vN, vN]) (hn : h.2.1 = 29) : ∃ h', ev mLie_init [vR 28] h = some (none, h') ∧ CLi h' ∧ Al 28 29 40 104 h h' := by
  obtain ⟨h2, ce, so, ha, ye, I, e2, S2, I2, a1, a2, a3⟩ := d_sinit (h := hA h (cO 5 [vI 0, vI 0, vI 0, vN, vN, vN, vN, vN]) 8) (b := 29) (hA_at hn.symm) (by rw [hA_21, hn])
  have b28 : h2.1 28 = cO 2 [vI 0, vN, vI 0, vI 0, vN, vN, vN, vN, vN] := by rw [a3 28 (by omega) (by omega), hA_ne (by omega)]; exact O
  have e29 : (hA h (cO 5 [vI 0, vI 0, vI 0, vN, vN, vN, vN, vN]) 8).1 29 = cO 5 [vI 0, vI 0, vI 0, vN, vN, vN, vN, vN] := hA_at hn.symm
  have a1' : h2.2.1 = 35 := a1
  obtain ⟨H, e, q0, q1, q2, q3, q4, q5, q6, q7, q8⟩ : ∃ H, ev mLie_init [vR 28] h = some (none, H) ∧ H.1 28 = cO 2 [vI 0, vR 29, vI 0, vI 0, vR 35, vR 36, vR 37, vR 38, vR 39] ∧ H.1 35 = cI 0 6 (fun _ => 0) ∧ H.1 36 = cI 0 6 (fun _ => 0) ∧ H.1 37 = cI 0 6 (fun _ => 0) ∧ H.1 38 = cI 0 36 (fun _ => 0) ∧ H.1 39 = cI 0 9 (fun _ => 0) ∧ H.2.1 = 40 ∧ H.2.2 = h2.2.2 + 63 ∧ ∀ x, x < 35 → ¬ x = 28 → H.1 x = h2.1 x := by
    refine ⟨_, by
      rw [ev_Lie_init]
      simp (disch := (first | omega | (simp only [hS_21, hA_21, a1']; done) | (simp only [hS_21, hA_21, a1']; omega))) only [e_Lie_init_0, e_Lie_init_1, e_Lie_init_4, e_Lie_init_5, e_Lie_init_8, e_Lie_init_9, e_Lie_init_12, e_Lie_init_15, e_Lie_init_16, e_Lie_init_18, e_Lie_init_20, e_Lie_init_23, e_Lie_init_24, e_Lie_init_26, e_Lie_init_28, e_Lie_init_31, e_Lie_init_32, e_Lie_init_34, e_Lie_init_36, e_Lie_init_39, e_Lie_init_40, e_Lie_init_42, e_Lie_init_44, e_Lie_init_47, e_Lie_init_48, e_Lie_init_50, e_Lie_init_52, e_Lie_init_55, alk_in, ask_in, blk_in, bsk_in, qlk_in, ack_in, rcv_in, rcA_in, bk_i, bk_l, bk_v, hS_same, hS_ne, hS_hS, hS_2, am_10, am_01, am_00, if_true, if_false, gf_2_0, pf_2_0, gf_2_1, pf_2_1, gf_2_2, pf_2_2, gf_2_3, pf_2_3, gf_2_4, pf_2_4, gf_2_5, pf_2_5, gf_2_6, pf_2_6, gf_2_7, pf_2_7, gf_2_8, pf_2_8, hn, e29, e2, b28, a1', hA_at, hA_ne, hS_21, hA_21, Nat.reduceAdd]
      rfl, ?_, ?_, ?_, ?_, ?_, ?_, ?_, ?_, fun x hx hb => ?_⟩
    · simp (disch := (first | omega | (simp only [hS_21, hA_21, a1']; done) | (simp only [hS_21, hA_21, a1']; omega))) only [hS_same, hS_ne, hA_at, hA_ne]
    · simp (disch := (first | omega | (simp only [hS_21, hA_21, a1']; done) | (simp only [hS_21, hA_21, a1']; omega))) only [hS_same, hS_ne, hA_at, hA_ne]; rfl
    · simp (disch := (first | omega | (simp only [hS_21, hA_21, a1']; done) | (simp only [hS_21, hA_21, a1']; omega))) only [hS_same, hS_ne, hA_at, hA_ne]; rfl
    · simp (disch := (first | omega | (simp only [hS_21, hA_21, a1']; done) | (simp only [hS_21, hA_21, a1']; omega))) only [hS_same, hS_ne, hA_at, hA_ne]; rfl
    · simp (disch := (first | omega | (simp only [hS_21, hA_21, a1']; done) | (simp only [hS_21, hA_21, a1']; omega))) only [hS_same, hS_ne, hA_at, hA_ne]; rfl
    · simp (disch := (first | omega | (simp only [hS_21, hA_21, a1']; done) | (simp only [hS_21, hA_21, a1']; omega))) only [hS_same, hS_ne, hA_at, hA_ne]; rfl
    · simp only [hS_21, hA_21, a1']
    · simp only [hS_22, hA_22, Nat.add_assoc]; rfl
    · simp (disch := (first | omega | (simp only [hS_21, hA_21, a1']; done) | (simp only [hS_21, hA_21, a1']; omega))) only [hS_same, hS_ne, hA_at, hA_ne]
  refine ⟨H, e, ⟨0, 0, 0, _, _, _, _, _, q0, q1, q2, fun i hi => by omega, q3, q4, q5, ScSh.on ⟨_, _, _, _, _, _, _, _, S2⟩ (fun x hx => q8 x (by omega) (by omega)), Or.inl rfl⟩, q6, ?_, fun x hx hb => ?_⟩
  · rw [q7, a2, hA_22]
  · rw [q8 x (by omega) hb, a3 x (by omega) (by omega), hA_ne (by omega)]
