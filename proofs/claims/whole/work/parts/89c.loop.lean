/-! the law's loop -/
section Cases
variable {h : am_H} {G : Gl} {Z : St} {L : Nat} {f : Nat → Int} {im : Nat → Option Tm} {kk : Nat} {s v : Nat → Int} {tr : Int} {Ls i : Nat} {fs : Nat → Int}
theorem lc_gaol (I : Inv h G Z L f im kk s v tr) (hs : h.1 0 = cI 9 Ls fs) (hi : i + 5 ≤ Ls) (hl : Ls ≤ 2560) (hf : ∀ j, rg32 (fs j)) : CallD i 184 h := by
  obtain ⟨p, C, M⟩ := I
  have hw := p.1
  have ht := p.2.1
  have hk := p.2.2.1
  have hL := p.2.2.2.2.2.1
  have hfx := p.2.2.2.2.2.2.1
  have hS := p.2.2.2.2.2.2.2.1
  have hlo := p.2.2.2.2.2.2.2.2
  have rr := rdT_r hfx
  have kg := k_gaol C.1.1 hL hfx C.2.2.1 C.1.2.1.sh C.2.2.2.2.1 C.2.2.2.1
  have O := C.1.1
  unfold CeO at O
  cases e : rdT L f with
  | inl q =>
    rw [e] at kg rr
    simp only at kg rr
    obtain ⟨h1, e1, X1, f1⟩ := kg
    have C1 := C.tx hk X1 f1
    have F1 := f1.fc (by omega)
    have M1 := M.on F1
    have qg := q_gaol M1.1.1 hL hfx M1.2.1 M1.1.2.1 M1.2.2.1 M1.2.2.2.1
    rw [e] at qg
    simp only at qg
    obtain ⟨h2, e2, O2, R2, S2, f2⟩ := qg
    have F2 := f2.fm (by decide)
    have M2 : MI h2 G Z L f im kk s v tr := ⟨⟨O2, R2, M1.1.2.2.1.fe f2 (by decide), M1.1.2.2.2.fe f2 (by decide)⟩, M1.2.1.fe f2 (by decide), S2, M1.2.2.2.1.fe f2 (by decide), M1.2.2.2.2.1.fe f2 (by decide), M1.2.2.2.2.2.fe f2 (by decide)⟩
    refine ⟨h2, _, _, _, _, _, _, _, _, _, ?_, ⟨p, C1.on hk F2, M2⟩, (F2.2 0 (by omega)).trans (F1.2 0 (by omega)), F2.1.trans F1.1⟩
    obtain ⟨y12, y13, y14, y15, o⟩ := M1.1.1
    unfold MoA at o
    simp (disch := omega) only [e_Law_law_184, e_Law_law_185, e_Law_law_188, e_Law_law_189, e_Law_law_192, e_Law_law_195, e_Law_law_196, alk_in, ask_in, blk_in, bsk_in, qlk_in, ack_in, rcv_in, rcA_in, bk_i, bk_l, bk_v, hS_same, hS_ne, hS_hS, hS_2, am_10, am_01, am_00, if_true, if_false, O, o, e1, e2]
  | inr D =>
    rw [e] at kg rr
    simp only at kg rr
    obtain ⟨hD, h1, e1, O1, R1, X1, E1, I1, f1⟩ := kg
    have C1 : CI h1 D.1 (D.2.1, 0, Z.2.2) 0 f (fun _ => none) 0 s v tr := by
      refine ⟨⟨O1, R1, ?_⟩, C.2.1.on (fun x hx => f1.2 x (by omega)), X1, I1, E1, C.2.2.2.2.2.1.on (fun x hx => f1.2 x (by omega)), C.2.2.2.2.2.2.1.on (fun x hx => f1.2 x (by omega)), C.2.2.2.2.2.2.2.on (f1.2 41 (by omega))⟩
      obtain ⟨P, σ, a, b, c, d⟩ := C.1.2.2.on (h' := h1) hk (fun x hx => f1.2 x (by omega))
      exact ⟨P, σ, a, b, c, fun i hi => absurd hi (Nat.not_lt_zero _)⟩
    have F1 := f1.fc (fun x hx => by omega)
    have M1 := M.on F1
    have qg := q_gaol M1.1.1 hL hfx M1.2.1 M1.1.2.1 M1.2.2.1 M1.2.2.2.1
    rw [e] at qg
    simp only at qg
    obtain ⟨h2, e2, O2, R2, S2, I2, f2⟩ := qg
    have F2 := f2.fm (by decide)
    have M2 : MI h2 D.1 (D.2.1, 0, Z.2.2) 0 f (fun _ => none) 0 s v tr := by
      obtain ⟨P, a, b⟩ := M1.1.2.2.1
      obtain ⟨g, c, d⟩ := M1.2.1
      obtain ⟨N, u, w⟩ := M1.2.2.2.2.1
      exact ⟨⟨O2, R2, ⟨P, f2.at a (by decide), fun i hi => absurd hi (Nat.not_lt_zero _)⟩, M1.1.2.2.2.fe f2 (by decide)⟩, ⟨g, f2.at c (by decide), fun j hj => by omega⟩, S2, I2, ⟨N, f2.at u (by decide), fun j hj => by omega⟩, M1.2.2.2.2.2.fe f2 (by decide)⟩
    have pn := p.gao hD
    refine ⟨h2, _, _, _, _, _, _, _, _, _, ?_, ⟨pn, C1.on pn.2.2.1 F2, M2⟩, (F2.2 0 (by omega)).trans (F1.2 0 (by omega)), F2.1.trans F1.1⟩
    obtain ⟨y12, y13, y14, y15, o⟩ := M1.1.1
    unfold MoA at o
    simp (disch := omega) only [e_Law_law_184, e_Law_law_185, e_Law_law_188, e_Law_law_189, e_Law_law_192, e_Law_law_195, e_Law_law_196, alk_in, ask_in, blk_in, bsk_in, qlk_in, ack_in, rcv_in, rcA_in, bk_i, bk_l, bk_v, hS_same, hS_ne, hS_hS, hS_2, am_10, am_01, am_00, if_true, if_false, O, o, e1, e2]
theorem lc_trace (I : Inv h G Z L f im kk s v tr) (hs : h.1 0 = cI 9 Ls fs) (hi : i + 5 ≤ Ls) (hl : Ls ≤ 2560) (hf : ∀ j, rg32 (fs j)) : CallD i 740 h := by
  obtain ⟨p, C, M⟩ := I
  have hw := p.1
  have ht := p.2.1
  have hk := p.2.2.1
  have hL := p.2.2.2.2.2.1
  have hfx := p.2.2.2.2.2.2.1
  have hS := p.2.2.2.2.2.2.2.1
  have hlo := p.2.2.2.2.2.2.2.2
  have e1 := k_trace C.1.1 C.2.2.2.2.2.2.2
  have e2 := q_trace M.1.1
  refine ⟨h, _, _, _, _, _, _, _, _, _, ?_, ⟨p, C, M⟩, rfl, rfl⟩
  have O := C.1.1
  unfold CeO at O
  obtain ⟨y12, y13, y14, y15, o⟩ := M.1.1
  unfold MoA at o
  simp (disch := omega) only [e_Law_law_740, e_Law_law_741, e_Law_law_744, e_Law_law_745, e_Law_law_748, e_Law_law_749, e_Law_law_749b, e_Law_law_752, e_Law_law_753, alk_in, ask_in, blk_in, bsk_in, qlk_in, ack_in, rcv_in, rcA_in, bk_i, bk_l, bk_v, hS_same, hS_ne, hS_hS, hS_2, am_10, am_01, am_00, if_true, if_false, O, o, e1, e2, jlcmp_self]
end Cases
theorem law_loop {Ls : Nat} {fs : Nat → Int} (hl : Ls ≤ 2560) (hf : ∀ j, rg32 (fs j)) : ∀ (d i : Nat) (h : am_H) (G : Gl) (Z : St) (L : Nat) (f : Nat → Int) (im : Nat → Option Tm) (kk : Nat) (s v : Nat → Int) (tr : Int), Ls < i + 5 * (d + 1) → i ≤ 2560 → Inv h G Z L f im kk s v tr → h.1 0 = cI 9 Ls fs → ∃ h', gv mLaw_law 18 [vR 0, vR 1, vR 120, vI (i : Int)] [] h = some (some (vI 1), h') ∧ h'.2 = h.2 := by
  intro d
  induction d with
  | zero =>
    intro i h G Z L f im kk s v tr hd hi I hs
    have e20 : ∀ (ls r : List am_V), gv mLaw_law 20 ls (vR 0 :: r) h = gv mLaw_law 21 ls (vI (Ls : Int) :: r) h := fun ls r => e_Law_law_20 hs
    refine ⟨h, ?_, rfl⟩
    rw [e_Law_law_18]
    simp (disch := omega) only [e_Law_law_19, e20, e_Law_law_21, e_Law_law_22, e_Law_law_23, e_Law_law_760, e_Law_law_761, alk_in, ask_in, blk_in, bsk_in, qlk_in, ack_in, rcv_in, rcA_in, bk_i, bk_l, bk_v, hS_same, hS_ne, hS_hS, hS_2, am_10, am_01, am_00, if_true, if_false]
    rw [if_pos (by omega)]
  | succ d ih =>
    intro i h G Z L f im kk s v tr hd hi I hs
    have e20 : ∀ (ls r : List am_V), gv mLaw_law 20 ls (vR 0 :: r) h = gv mLaw_law 21 ls (vI (Ls : Int) :: r) h := fun ls r => e_Law_law_20 hs
    by_cases q : (Ls : Int) - 5 < (i : Int)
    · refine ⟨h, ?_, rfl⟩
      rw [e_Law_law_18]
      simp (disch := omega) only [e_Law_law_19, e20, e_Law_law_21, e_Law_law_22, e_Law_law_23, e_Law_law_760, e_Law_law_761, alk_in, ask_in, blk_in, bsk_in, qlk_in, ack_in, rcv_in, rcA_in, bk_i, bk_l, bk_v, hS_same, hS_ne, hS_hS, hS_2, am_10, am_01, am_00, if_true, if_false]
      rw [if_pos q]
    · have hi5 : i + 5 ≤ Ls := by omega
      have st : gv mLaw_law 18 [vR 0, vR 1, vR 120, vI (i : Int)] [] h = gv mLaw_law 32 [vR 0, vR 1, vR 120, vI (i : Int)] [vI (jand (fs i) 31)] h := by
        rw [e_Law_law_18]
        simp (disch := omega) only [e_Law_law_19, e20, e_Law_law_21, e_Law_law_22, e_Law_law_23, e_Law_law_26, e_Law_law_27, e_Law_law_28, e_Law_law_29, e_Law_law_31, alk_in, ask_in, blk_in, bsk_in, qlk_in, ack_in, rcv_in, rcA_in, bk_i, bk_l, bk_v, hS_same, hS_ne, hS_hS, hS_2, am_10, am_01, am_00, if_true, if_false, alk_scr, hs, Int.toNat_natCast]
        rw [if_neg q]
      rw [st]
      have cont : ∀ P : Nat, gv mLaw_law 32 [vR 0, vR 1, vR 120, vI (i : Int)] [vI (jand (fs i) 31)] h = gv mLaw_law P [vR 0, vR 1, vR 120, vI (i : Int)] [] h → CallD i P h → ∃ h', gv mLaw_law 32 [vR 0, vR 1, vR 120, vI (i : Int)] [vI (jand (fs i) 31)] h = some (some (vI 1), h') ∧ h'.2 = h.2 := by
        intro P e c
        obtain ⟨h1, G1, Z1, L1, f1, im1, kk1, s1, v1, tr1, e1, I1, z1, n1⟩ := c
        obtain ⟨h2, e2, n2⟩ := ih (i + 5) h1 G1 Z1 L1 f1 im1 kk1 s1 v1 tr1 (by omega) (by omega) I1 (z1.trans hs)
        refine ⟨h2, ?_, n2.trans n1⟩
        rw [e, e1, ← e2]
        simp (disch := omega) only [e_Law_law_754, e_Law_law_757]
        rfl
      have jr := jand31 (fs i)
      by_cases c0 : jand (fs i) 31 = 0
      · exact cont 148 (by rw [c0]; exact e_Law_law_32c0) (lc_type I hs hi5 hl hf)
      by_cases c1 : jand (fs i) 31 = 1
      · exact cont 171 (by rw [c1]; exact e_Law_law_32c1) (lc_clear I hs hi5 hl hf)
      by_cases c2 : jand (fs i) 31 = 2
      · exact cont 184 (by rw [c2]; exact e_Law_law_32c2) (lc_gaol I hs hi5 hl hf)
      by_cases c3 : jand (fs i) 31 = 3
      · exact cont 197 (by rw [c3]; exact e_Law_law_32c3) (lc_man I hs hi5 hl hf)
      by_cases c4 : jand (fs i) 31 = 4
      · exact cont 230 (by rw [c4]; exact e_Law_law_32c4) (lc_cell I hs hi5 hl hf)
      by_cases c5 : jand (fs i) 31 = 5
      · exact cont 253 (by rw [c5]; exact e_Law_law_32c5) (lc_now I hs hi5 hl hf)
      by_cases c6 : jand (fs i) 31 = 6
      · exact cont 276 (by rw [c6]; exact e_Law_law_32c6) (lc_month I hs hi5 hl hf)
      by_cases c7 : jand (fs i) 31 = 7
      · exact cont 289 (by rw [c7]; exact e_Law_law_32c7) (lc_moves I hs hi5 hl hf)
      by_cases c8 : jand (fs i) 31 = 8
      · exact cont 322 (by rw [c8]; exact e_Law_law_32c8) (lc_feigns I hs hi5 hl hf)
      by_cases c9 : jand (fs i) 31 = 9
      · exact cont 355 (by rw [c9]; exact e_Law_law_32c9) (lc_undo I hs hi5 hl hf)
      by_cases c10 : jand (fs i) 31 = 10
      · exact cont 368 (by rw [c10]; exact e_Law_law_32c10) (lc_brings I hs hi5 hl hf)
      by_cases c11 : jand (fs i) 31 = 11
      · exact cont 391 (by rw [c11]; exact e_Law_law_32c11) (lc_putsOn I hs hi5 hl hf)
      by_cases c12 : jand (fs i) 31 = 12
      · exact cont 424 (by rw [c12]; exact e_Law_law_32c12) (lc_carry I hs hi5 hl hf)
      by_cases c13 : jand (fs i) 31 = 13
      · exact cont 457 (by rw [c13]; exact e_Law_law_32c13) (lc_lies I hs hi5 hl hf)
      by_cases c14 : jand (fs i) 31 = 14
      · exact cont 480 (by rw [c14]; exact e_Law_law_32c14) (lc_word I hs hi5 hl hf)
      by_cases c15 : jand (fs i) 31 = 15
      · exact cont 513 (by rw [c15]; exact e_Law_law_32c15) (lc_odds I hs hi5 hl hf)
      by_cases c16 : jand (fs i) 31 = 16
      · exact cont 566 (by rw [c16]; exact e_Law_law_32c16) (lc_sees I hs hi5 hl hf)
      by_cases c17 : jand (fs i) 31 = 17
      · exact cont 599 (by rw [c17]; exact e_Law_law_32c17) (lc_forget I hs hi5 hl hf)
      by_cases c18 : jand (fs i) 31 = 18
      · exact cont 612 (by rw [c18]; exact e_Law_law_32c18) (lc_hards I hs hi5 hl hf)
      by_cases c19 : jand (fs i) 31 = 19
      · exact cont 625 (by rw [c19]; exact e_Law_law_32c19) (lc_next I hs hi5 hl hf)
      by_cases c20 : jand (fs i) 31 = 20
      · exact cont 638 (by rw [c20]; exact e_Law_law_32c20) (lc_rate I hs hi5 hl hf)
      by_cases c21 : jand (fs i) 31 = 21
      · exact cont 671 (by rw [c21]; exact e_Law_law_32c21) (lc_keep I hs hi5 hl hf)
      by_cases c22 : jand (fs i) 31 = 22
      · exact cont 694 (by rw [c22]; exact e_Law_law_32c22) (lc_back I hs hi5 hl hf)
      by_cases c23 : jand (fs i) 31 = 23
      · exact cont 717 (by rw [c23]; exact e_Law_law_32c23) (lc_count I hs hi5 hl hf)
      by_cases c24 : jand (fs i) 31 = 24
      · exact cont 740 (by rw [c24]; exact e_Law_law_32c24) (lc_trace I hs hi5 hl hf)
      refine cont 754 (e_Law_law_32d (by omega)) ⟨h, G, Z, L, f, im, kk, s, v, tr, rfl, I, rfl, rfl⟩
