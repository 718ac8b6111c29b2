/-! the law's cases -/
section Cases
variable {h : am_H} {G : Gl} {Z : St} {L : Nat} {f : Nat → Int} {im : Nat → Option Tm} {kk : Nat} {s v : Nat → Int} {tr : Int} {Ls i : Nat} {fs : Nat → Int}
theorem lc_type (I : Inv h G Z L f im kk s v tr) (hs : h.1 0 = cI 9 Ls fs) (hi : i + 5 ≤ Ls) (hl : Ls ≤ 2560) (hf : ∀ j, rg32 (fs j)) : CallD i 148 h := by
  obtain ⟨p, C, M⟩ := I
  have hw := p.1
  have ht := p.2.1
  have hk := p.2.2.1
  have hL := p.2.2.2.2.2.1
  have hfx := p.2.2.2.2.2.2.1
  have hS := p.2.2.2.2.2.2.2.1
  have hlo := p.2.2.2.2.2.2.2.2
  obtain ⟨h1, e1, C1, f1⟩ : ∃ h1, ev mCell_type [vR 1, vI (fs (i + 1))] h = some (some (vI (aType L (fs (i + 1)))), h1) ∧ CI h1 G Z ((nType L f (fs (i + 1))).1) ((nType L f (fs (i + 1))).2) im kk s v tr ∧ FC h h1 := by
    obtain ⟨h1, e, Y, g⟩ := k_type C.1.1 hL C.2.2.1 (hf (i + 1))
    exact ⟨h1, e, C.tx hk Y (g.wd (by omega)), g.fc (by omega)⟩
  have M1 := M.on f1
  obtain ⟨h2, e2, M2, f2⟩ : ∃ h2, ev mMod_type [vR 120, vI (fs (i + 1))] h1 = some (some (vI (aType L (fs (i + 1)))), h2) ∧ MI h2 G Z ((nType L f (fs (i + 1))).1) ((nType L f (fs (i + 1))).2) im kk s v tr ∧ FM h1 h2 := by
    obtain ⟨h2, e, O', S', Y, g⟩ := q_type hL M1.1.1 M1.1.2.1 M1.2.1 (hf (i + 1))
    exact ⟨h2, e, ⟨⟨O', S', M1.1.2.2.1.fe g (by decide), M1.1.2.2.2.fe g (by decide)⟩, Y, M1.2.2.1.fe g (by decide), M1.2.2.2.1.fe g (by decide), M1.2.2.2.2.1.fe g (by decide), M1.2.2.2.2.2.fe g (by decide)⟩, g.fm (by decide)⟩
  have r : rg32 (aType L (fs (i + 1))) := r_type hL _
  have pn : PI G Z ((nType L f (fs (i + 1))).1) ((nType L f (fs (i + 1))).2) im kk s v := p.typ _
  refine ⟨h2, _, _, _, _, _, _, _, _, _, ?_, ⟨pn, C1.on pn.2.2.1 f2, M2⟩, (f2.2 0 (by omega)).trans (f1.2 0 (by omega)), f2.1.trans f1.1⟩
  have O := C.1.1
  unfold CeO at O
  obtain ⟨y12, y13, y14, y15, o⟩ := M1.1.1
  unfold MoA at o
  have hs1 := (f1.2 0 (by omega)).trans hs
  unfold rg32 at r
  have t1 : ((i : Int) + 1).toNat = i + 1 := by omega
  have t2 : ((i : Int) + 2).toNat = i + 2 := by omega
  have t3 : ((i : Int) + 3).toNat = i + 3 := by omega
  have t4 : ((i : Int) + 4).toNat = i + 4 := by omega
  simp (disch := omega) only [e_Law_law_148, e_Law_law_149, e_Law_law_150, e_Law_law_151, e_Law_law_152, e_Law_law_153, e_Law_law_154, e_Law_law_157, e_Law_law_158, e_Law_law_159, e_Law_law_160, e_Law_law_161, e_Law_law_162, e_Law_law_163, e_Law_law_166, e_Law_law_169, e_Law_law_170, alk_in, ask_in, blk_in, bsk_in, qlk_in, ack_in, rcv_in, rcA_in, bk_i, bk_l, bk_v, hS_same, hS_ne, hS_hS, hS_2, am_10, am_01, am_00, if_true, if_false, alk_scr, O, o, hs, hs1, e1, e2, t1, t2, t3, t4]
theorem lc_clear (I : Inv h G Z L f im kk s v tr) (hs : h.1 0 = cI 9 Ls fs) (hi : i + 5 ≤ Ls) (hl : Ls ≤ 2560) (hf : ∀ j, rg32 (fs j)) : CallD i 171 h := by
  obtain ⟨p, C, M⟩ := I
  have hw := p.1
  have ht := p.2.1
  have hk := p.2.2.1
  have hL := p.2.2.2.2.2.1
  have hfx := p.2.2.2.2.2.2.1
  have hS := p.2.2.2.2.2.2.2.1
  have hlo := p.2.2.2.2.2.2.2.2
  obtain ⟨h1, e1, C1, f1⟩ : ∃ h1, ev mCell_clear [vR 1] h = some (some (vI ((L : Int))), h1) ∧ CI h1 G Z 0 f im kk s v tr ∧ FC h h1 := by
    obtain ⟨h1, e, Y, g⟩ := k_clear C.1.1 C.2.2.1
    exact ⟨h1, e, C.tx hk Y (g.wd (by omega)), g.fc (by omega)⟩
  have M1 := M.on f1
  obtain ⟨h2, e2, M2, f2⟩ : ∃ h2, ev mMod_clear [vR 120] h1 = some (some (vI ((L : Int))), h2) ∧ MI h2 G Z 0 f im kk s v tr ∧ FM h1 h2 := by
    obtain ⟨g0, y0, -⟩ := M1.2.1
    obtain ⟨h2, e, O', S', Y, g⟩ := q_clear (f := f) M1.1.1 M1.1.2.1 ⟨g0, y0⟩
    exact ⟨h2, e, ⟨⟨O', S', M1.1.2.2.1.fe g (by decide), M1.1.2.2.2.fe g (by decide)⟩, Y, M1.2.2.1.fe g (by decide), M1.2.2.2.1.fe g (by decide), M1.2.2.2.2.1.fe g (by decide), M1.2.2.2.2.2.fe g (by decide)⟩, g.fm (by decide)⟩
  have r : rg32 ((L : Int)) := (by unfold rg32; omega)
  have pn : PI G Z 0 f im kk s v := ⟨p.1, p.2.1, p.2.2.1, p.2.2.2.1, p.2.2.2.2.1, by omega, fun j hj => by omega, hS, hlo⟩
  refine ⟨h2, _, _, _, _, _, _, _, _, _, ?_, ⟨pn, C1.on pn.2.2.1 f2, M2⟩, (f2.2 0 (by omega)).trans (f1.2 0 (by omega)), f2.1.trans f1.1⟩
  have O := C.1.1
  unfold CeO at O
  obtain ⟨y12, y13, y14, y15, o⟩ := M1.1.1
  unfold MoA at o
  have hs1 := (f1.2 0 (by omega)).trans hs
  unfold rg32 at r
  simp (disch := omega) only [e_Law_law_171, e_Law_law_172, e_Law_law_175, e_Law_law_176, e_Law_law_179, e_Law_law_182, e_Law_law_183, alk_in, ask_in, blk_in, bsk_in, qlk_in, ack_in, rcv_in, rcA_in, bk_i, bk_l, bk_v, hS_same, hS_ne, hS_hS, hS_2, am_10, am_01, am_00, if_true, if_false, alk_scr, O, o, hs, hs1, e1, e2]
theorem lc_man (I : Inv h G Z L f im kk s v tr) (hs : h.1 0 = cI 9 Ls fs) (hi : i + 5 ≤ Ls) (hl : Ls ≤ 2560) (hf : ∀ j, rg32 (fs j)) : CallD i 197 h := by
  obtain ⟨p, C, M⟩ := I
  have hw := p.1
  have ht := p.2.1
  have hk := p.2.2.1
  have hL := p.2.2.2.2.2.1
  have hfx := p.2.2.2.2.2.2.1
  have hS := p.2.2.2.2.2.2.2.1
  have hlo := p.2.2.2.2.2.2.2.2
  obtain ⟨h1, e1, C1, f1⟩ : ∃ h1, ev mCell_man [vR 1, vI (fs (i + 1)), vI (fs (i + 2))] h = some (some (vI (aMan G Z.1 (fs (i + 1)) (fs (i + 2)))), h1) ∧ CI h1 G Z L f im kk s v tr ∧ FC h h1 := by
    obtain ⟨h1, e, Y, g⟩ := k_man C.1.1 C.1.2.1 hw C.2.1 (hf (i + 1)) (hf (i + 2))
    exact ⟨h1, e, C.tl hk Y g, g.fc (by omega)⟩
  have M1 := M.on f1
  obtain ⟨h2, e2, M2, f2⟩ : ∃ h2, ev mMod_man [vR 120, vI (fs (i + 1)), vI (fs (i + 2))] h1 = some (some (vI (aMan G Z.1 (fs (i + 1)) (fs (i + 2)))), h2) ∧ MI h2 G Z L f im kk s v tr ∧ FM h1 h2 := by
    obtain ⟨h2, e, S', s1, s2, g⟩ := q_man M1.1.2.1 hw M1.1.2.2.2 M1.2.2.2.2.2.1 (hf (i + 1)) (hf (i + 2))
    exact ⟨h2, e, M1.a3 S' s1 s2 g, g.fm (by decide)⟩
  have r : rg32 (aMan G Z.1 (fs (i + 1)) (fs (i + 2))) := r_man hw _ _
  have pn : PI G Z L f im kk s v := p
  refine ⟨h2, _, _, _, _, _, _, _, _, _, ?_, ⟨pn, C1.on pn.2.2.1 f2, M2⟩, (f2.2 0 (by omega)).trans (f1.2 0 (by omega)), f2.1.trans f1.1⟩
  have O := C.1.1
  unfold CeO at O
  obtain ⟨y12, y13, y14, y15, o⟩ := M1.1.1
  unfold MoA at o
  have hs1 := (f1.2 0 (by omega)).trans hs
  unfold rg32 at r
  have t1 : ((i : Int) + 1).toNat = i + 1 := by omega
  have t2 : ((i : Int) + 2).toNat = i + 2 := by omega
  have t3 : ((i : Int) + 3).toNat = i + 3 := by omega
  have t4 : ((i : Int) + 4).toNat = i + 4 := by omega
  simp (disch := omega) only [e_Law_law_197, e_Law_law_198, e_Law_law_199, e_Law_law_200, e_Law_law_201, e_Law_law_202, e_Law_law_203, e_Law_law_204, e_Law_law_205, e_Law_law_206, e_Law_law_207, e_Law_law_208, e_Law_law_211, e_Law_law_212, e_Law_law_213, e_Law_law_214, e_Law_law_215, e_Law_law_216, e_Law_law_217, e_Law_law_218, e_Law_law_219, e_Law_law_220, e_Law_law_221, e_Law_law_222, e_Law_law_225, e_Law_law_228, e_Law_law_229, alk_in, ask_in, blk_in, bsk_in, qlk_in, ack_in, rcv_in, rcA_in, bk_i, bk_l, bk_v, hS_same, hS_ne, hS_hS, hS_2, am_10, am_01, am_00, if_true, if_false, alk_scr, O, o, hs, hs1, e1, e2, t1, t2, t3, t4]
theorem lc_cell (I : Inv h G Z L f im kk s v tr) (hs : h.1 0 = cI 9 Ls fs) (hi : i + 5 ≤ Ls) (hl : Ls ≤ 2560) (hf : ∀ j, rg32 (fs j)) : CallD i 230 h := by
  obtain ⟨p, C, M⟩ := I
  have hw := p.1
  have ht := p.2.1
  have hk := p.2.2.1
  have hL := p.2.2.2.2.2.1
  have hfx := p.2.2.2.2.2.2.1
  have hS := p.2.2.2.2.2.2.2.1
  have hlo := p.2.2.2.2.2.2.2.2
  obtain ⟨h1, e1, C1, f1⟩ : ∃ h1, ev mCell_cell [vR 1, vI (fs (i + 1))] h = some (some (vI (aCell G Z.1 (fs (i + 1)))), h1) ∧ CI h1 G Z L f im kk s v tr ∧ FC h h1 := by
    exact ⟨h, k_cell C.1.1 C.1.2.1 hw (hf (i + 1)), C, FC.rf⟩
  have M1 := M.on f1
  obtain ⟨h2, e2, M2, f2⟩ : ∃ h2, ev mMod_cell [vR 120, vI (fs (i + 1))] h1 = some (some (vI (aCell G Z.1 (fs (i + 1)))), h2) ∧ MI h2 G Z L f im kk s v tr ∧ FM h1 h2 := by
    exact ⟨h1, q_cell M1.1.2.1 hw (hf (i + 1)), M1, FM.rf⟩
  have r : rg32 (aCell G Z.1 (fs (i + 1))) := r_cell hw _
  have pn : PI G Z L f im kk s v := p
  refine ⟨h2, _, _, _, _, _, _, _, _, _, ?_, ⟨pn, C1.on pn.2.2.1 f2, M2⟩, (f2.2 0 (by omega)).trans (f1.2 0 (by omega)), f2.1.trans f1.1⟩
  have O := C.1.1
  unfold CeO at O
  obtain ⟨y12, y13, y14, y15, o⟩ := M1.1.1
  unfold MoA at o
  have hs1 := (f1.2 0 (by omega)).trans hs
  unfold rg32 at r
  have t1 : ((i : Int) + 1).toNat = i + 1 := by omega
  have t2 : ((i : Int) + 2).toNat = i + 2 := by omega
  have t3 : ((i : Int) + 3).toNat = i + 3 := by omega
  have t4 : ((i : Int) + 4).toNat = i + 4 := by omega
  simp (disch := omega) only [e_Law_law_230, e_Law_law_231, e_Law_law_232, e_Law_law_233, e_Law_law_234, e_Law_law_235, e_Law_law_236, e_Law_law_239, e_Law_law_240, e_Law_law_241, e_Law_law_242, e_Law_law_243, e_Law_law_244, e_Law_law_245, e_Law_law_248, e_Law_law_251, e_Law_law_252, alk_in, ask_in, blk_in, bsk_in, qlk_in, ack_in, rcv_in, rcA_in, bk_i, bk_l, bk_v, hS_same, hS_ne, hS_hS, hS_2, am_10, am_01, am_00, if_true, if_false, alk_scr, O, o, hs, hs1, e1, e2, t1, t2, t3, t4]
theorem lc_now (I : Inv h G Z L f im kk s v tr) (hs : h.1 0 = cI 9 Ls fs) (hi : i + 5 ≤ Ls) (hl : Ls ≤ 2560) (hf : ∀ j, rg32 (fs j)) : CallD i 253 h := by
  obtain ⟨p, C, M⟩ := I
  have hw := p.1
  have ht := p.2.1
  have hk := p.2.2.1
  have hL := p.2.2.2.2.2.1
  have hfx := p.2.2.2.2.2.2.1
  have hS := p.2.2.2.2.2.2.2.1
  have hlo := p.2.2.2.2.2.2.2.2
  obtain ⟨h1, e1, C1, f1⟩ : ∃ h1, ev mCell_now [vR 1, vI (fs (i + 1))] h = some (some (vI (aNow G Z.1 Z.2.1 (fs (i + 1)))), h1) ∧ CI h1 G Z L f im kk s v tr ∧ FC h h1 := by
    obtain ⟨h1, e, Y, g⟩ := k_now C.1.1 C.2.2.2.2.2.1 C.1.2.1 hw (hf (i + 1))
    exact ⟨h1, e, C.li hk Y g, g.fc (by omega)⟩
  have M1 := M.on f1
  obtain ⟨h2, e2, M2, f2⟩ : ∃ h2, ev mMod_now [vR 120, vI (fs (i + 1))] h1 = some (some (vI (aNow G Z.1 Z.2.1 (fs (i + 1)))), h2) ∧ MI h2 G Z L f im kk s v tr ∧ FM h1 h2 := by
    obtain ⟨h2, e, S', Y, g⟩ := q_now M1.1.1 M1.1.2.1 hw M1.2.2.2.2.2 (hf (i + 1))
    exact ⟨h2, e, M1.al S' Y g, g.fm (by decide)⟩
  have r : rg32 (aNow G Z.1 Z.2.1 (fs (i + 1))) := r_now hw ht hk _
  have pn : PI G Z L f im kk s v := p
  refine ⟨h2, _, _, _, _, _, _, _, _, _, ?_, ⟨pn, C1.on pn.2.2.1 f2, M2⟩, (f2.2 0 (by omega)).trans (f1.2 0 (by omega)), f2.1.trans f1.1⟩
  have O := C.1.1
  unfold CeO at O
  obtain ⟨y12, y13, y14, y15, o⟩ := M1.1.1
  unfold MoA at o
  have hs1 := (f1.2 0 (by omega)).trans hs
  unfold rg32 at r
  have t1 : ((i : Int) + 1).toNat = i + 1 := by omega
  have t2 : ((i : Int) + 2).toNat = i + 2 := by omega
  have t3 : ((i : Int) + 3).toNat = i + 3 := by omega
  have t4 : ((i : Int) + 4).toNat = i + 4 := by omega
  simp (disch := omega) only [e_Law_law_253, e_Law_law_254, e_Law_law_255, e_Law_law_256, e_Law_law_257, e_Law_law_258, e_Law_law_259, e_Law_law_262, e_Law_law_263, e_Law_law_264, e_Law_law_265, e_Law_law_266, e_Law_law_267, e_Law_law_268, e_Law_law_271, e_Law_law_274, e_Law_law_275, alk_in, ask_in, blk_in, bsk_in, qlk_in, ack_in, rcv_in, rcA_in, bk_i, bk_l, bk_v, hS_same, hS_ne, hS_hS, hS_2, am_10, am_01, am_00, if_true, if_false, alk_scr, O, o, hs, hs1, e1, e2, t1, t2, t3, t4]
theorem lc_month (I : Inv h G Z L f im kk s v tr) (hs : h.1 0 = cI 9 Ls fs) (hi : i + 5 ≤ Ls) (hl : Ls ≤ 2560) (hf : ∀ j, rg32 (fs j)) : CallD i 276 h := by
  obtain ⟨p, C, M⟩ := I
  have hw := p.1
  have ht := p.2.1
  have hk := p.2.2.1
  have hL := p.2.2.2.2.2.1
  have hfx := p.2.2.2.2.2.2.1
  have hS := p.2.2.2.2.2.2.2.1
  have hlo := p.2.2.2.2.2.2.2.2
  obtain ⟨h1, e1, C1, f1⟩ : ∃ h1, ev mCell_month [vR 1] h = some (some (vI (aMon G Z.1)), h1) ∧ CI h1 G (nMon G Z) L f im kk s v tr ∧ FC h h1 := by
    obtain ⟨h1, e, Y, g⟩ := k_month C.1 hw ht hk
    exact ⟨h1, e, C.zz Y g, g.fc pZ_r⟩
  have M1 := M.on f1
  obtain ⟨h2, e2, M2, f2⟩ : ∃ h2, ev mMod_month [vR 120] h1 = some (some (vI (aMon G Z.1)), h2) ∧ MI h2 G (nMon G Z) L f im kk s v tr ∧ FM h1 h2 := by
    obtain ⟨h2, e, Y, g⟩ := q_month M1.1 hw ht hk
    exact ⟨h2, e, M1.mz Y (g.wd (by decide)), g.fm (by decide)⟩
  have r : rg32 (aMon G Z.1) := r_mon hw
  have pn : PI G (nMon G Z) L f im kk s v := p.mon
  refine ⟨h2, _, _, _, _, _, _, _, _, _, ?_, ⟨pn, C1.on pn.2.2.1 f2, M2⟩, (f2.2 0 (by omega)).trans (f1.2 0 (by omega)), f2.1.trans f1.1⟩
  have O := C.1.1
  unfold CeO at O
  obtain ⟨y12, y13, y14, y15, o⟩ := M1.1.1
  unfold MoA at o
  have hs1 := (f1.2 0 (by omega)).trans hs
  unfold rg32 at r
  simp (disch := omega) only [e_Law_law_276, e_Law_law_277, e_Law_law_280, e_Law_law_281, e_Law_law_284, e_Law_law_287, e_Law_law_288, alk_in, ask_in, blk_in, bsk_in, qlk_in, ack_in, rcv_in, rcA_in, bk_i, bk_l, bk_v, hS_same, hS_ne, hS_hS, hS_2, am_10, am_01, am_00, if_true, if_false, alk_scr, O, o, hs, hs1, e1, e2]
theorem lc_moves (I : Inv h G Z L f im kk s v tr) (hs : h.1 0 = cI 9 Ls fs) (hi : i + 5 ≤ Ls) (hl : Ls ≤ 2560) (hf : ∀ j, rg32 (fs j)) : CallD i 289 h := by
  obtain ⟨p, C, M⟩ := I
  have hw := p.1
  have ht := p.2.1
  have hk := p.2.2.1
  have hL := p.2.2.2.2.2.1
  have hfx := p.2.2.2.2.2.2.1
  have hS := p.2.2.2.2.2.2.2.1
  have hlo := p.2.2.2.2.2.2.2.2
  obtain ⟨h1, e1, C1, f1⟩ : ∃ h1, ev mCell_moves [vR 1, vI (fs (i + 1)), vI (fs (i + 2))] h = some (some (vI (aMov G Z.1 (fs (i + 1)) (fs (i + 2)))), h1) ∧ CI h1 G (nMov G Z (fs (i + 1)) (fs (i + 2))) L f im kk s v tr ∧ FC h h1 := by
    obtain ⟨h1, e, Y, g⟩ := k_moves C.1 hw hk (hf (i + 1)) (hf (i + 2))
    exact ⟨h1, e, C.zz Y g, g.fc pZ_r⟩
  have M1 := M.on f1
  obtain ⟨h2, e2, M2, f2⟩ : ∃ h2, ev mMod_moves [vR 120, vI (fs (i + 1)), vI (fs (i + 2))] h1 = some (some (vI (aMov G Z.1 (fs (i + 1)) (fs (i + 2)))), h2) ∧ MI h2 G (nMov G Z (fs (i + 1)) (fs (i + 2))) L f im kk s v tr ∧ FM h1 h2 := by
    obtain ⟨h2, e, Y, g⟩ := q_moves M1.1 hw hk (hf (i + 1)) (hf (i + 2))
    exact ⟨h2, e, M1.mz Y (g.wd (by decide)), g.fm (by decide)⟩
  have r : rg32 (aMov G Z.1 (fs (i + 1)) (fs (i + 2))) := r_mov hw _ _
  have pn : PI G (nMov G Z (fs (i + 1)) (fs (i + 2))) L f im kk s v := p.mov _ _
  refine ⟨h2, _, _, _, _, _, _, _, _, _, ?_, ⟨pn, C1.on pn.2.2.1 f2, M2⟩, (f2.2 0 (by omega)).trans (f1.2 0 (by omega)), f2.1.trans f1.1⟩
  have O := C.1.1
  unfold CeO at O
  obtain ⟨y12, y13, y14, y15, o⟩ := M1.1.1
  unfold MoA at o
  have hs1 := (f1.2 0 (by omega)).trans hs
  unfold rg32 at r
  have t1 : ((i : Int) + 1).toNat = i + 1 := by omega
  have t2 : ((i : Int) + 2).toNat = i + 2 := by omega
  have t3 : ((i : Int) + 3).toNat = i + 3 := by omega
  have t4 : ((i : Int) + 4).toNat = i + 4 := by omega
  simp (disch := omega) only [e_Law_law_289, e_Law_law_290, e_Law_law_291, e_Law_law_292, e_Law_law_293, e_Law_law_294, e_Law_law_295, e_Law_law_296, e_Law_law_297, e_Law_law_298, e_Law_law_299, e_Law_law_300, e_Law_law_303, e_Law_law_304, e_Law_law_305, e_Law_law_306, e_Law_law_307, e_Law_law_308, e_Law_law_309, e_Law_law_310, e_Law_law_311, e_Law_law_312, e_Law_law_313, e_Law_law_314, e_Law_law_317, e_Law_law_320, e_Law_law_321, alk_in, ask_in, blk_in, bsk_in, qlk_in, ack_in, rcv_in, rcA_in, bk_i, bk_l, bk_v, hS_same, hS_ne, hS_hS, hS_2, am_10, am_01, am_00, if_true, if_false, alk_scr, O, o, hs, hs1, e1, e2, t1, t2, t3, t4]
theorem lc_feigns (I : Inv h G Z L f im kk s v tr) (hs : h.1 0 = cI 9 Ls fs) (hi : i + 5 ≤ Ls) (hl : Ls ≤ 2560) (hf : ∀ j, rg32 (fs j)) : CallD i 322 h := by
  obtain ⟨p, C, M⟩ := I
  have hw := p.1
  have ht := p.2.1
  have hk := p.2.2.1
  have hL := p.2.2.2.2.2.1
  have hfx := p.2.2.2.2.2.2.1
  have hS := p.2.2.2.2.2.2.2.1
  have hlo := p.2.2.2.2.2.2.2.2
  obtain ⟨h1, e1, C1, f1⟩ : ∃ h1, ev mCell_feigns [vR 1, vI (fs (i + 1)), vI (fs (i + 2))] h = some (some (vI (aFei G Z.1 (fs (i + 1)) (fs (i + 2)))), h1) ∧ CI h1 G (nFei G Z (fs (i + 1)) (fs (i + 2))) L f im kk s v tr ∧ FC h h1 := by
    obtain ⟨h1, e, Y, g⟩ := k_feigns C.1 hw hk (hf (i + 1)) (hf (i + 2))
    exact ⟨h1, e, C.zz Y g, g.fc pZ_r⟩
  have M1 := M.on f1
  obtain ⟨h2, e2, M2, f2⟩ : ∃ h2, ev mMod_feigns [vR 120, vI (fs (i + 1)), vI (fs (i + 2))] h1 = some (some (vI (aFei G Z.1 (fs (i + 1)) (fs (i + 2)))), h2) ∧ MI h2 G (nFei G Z (fs (i + 1)) (fs (i + 2))) L f im kk s v tr ∧ FM h1 h2 := by
    obtain ⟨h2, e, Y, g⟩ := q_feigns M1.1 hw hk (hf (i + 1)) (hf (i + 2))
    exact ⟨h2, e, M1.mz Y (g.wd (by decide)), g.fm (by decide)⟩
  have r : rg32 (aFei G Z.1 (fs (i + 1)) (fs (i + 2))) := r_fei hw _ _
  have pn : PI G (nFei G Z (fs (i + 1)) (fs (i + 2))) L f im kk s v := p.fei _ _
  refine ⟨h2, _, _, _, _, _, _, _, _, _, ?_, ⟨pn, C1.on pn.2.2.1 f2, M2⟩, (f2.2 0 (by omega)).trans (f1.2 0 (by omega)), f2.1.trans f1.1⟩
  have O := C.1.1
  unfold CeO at O
  obtain ⟨y12, y13, y14, y15, o⟩ := M1.1.1
  unfold MoA at o
  have hs1 := (f1.2 0 (by omega)).trans hs
  unfold rg32 at r
  have t1 : ((i : Int) + 1).toNat = i + 1 := by omega
  have t2 : ((i : Int) + 2).toNat = i + 2 := by omega
  have t3 : ((i : Int) + 3).toNat = i + 3 := by omega
  have t4 : ((i : Int) + 4).toNat = i + 4 := by omega
  simp (disch := omega) only [e_Law_law_322, e_Law_law_323, e_Law_law_324, e_Law_law_325, e_Law_law_326, e_Law_law_327, e_Law_law_328, e_Law_law_329, e_Law_law_330, e_Law_law_331, e_Law_law_332, e_Law_law_333, e_Law_law_336, e_Law_law_337, e_Law_law_338, e_Law_law_339, e_Law_law_340, e_Law_law_341, e_Law_law_342, e_Law_law_343, e_Law_law_344, e_Law_law_345, e_Law_law_346, e_Law_law_347, e_Law_law_350, e_Law_law_353, e_Law_law_354, alk_in, ask_in, blk_in, bsk_in, qlk_in, ack_in, rcv_in, rcA_in, bk_i, bk_l, bk_v, hS_same, hS_ne, hS_hS, hS_2, am_10, am_01, am_00, if_true, if_false, alk_scr, O, o, hs, hs1, e1, e2, t1, t2, t3, t4]
theorem lc_undo (I : Inv h G Z L f im kk s v tr) (hs : h.1 0 = cI 9 Ls fs) (hi : i + 5 ≤ Ls) (hl : Ls ≤ 2560) (hf : ∀ j, rg32 (fs j)) : CallD i 355 h := by
  obtain ⟨p, C, M⟩ := I
  have hw := p.1
  have ht := p.2.1
  have hk := p.2.2.1
  have hL := p.2.2.2.2.2.1
  have hfx := p.2.2.2.2.2.2.1
  have hS := p.2.2.2.2.2.2.2.1
  have hlo := p.2.2.2.2.2.2.2.2
  obtain ⟨h1, e1, C1, f1⟩ : ∃ h1, ev mCell_undo [vR 1] h = some (some (vI (aUnd Z)), h1) ∧ CI h1 G (nUnd Z) L f im kk s v tr ∧ FC h h1 := by
    obtain ⟨h1, e, Y, g⟩ := k_undo C.1 hw hk
    exact ⟨h1, e, C.zz Y g, g.fc pZ_r⟩
  have M1 := M.on f1
  obtain ⟨h2, e2, M2, f2⟩ : ∃ h2, ev mMod_undo [vR 120] h1 = some (some (vI (aUnd Z)), h2) ∧ MI h2 G (nUnd Z) L f im kk s v tr ∧ FM h1 h2 := by
    obtain ⟨h2, e, Y, g⟩ := q_undo M1.1 hw.1 hk
    exact ⟨h2, e, M1.mz Y (g.wd (by decide)), g.fm (by decide)⟩
  have r : rg32 (aUnd Z) := r_und hk
  have pn : PI G (nUnd Z) L f im kk s v := p.und
  refine ⟨h2, _, _, _, _, _, _, _, _, _, ?_, ⟨pn, C1.on pn.2.2.1 f2, M2⟩, (f2.2 0 (by omega)).trans (f1.2 0 (by omega)), f2.1.trans f1.1⟩
  have O := C.1.1
  unfold CeO at O
  obtain ⟨y12, y13, y14, y15, o⟩ := M1.1.1
  unfold MoA at o
  have hs1 := (f1.2 0 (by omega)).trans hs
  unfold rg32 at r
  simp (disch := omega) only [e_Law_law_355, e_Law_law_356, e_Law_law_359, e_Law_law_360, e_Law_law_363, e_Law_law_366, e_Law_law_367, alk_in, ask_in, blk_in, bsk_in, qlk_in, ack_in, rcv_in, rcA_in, bk_i, bk_l, bk_v, hS_same, hS_ne, hS_hS, hS_2, am_10, am_01, am_00, if_true, if_false, alk_scr, O, o, hs, hs1, e1, e2]
theorem lc_brings (I : Inv h G Z L f im kk s v tr) (hs : h.1 0 = cI 9 Ls fs) (hi : i + 5 ≤ Ls) (hl : Ls ≤ 2560) (hf : ∀ j, rg32 (fs j)) : CallD i 368 h := by
  obtain ⟨p, C, M⟩ := I
  have hw := p.1
  have ht := p.2.1
  have hk := p.2.2.1
  have hL := p.2.2.2.2.2.1
  have hfx := p.2.2.2.2.2.2.1
  have hS := p.2.2.2.2.2.2.2.1
  have hlo := p.2.2.2.2.2.2.2.2
  obtain ⟨h1, e1, C1, f1⟩ : ∃ h1, ev mCell_brings [vR 1, vI (fs (i + 1))] h = some (some (vI (aBrings G Z.1 (fs (i + 1)))), h1) ∧ CI h1 G Z L f im kk s v tr ∧ FC h h1 := by
    exact ⟨h, k_brings C.1.1 C.1.2.1 hw (hf (i + 1)), C, FC.rf⟩
  have M1 := M.on f1
  obtain ⟨h2, e2, M2, f2⟩ : ∃ h2, ev mMod_brings [vR 120, vI (fs (i + 1))] h1 = some (some (vI (aBrings G Z.1 (fs (i + 1)))), h2) ∧ MI h2 G Z L f im kk s v tr ∧ FM h1 h2 := by
    exact ⟨h1, q_brings M1.1.2.1 hw (hf (i + 1)), M1, FM.rf⟩
  have r : rg32 (aBrings G Z.1 (fs (i + 1))) := r_bri hw _
  have pn : PI G Z L f im kk s v := p
  refine ⟨h2, _, _, _, _, _, _, _, _, _, ?_, ⟨pn, C1.on pn.2.2.1 f2, M2⟩, (f2.2 0 (by omega)).trans (f1.2 0 (by omega)), f2.1.trans f1.1⟩
  have O := C.1.1
  unfold CeO at O
  obtain ⟨y12, y13, y14, y15, o⟩ := M1.1.1
  unfold MoA at o
  have hs1 := (f1.2 0 (by omega)).trans hs
  unfold rg32 at r
  have t1 : ((i : Int) + 1).toNat = i + 1 := by omega
  have t2 : ((i : Int) + 2).toNat = i + 2 := by omega
  have t3 : ((i : Int) + 3).toNat = i + 3 := by omega
  have t4 : ((i : Int) + 4).toNat = i + 4 := by omega
  simp (disch := omega) only [e_Law_law_368, e_Law_law_369, e_Law_law_370, e_Law_law_371, e_Law_law_372, e_Law_law_373, e_Law_law_374, e_Law_law_377, e_Law_law_378, e_Law_law_379, e_Law_law_380, e_Law_law_381, e_Law_law_382, e_Law_law_383, e_Law_law_386, e_Law_law_389, e_Law_law_390, alk_in, ask_in, blk_in, bsk_in, qlk_in, ack_in, rcv_in, rcA_in, bk_i, bk_l, bk_v, hS_same, hS_ne, hS_hS, hS_2, am_10, am_01, am_00, if_true, if_false, alk_scr, O, o, hs, hs1, e1, e2, t1, t2, t3, t4]
theorem lc_putsOn (I : Inv h G Z L f im kk s v tr) (hs : h.1 0 = cI 9 Ls fs) (hi : i + 5 ≤ Ls) (hl : Ls ≤ 2560) (hf : ∀ j, rg32 (fs j)) : CallD i 391 h := by
  obtain ⟨p, C, M⟩ := I
  have hw := p.1
  have ht := p.2.1
  have hk := p.2.2.1
  have hL := p.2.2.2.2.2.1
  have hfx := p.2.2.2.2.2.2.1
  have hS := p.2.2.2.2.2.2.2.1
  have hlo := p.2.2.2.2.2.2.2.2
  obtain ⟨h1, e1, C1, f1⟩ : ∃ h1, ev mCell_putsOn [vR 1, vI (fs (i + 1)), vI (fs (i + 2))] h = some (some (vI (aPut G Z.1 (fs (i + 1)) (fs (i + 2)))), h1) ∧ CI h1 G Z L f im kk s v tr ∧ FC h h1 := by
    obtain ⟨h1, e, Y, g⟩ := k_putsOn C.1.1 C.1.2.1 hw C.2.1 (hf (i + 1)) (hf (i + 2))
    exact ⟨h1, e, C.tl hk Y g, g.fc (by omega)⟩
  have M1 := M.on f1
  obtain ⟨h2, e2, M2, f2⟩ : ∃ h2, ev mMod_putsOn [vR 120, vI (fs (i + 1)), vI (fs (i + 2))] h1 = some (some (vI (aPut G Z.1 (fs (i + 1)) (fs (i + 2)))), h2) ∧ MI h2 G Z L f im kk s v tr ∧ FM h1 h2 := by
    obtain ⟨h2, e, S', s1, s2, g⟩ := q_putsOn M1.1.2.1 hw M1.1.2.2.2 M1.2.2.2.2.2.1 (hf (i + 1)) (hf (i + 2))
    exact ⟨h2, e, M1.a3 S' s1 s2 g, g.fm (by decide)⟩
  have r : rg32 (aPut G Z.1 (fs (i + 1)) (fs (i + 2))) := r_put _ _ _
  have pn : PI G Z L f im kk s v := p
  refine ⟨h2, _, _, _, _, _, _, _, _, _, ?_, ⟨pn, C1.on pn.2.2.1 f2, M2⟩, (f2.2 0 (by omega)).trans (f1.2 0 (by omega)), f2.1.trans f1.1⟩
  have O := C.1.1
  unfold CeO at O
  obtain ⟨y12, y13, y14, y15, o⟩ := M1.1.1
  unfold MoA at o
  have hs1 := (f1.2 0 (by omega)).trans hs
  unfold rg32 at r
  have t1 : ((i : Int) + 1).toNat = i + 1 := by omega
  have t2 : ((i : Int) + 2).toNat = i + 2 := by omega
  have t3 : ((i : Int) + 3).toNat = i + 3 := by omega
  have t4 : ((i : Int) + 4).toNat = i + 4 := by omega
  simp (disch := omega) only [e_Law_law_391, e_Law_law_392, e_Law_law_393, e_Law_law_394, e_Law_law_395, e_Law_law_396, e_Law_law_397, e_Law_law_398, e_Law_law_399, e_Law_law_400, e_Law_law_401, e_Law_law_402, e_Law_law_405, e_Law_law_406, e_Law_law_407, e_Law_law_408, e_Law_law_409, e_Law_law_410, e_Law_law_411, e_Law_law_412, e_Law_law_413, e_Law_law_414, e_Law_law_415, e_Law_law_416, e_Law_law_419, e_Law_law_422, e_Law_law_423, alk_in, ask_in, blk_in, bsk_in, qlk_in, ack_in, rcv_in, rcA_in, bk_i, bk_l, bk_v, hS_same, hS_ne, hS_hS, hS_2, am_10, am_01, am_00, if_true, if_false, alk_scr, O, o, hs, hs1, e1, e2, t1, t2, t3, t4]
theorem lc_carry (I : Inv h G Z L f im kk s v tr) (hs : h.1 0 = cI 9 Ls fs) (hi : i + 5 ≤ Ls) (hl : Ls ≤ 2560) (hf : ∀ j, rg32 (fs j)) : CallD i 424 h := by
  obtain ⟨p, C, M⟩ := I
  have hw := p.1
  have ht := p.2.1
  have hk := p.2.2.1
  have hL := p.2.2.2.2.2.1
  have hfx := p.2.2.2.2.2.2.1
  have hS := p.2.2.2.2.2.2.2.1
  have hlo := p.2.2.2.2.2.2.2.2
  obtain ⟨h1, e1, C1, f1⟩ : ∃ h1, ev mCell_carry [vR 1, vI (fs (i + 1)), vI (fs (i + 2))] h = some (some (vI (aCar G Z.1 (fs (i + 1)) (fs (i + 2)))), h1) ∧ CI h1 G Z L f im kk s v tr ∧ FC h h1 := by
    obtain ⟨h1, e, Y, g⟩ := k_carry C.1.1 C.1.2.1 hw C.2.1 (hf (i + 1)) (hf (i + 2))
    exact ⟨h1, e, C.tl hk Y g, g.fc (by omega)⟩
  have M1 := M.on f1
  obtain ⟨h2, e2, M2, f2⟩ : ∃ h2, ev mMod_carry [vR 120, vI (fs (i + 1)), vI (fs (i + 2))] h1 = some (some (vI (aCar G Z.1 (fs (i + 1)) (fs (i + 2)))), h2) ∧ MI h2 G Z L f im kk s v tr ∧ FM h1 h2 := by
    obtain ⟨h2, e, S', s1, s2, g⟩ := q_carry M1.1.2.1 hw M1.1.2.2.2 M1.2.2.2.2.2.1 (hf (i + 1)) (hf (i + 2))
    exact ⟨h2, e, M1.a3 S' s1 s2 g, g.fm (by decide)⟩
  have r : rg32 (aCar G Z.1 (fs (i + 1)) (fs (i + 2))) := r_car hw _ _
  have pn : PI G Z L f im kk s v := p
  refine ⟨h2, _, _, _, _, _, _, _, _, _, ?_, ⟨pn, C1.on pn.2.2.1 f2, M2⟩, (f2.2 0 (by omega)).trans (f1.2 0 (by omega)), f2.1.trans f1.1⟩
  have O := C.1.1
  unfold CeO at O
  obtain ⟨y12, y13, y14, y15, o⟩ := M1.1.1
  unfold MoA at o
  have hs1 := (f1.2 0 (by omega)).trans hs
  unfold rg32 at r
  have t1 : ((i : Int) + 1).toNat = i + 1 := by omega
  have t2 : ((i : Int) + 2).toNat = i + 2 := by omega
  have t3 : ((i : Int) + 3).toNat = i + 3 := by omega
  have t4 : ((i : Int) + 4).toNat = i + 4 := by omega
  simp (disch := omega) only [e_Law_law_424, e_Law_law_425, e_Law_law_426, e_Law_law_427, e_Law_law_428, e_Law_law_429, e_Law_law_430, e_Law_law_431, e_Law_law_432, e_Law_law_433, e_Law_law_434, e_Law_law_435, e_Law_law_438, e_Law_law_439, e_Law_law_440, e_Law_law_441, e_Law_law_442, e_Law_law_443, e_Law_law_444, e_Law_law_445, e_Law_law_446, e_Law_law_447, e_Law_law_448, e_Law_law_449, e_Law_law_452, e_Law_law_455, e_Law_law_456, alk_in, ask_in, blk_in, bsk_in, qlk_in, ack_in, rcv_in, rcA_in, bk_i, bk_l, bk_v, hS_same, hS_ne, hS_hS, hS_2, am_10, am_01, am_00, if_true, if_false, alk_scr, O, o, hs, hs1, e1, e2, t1, t2, t3, t4]
theorem lc_lies (I : Inv h G Z L f im kk s v tr) (hs : h.1 0 = cI 9 Ls fs) (hi : i + 5 ≤ Ls) (hl : Ls ≤ 2560) (hf : ∀ j, rg32 (fs j)) : CallD i 457 h := by
  obtain ⟨p, C, M⟩ := I
  have hw := p.1
  have ht := p.2.1
  have hk := p.2.2.1
  have hL := p.2.2.2.2.2.1
  have hfx := p.2.2.2.2.2.2.1
  have hS := p.2.2.2.2.2.2.2.1
  have hlo := p.2.2.2.2.2.2.2.2
  obtain ⟨h1, e1, C1, f1⟩ : ∃ h1, ev mCell_lies [vR 1, vI (fs (i + 1))] h = some (some (vI (aLies G Z.1 (fs (i + 1)))), h1) ∧ CI h1 G Z L f im kk s v tr ∧ FC h h1 := by
    obtain ⟨h1, e, Y, g⟩ := k_lies C.1.1 C.2.2.2.2.2.1 C.1.2.1 hw (hf (i + 1))
    exact ⟨h1, e, C.li hk Y g, g.fc (by omega)⟩
  have M1 := M.on f1
  obtain ⟨h2, e2, M2, f2⟩ : ∃ h2, ev mMod_lies [vR 120, vI (fs (i + 1))] h1 = some (some (vI (aLies G Z.1 (fs (i + 1)))), h2) ∧ MI h2 G Z L f im kk s v tr ∧ FM h1 h2 := by
    obtain ⟨h2, e, S', Y, g⟩ := q_lies M1.1.2.1 hw M1.2.2.2.2.2 (hf (i + 1))
    exact ⟨h2, e, M1.al S' Y g, g.fm (by decide)⟩
  have r : rg32 (aLies G Z.1 (fs (i + 1))) := r_lies hw _
  have pn : PI G Z L f im kk s v := p
  refine ⟨h2, _, _, _, _, _, _, _, _, _, ?_, ⟨pn, C1.on pn.2.2.1 f2, M2⟩, (f2.2 0 (by omega)).trans (f1.2 0 (by omega)), f2.1.trans f1.1⟩
  have O := C.1.1
  unfold CeO at O
  obtain ⟨y12, y13, y14, y15, o⟩ := M1.1.1
  unfold MoA at o
  have hs1 := (f1.2 0 (by omega)).trans hs
  unfold rg32 at r
  have t1 : ((i : Int) + 1).toNat = i + 1 := by omega
  have t2 : ((i : Int) + 2).toNat = i + 2 := by omega
  have t3 : ((i : Int) + 3).toNat = i + 3 := by omega
  have t4 : ((i : Int) + 4).toNat = i + 4 := by omega
  simp (disch := omega) only [e_Law_law_457, e_Law_law_458, e_Law_law_459, e_Law_law_460, e_Law_law_461, e_Law_law_462, e_Law_law_463, e_Law_law_466, e_Law_law_467, e_Law_law_468, e_Law_law_469, e_Law_law_470, e_Law_law_471, e_Law_law_472, e_Law_law_475, e_Law_law_478, e_Law_law_479, alk_in, ask_in, blk_in, bsk_in, qlk_in, ack_in, rcv_in, rcA_in, bk_i, bk_l, bk_v, hS_same, hS_ne, hS_hS, hS_2, am_10, am_01, am_00, if_true, if_false, alk_scr, O, o, hs, hs1, e1, e2, t1, t2, t3, t4]
theorem lc_word (I : Inv h G Z L f im kk s v tr) (hs : h.1 0 = cI 9 Ls fs) (hi : i + 5 ≤ Ls) (hl : Ls ≤ 2560) (hf : ∀ j, rg32 (fs j)) : CallD i 480 h := by
  obtain ⟨p, C, M⟩ := I
  have hw := p.1
  have ht := p.2.1
  have hk := p.2.2.1
  have hL := p.2.2.2.2.2.1
  have hfx := p.2.2.2.2.2.2.1
  have hS := p.2.2.2.2.2.2.2.1
  have hlo := p.2.2.2.2.2.2.2.2
  obtain ⟨h1, e1, C1, f1⟩ : ∃ h1, ev mCell_word [vR 1, vI (fs (i + 1)), vI (fs (i + 2))] h = some (some (vI (aWord G Z.1 (fs (i + 1)) (fs (i + 2)))), h1) ∧ CI h1 G Z L f im kk s v tr ∧ FC h h1 := by
    exact ⟨h, k_word C.1.1 C.1.2.1 hw (by omega) (hf (i + 1)) (hf (i + 2)), C, FC.rf⟩
  have M1 := M.on f1
  obtain ⟨h2, e2, M2, f2⟩ : ∃ h2, ev mMod_word [vR 120, vI (fs (i + 1)), vI (fs (i + 2))] h1 = some (some (vI (aWord G Z.1 (fs (i + 1)) (fs (i + 2)))), h2) ∧ MI h2 G Z L f im kk s v tr ∧ FM h1 h2 := by
    exact ⟨h1, q_word M1.1.2.1 hw (by omega) (hf (i + 1)) (hf (i + 2)), M1, FM.rf⟩
  have r : rg32 (aWord G Z.1 (fs (i + 1)) (fs (i + 2))) := r_word _ _ _
  have pn : PI G Z L f im kk s v := p
  refine ⟨h2, _, _, _, _, _, _, _, _, _, ?_, ⟨pn, C1.on pn.2.2.1 f2, M2⟩, (f2.2 0 (by omega)).trans (f1.2 0 (by omega)), f2.1.trans f1.1⟩
  have O := C.1.1
  unfold CeO at O
  obtain ⟨y12, y13, y14, y15, o⟩ := M1.1.1
  unfold MoA at o
  have hs1 := (f1.2 0 (by omega)).trans hs
  unfold rg32 at r
  have t1 : ((i : Int) + 1).toNat = i + 1 := by omega
  have t2 : ((i : Int) + 2).toNat = i + 2 := by omega
  have t3 : ((i : Int) + 3).toNat = i + 3 := by omega
  have t4 : ((i : Int) + 4).toNat = i + 4 := by omega
  simp (disch := omega) only [e_Law_law_480, e_Law_law_481, e_Law_law_482, e_Law_law_483, e_Law_law_484, e_Law_law_485, e_Law_law_486, e_Law_law_487, e_Law_law_488, e_Law_law_489, e_Law_law_490, e_Law_law_491, e_Law_law_494, e_Law_law_495, e_Law_law_496, e_Law_law_497, e_Law_law_498, e_Law_law_499, e_Law_law_500, e_Law_law_501, e_Law_law_502, e_Law_law_503, e_Law_law_504, e_Law_law_505, e_Law_law_508, e_Law_law_511, e_Law_law_512, alk_in, ask_in, blk_in, bsk_in, qlk_in, ack_in, rcv_in, rcA_in, bk_i, bk_l, bk_v, hS_same, hS_ne, hS_hS, hS_2, am_10, am_01, am_00, if_true, if_false, alk_scr, O, o, hs, hs1, e1, e2, t1, t2, t3, t4]
theorem lc_odds (I : Inv h G Z L f im kk s v tr) (hs : h.1 0 = cI 9 Ls fs) (hi : i + 5 ≤ Ls) (hl : Ls ≤ 2560) (hf : ∀ j, rg32 (fs j)) : CallD i 513 h := by
  obtain ⟨p, C, M⟩ := I
  have hw := p.1
  have ht := p.2.1
  have hk := p.2.2.1
  have hL := p.2.2.2.2.2.1
  have hfx := p.2.2.2.2.2.2.1
  have hS := p.2.2.2.2.2.2.2.1
  have hlo := p.2.2.2.2.2.2.2.2
  obtain ⟨h1, e1, C1, f1⟩ : ∃ h1, ev mCell_odds [vR 1, vI (fs (i + 1)), vI (fs (i + 2)), vI (fs (i + 3)), vI (fs (i + 4))] h = some (some (vI (aOdds G Z.1 (fs (i + 1)) (fs (i + 2)) (fs (i + 3)) (fs (i + 4)))), h1) ∧ CI h1 G Z L f im kk s v tr ∧ FC h h1 := by
    obtain ⟨h1, e, Y, g⟩ := k_odds C.1.1 C.1.2.1 hw C.2.1 (hf (i + 1)) (hf (i + 2)) (hf (i + 3)) (hf (i + 4))
    exact ⟨h1, e, C.tl hk Y g, g.fc (by omega)⟩
  have M1 := M.on f1
  obtain ⟨h2, e2, M2, f2⟩ : ∃ h2, ev mMod_odds [vR 120, vI (fs (i + 1)), vI (fs (i + 2)), vI (fs (i + 3)), vI (fs (i + 4))] h1 = some (some (vI (aOdds G Z.1 (fs (i + 1)) (fs (i + 2)) (fs (i + 3)) (fs (i + 4)))), h2) ∧ MI h2 G Z L f im kk s v tr ∧ FM h1 h2 := by
    obtain ⟨h2, e, S', s1, s2, g⟩ := q_odds M1.1.2.1 hw M1.1.2.2.2 M1.2.2.2.2.2.1 (hf (i + 1)) (hf (i + 2)) (hf (i + 3)) (hf (i + 4))
    exact ⟨h2, e, M1.a3 S' s1 s2 g, g.fm (by decide)⟩
  have r : rg32 (aOdds G Z.1 (fs (i + 1)) (fs (i + 2)) (fs (i + 3)) (fs (i + 4))) := r_odds _ _ _ _ _
  have pn : PI G Z L f im kk s v := p
  refine ⟨h2, _, _, _, _, _, _, _, _, _, ?_, ⟨pn, C1.on pn.2.2.1 f2, M2⟩, (f2.2 0 (by omega)).trans (f1.2 0 (by omega)), f2.1.trans f1.1⟩
  have O := C.1.1
  unfold CeO at O
  obtain ⟨y12, y13, y14, y15, o⟩ := M1.1.1
  unfold MoA at o
  have hs1 := (f1.2 0 (by omega)).trans hs
  unfold rg32 at r
  have t1 : ((i : Int) + 1).toNat = i + 1 := by omega
  have t2 : ((i : Int) + 2).toNat = i + 2 := by omega
  have t3 : ((i : Int) + 3).toNat = i + 3 := by omega
  have t4 : ((i : Int) + 4).toNat = i + 4 := by omega
  simp (disch := omega) only [e_Law_law_513, e_Law_law_514, e_Law_law_515, e_Law_law_516, e_Law_law_517, e_Law_law_518, e_Law_law_519, e_Law_law_520, e_Law_law_521, e_Law_law_522, e_Law_law_523, e_Law_law_524, e_Law_law_525, e_Law_law_526, e_Law_law_527, e_Law_law_528, e_Law_law_529, e_Law_law_530, e_Law_law_531, e_Law_law_532, e_Law_law_533, e_Law_law_534, e_Law_law_537, e_Law_law_538, e_Law_law_539, e_Law_law_540, e_Law_law_541, e_Law_law_542, e_Law_law_543, e_Law_law_544, e_Law_law_545, e_Law_law_546, e_Law_law_547, e_Law_law_548, e_Law_law_549, e_Law_law_550, e_Law_law_551, e_Law_law_552, e_Law_law_553, e_Law_law_554, e_Law_law_555, e_Law_law_556, e_Law_law_557, e_Law_law_558, e_Law_law_561, e_Law_law_564, e_Law_law_565, alk_in, ask_in, blk_in, bsk_in, qlk_in, ack_in, rcv_in, rcA_in, bk_i, bk_l, bk_v, hS_same, hS_ne, hS_hS, hS_2, am_10, am_01, am_00, if_true, if_false, alk_scr, O, o, hs, hs1, e1, e2, t1, t2, t3, t4]
theorem lc_sees (I : Inv h G Z L f im kk s v tr) (hs : h.1 0 = cI 9 Ls fs) (hi : i + 5 ≤ Ls) (hl : Ls ≤ 2560) (hf : ∀ j, rg32 (fs j)) : CallD i 566 h := by
  obtain ⟨p, C, M⟩ := I
  have hw := p.1
  have ht := p.2.1
  have hk := p.2.2.1
  have hL := p.2.2.2.2.2.1
  have hfx := p.2.2.2.2.2.2.1
  have hS := p.2.2.2.2.2.2.2.1
  have hlo := p.2.2.2.2.2.2.2.2
  obtain ⟨h1, e1, C1, f1⟩ : ∃ h1, ev mCell_sees [vR 1, vI (fs (i + 1)), vI (fs (i + 2))] h = some (some (vI (aSees kk (fs (i + 1)) (fs (i + 2)))), h1) ∧ CI h1 G Z L f im ((nSees kk s v (fs (i + 1)) (fs (i + 2))).1) ((nSees kk s v (fs (i + 1)) (fs (i + 2))).2.1) ((nSees kk s v (fs (i + 1)) (fs (i + 2))).2.2) tr ∧ FC h h1 := by
    obtain ⟨h1, e, Y, g⟩ := k_sees C.1.1 C.2.2.2.2.1 hS (hf (i + 1)) (hf (i + 2))
    exact ⟨h1, e, C.se hk Y g, g.fc (by omega)⟩
  have M1 := M.on f1
  obtain ⟨h2, e2, M2, f2⟩ : ∃ h2, ev mMod_sees [vR 120, vI (fs (i + 1)), vI (fs (i + 2))] h1 = some (some (vI (aSees kk (fs (i + 1)) (fs (i + 2)))), h2) ∧ MI h2 G Z L f im ((nSees kk s v (fs (i + 1)) (fs (i + 2))).1) ((nSees kk s v (fs (i + 1)) (fs (i + 2))).2.1) ((nSees kk s v (fs (i + 1)) (fs (i + 2))).2.2) tr ∧ FM h1 h2 := by
    obtain ⟨h2, e, O', S', Y, g⟩ := q_sees M1.1.1 M1.1.2.1 M1.2.2.2.2.1 hS (hf (i + 1)) (hf (i + 2))
    exact ⟨h2, e, ⟨⟨O', S', M1.1.2.2.1.fe g (by decide), M1.1.2.2.2.fe g (by decide)⟩, M1.2.1.fe g (by decide), M1.2.2.1.fe g (by decide), M1.2.2.2.1.fe g (by decide), Y, M1.2.2.2.2.2.fe g (by decide)⟩, g.fm (by decide)⟩
  have r : rg32 (aSees kk (fs (i + 1)) (fs (i + 2))) := r_sees hS.1 _ _
  have pn : PI G Z L f im ((nSees kk s v (fs (i + 1)) (fs (i + 2))).1) ((nSees kk s v (fs (i + 1)) (fs (i + 2))).2.1) ((nSees kk s v (fs (i + 1)) (fs (i + 2))).2.2) := p.see _ _
  refine ⟨h2, _, _, _, _, _, _, _, _, _, ?_, ⟨pn, C1.on pn.2.2.1 f2, M2⟩, (f2.2 0 (by omega)).trans (f1.2 0 (by omega)), f2.1.trans f1.1⟩
  have O := C.1.1
  unfold CeO at O
  obtain ⟨y12, y13, y14, y15, o⟩ := M1.1.1
  unfold MoA at o
  have hs1 := (f1.2 0 (by omega)).trans hs
  unfold rg32 at r
  have t1 : ((i : Int) + 1).toNat = i + 1 := by omega
  have t2 : ((i : Int) + 2).toNat = i + 2 := by omega
  have t3 : ((i : Int) + 3).toNat = i + 3 := by omega
  have t4 : ((i : Int) + 4).toNat = i + 4 := by omega
  simp (disch := omega) only [e_Law_law_566, e_Law_law_567, e_Law_law_568, e_Law_law_569, e_Law_law_570, e_Law_law_571, e_Law_law_572, e_Law_law_573, e_Law_law_574, e_Law_law_575, e_Law_law_576, e_Law_law_577, e_Law_law_580, e_Law_law_581, e_Law_law_582, e_Law_law_583, e_Law_law_584, e_Law_law_585, e_Law_law_586, e_Law_law_587, e_Law_law_588, e_Law_law_589, e_Law_law_590, e_Law_law_591, e_Law_law_594, e_Law_law_597, e_Law_law_598, alk_in, ask_in, blk_in, bsk_in, qlk_in, ack_in, rcv_in, rcA_in, bk_i, bk_l, bk_v, hS_same, hS_ne, hS_hS, hS_2, am_10, am_01, am_00, if_true, if_false, alk_scr, O, o, hs, hs1, e1, e2, t1, t2, t3, t4]
theorem lc_forget (I : Inv h G Z L f im kk s v tr) (hs : h.1 0 = cI 9 Ls fs) (hi : i + 5 ≤ Ls) (hl : Ls ≤ 2560) (hf : ∀ j, rg32 (fs j)) : CallD i 599 h := by
  obtain ⟨p, C, M⟩ := I
  have hw := p.1
  have ht := p.2.1
  have hk := p.2.2.1
  have hL := p.2.2.2.2.2.1
  have hfx := p.2.2.2.2.2.2.1
  have hS := p.2.2.2.2.2.2.2.1
  have hlo := p.2.2.2.2.2.2.2.2
  obtain ⟨h1, e1, C1, f1⟩ : ∃ h1, ev mCell_forget [vR 1] h = some (some (vI ((kk : Int))), h1) ∧ CI h1 G Z L f im 0 s v tr ∧ FC h h1 := by
    obtain ⟨h1, e, Y, g⟩ := k_forget C.1.1 C.2.2.2.2.1
    exact ⟨h1, e, C.se hk Y g, g.fc (by omega)⟩
  have M1 := M.on f1
  obtain ⟨h2, e2, M2, f2⟩ : ∃ h2, ev mMod_forget [vR 120] h1 = some (some (vI ((kk : Int))), h2) ∧ MI h2 G Z L f im 0 s v tr ∧ FM h1 h2 := by
    obtain ⟨h2, e, O', S', Y, g⟩ := q_forget M1.1.1 M1.1.2.1 M1.2.2.2.2.1
    exact ⟨h2, e, ⟨⟨O', S', M1.1.2.2.1.fe g (by decide), M1.1.2.2.2.fe g (by decide)⟩, M1.2.1.fe g (by decide), M1.2.2.1.fe g (by decide), M1.2.2.2.1.fe g (by decide), Y, M1.2.2.2.2.2.fe g (by decide)⟩, g.fm (by decide)⟩
  have r : rg32 ((kk : Int)) := (by have := hS.1; unfold rg32; omega)
  have pn : PI G Z L f im 0 s v := ⟨p.1, p.2.1, p.2.2.1, p.2.2.2.1, p.2.2.2.2.1, hL, hfx, ⟨by omega, fun j hj => by omega⟩, hlo⟩
  refine ⟨h2, _, _, _, _, _, _, _, _, _, ?_, ⟨pn, C1.on pn.2.2.1 f2, M2⟩, (f2.2 0 (by omega)).trans (f1.2 0 (by omega)), f2.1.trans f1.1⟩
  have O := C.1.1
  unfold CeO at O
  obtain ⟨y12, y13, y14, y15, o⟩ := M1.1.1
  unfold MoA at o
  have hs1 := (f1.2 0 (by omega)).trans hs
  unfold rg32 at r
  simp (disch := omega) only [e_Law_law_599, e_Law_law_600, e_Law_law_603, e_Law_law_604, e_Law_law_607, e_Law_law_610, e_Law_law_611, alk_in, ask_in, blk_in, bsk_in, qlk_in, ack_in, rcv_in, rcA_in, bk_i, bk_l, bk_v, hS_same, hS_ne, hS_hS, hS_2, am_10, am_01, am_00, if_true, if_false, alk_scr, O, o, hs, hs1, e1, e2]
theorem lc_hards (I : Inv h G Z L f im kk s v tr) (hs : h.1 0 = cI 9 Ls fs) (hi : i + 5 ≤ Ls) (hl : Ls ≤ 2560) (hf : ∀ j, rg32 (fs j)) : CallD i 612 h := by
  obtain ⟨p, C, M⟩ := I
  have hw := p.1
  have ht := p.2.1
  have hk := p.2.2.1
  have hL := p.2.2.2.2.2.1
  have hfx := p.2.2.2.2.2.2.1
  have hS := p.2.2.2.2.2.2.2.1
  have hlo := p.2.2.2.2.2.2.2.2
  obtain ⟨h1, e1, C1, f1⟩ : ∃ h1, ev mCell_hards [vR 1] h = some (some (vI (((hrd s v kk 4 : Nat) : Int))), h1) ∧ CI h1 G Z L f im kk s v tr ∧ FC h h1 := by
    exact ⟨h, k_hards C.1.1 C.2.2.2.2.1 hS, C, FC.rf⟩
  have M1 := M.on f1
  obtain ⟨h2, e2, M2, f2⟩ : ∃ h2, ev mMod_hards [vR 120] h1 = some (some (vI (((hrd s v kk 4 : Nat) : Int))), h2) ∧ MI h2 G Z L f im kk s v tr ∧ FM h1 h2 := by
    exact ⟨h1, q_hards M1.1.1 M1.2.2.2.2.1 hS, M1, FM.rf⟩
  have r : rg32 (((hrd s v kk 4 : Nat) : Int)) := (by have := hrd_b s v kk (a := 4) (by omega); unfold rg32; omega)
  have pn : PI G Z L f im kk s v := p
  refine ⟨h2, _, _, _, _, _, _, _, _, _, ?_, ⟨pn, C1.on pn.2.2.1 f2, M2⟩, (f2.2 0 (by omega)).trans (f1.2 0 (by omega)), f2.1.trans f1.1⟩
  have O := C.1.1
  unfold CeO at O
  obtain ⟨y12, y13, y14, y15, o⟩ := M1.1.1
  unfold MoA at o
  have hs1 := (f1.2 0 (by omega)).trans hs
  unfold rg32 at r
  simp (disch := omega) only [e_Law_law_612, e_Law_law_613, e_Law_law_616, e_Law_law_617, e_Law_law_620, e_Law_law_623, e_Law_law_624, alk_in, ask_in, blk_in, bsk_in, qlk_in, ack_in, rcv_in, rcA_in, bk_i, bk_l, bk_v, hS_same, hS_ne, hS_hS, hS_2, am_10, am_01, am_00, if_true, if_false, alk_scr, O, o, hs, hs1, e1, e2]
theorem lc_next (I : Inv h G Z L f im kk s v tr) (hs : h.1 0 = cI 9 Ls fs) (hi : i + 5 ≤ Ls) (hl : Ls ≤ 2560) (hf : ∀ j, rg32 (fs j)) : CallD i 625 h := by
  obtain ⟨p, C, M⟩ := I
  have hw := p.1
  have ht := p.2.1
  have hk := p.2.2.1
  have hL := p.2.2.2.2.2.1
  have hfx := p.2.2.2.2.2.2.1
  have hS := p.2.2.2.2.2.2.2.1
  have hlo := p.2.2.2.2.2.2.2.2
  obtain ⟨h1, e1, C1, f1⟩ : ∃ h1, ev mCell_next [vR 1] h = some (some (vI (aNext (hrd s v kk 4))), h1) ∧ CI h1 G Z L f im kk s v tr ∧ FC h h1 := by
    exact ⟨h, k_next C.1.1 C.2.2.2.2.1 hS, C, FC.rf⟩
  have M1 := M.on f1
  obtain ⟨h2, e2, M2, f2⟩ : ∃ h2, ev mMod_next [vR 120] h1 = some (some (vI (aNext (hrd s v kk 4))), h2) ∧ MI h2 G Z L f im kk s v tr ∧ FM h1 h2 := by
    exact ⟨h1, q_next M1.1.1 M1.2.2.2.2.1 hS, M1, FM.rf⟩
  have r : rg32 (aNext (hrd s v kk 4)) := r_next _
  have pn : PI G Z L f im kk s v := p
  refine ⟨h2, _, _, _, _, _, _, _, _, _, ?_, ⟨pn, C1.on pn.2.2.1 f2, M2⟩, (f2.2 0 (by omega)).trans (f1.2 0 (by omega)), f2.1.trans f1.1⟩
  have O := C.1.1
  unfold CeO at O
  obtain ⟨y12, y13, y14, y15, o⟩ := M1.1.1
  unfold MoA at o
  have hs1 := (f1.2 0 (by omega)).trans hs
  unfold rg32 at r
  simp (disch := omega) only [e_Law_law_625, e_Law_law_626, e_Law_law_629, e_Law_law_630, e_Law_law_633, e_Law_law_636, e_Law_law_637, alk_in, ask_in, blk_in, bsk_in, qlk_in, ack_in, rcv_in, rcA_in, bk_i, bk_l, bk_v, hS_same, hS_ne, hS_hS, hS_2, am_10, am_01, am_00, if_true, if_false, alk_scr, O, o, hs, hs1, e1, e2]
theorem lc_rate (I : Inv h G Z L f im kk s v tr) (hs : h.1 0 = cI 9 Ls fs) (hi : i + 5 ≤ Ls) (hl : Ls ≤ 2560) (hf : ∀ j, rg32 (fs j)) : CallD i 638 h := by
  obtain ⟨p, C, M⟩ := I
  have hw := p.1
  have ht := p.2.1
  have hk := p.2.2.1
  have hL := p.2.2.2.2.2.1
  have hfx := p.2.2.2.2.2.2.1
  have hS := p.2.2.2.2.2.2.2.1
  have hlo := p.2.2.2.2.2.2.2.2
  obtain ⟨h1, e1, C1, f1⟩ : ∃ h1, ev mCell_rate [vR 1, vI (fs (i + 1)), vI (fs (i + 2))] h = some (some (vI (aRate G Z.1 (fs (i + 1)) (fs (i + 2)))), h1) ∧ CI h1 G Z L f im kk s v (nRate G tr (fs (i + 1)) (fs (i + 2))) ∧ FC h h1 := by
    obtain ⟨h1, e, Y, g⟩ := k_rate C.1.1 C.1.2.1 hw C.2.2.2.2.2.2.1 C.2.2.2.2.2.2.2 (hf (i + 1)) (hf (i + 2))
    exact ⟨h1, e, C.ta hk Y g, g.fc (by omega)⟩
  have M1 := M.on f1
  obtain ⟨h2, e2, M2, f2⟩ : ∃ h2, ev mMod_rate [vR 120, vI (fs (i + 1)), vI (fs (i + 2))] h1 = some (some (vI (aRate G Z.1 (fs (i + 1)) (fs (i + 2)))), h2) ∧ MI h2 G Z L f im kk s v (nRate G tr (fs (i + 1)) (fs (i + 2))) ∧ FM h1 h2 := by
    obtain ⟨h2, e, O', S', g⟩ := q_rate M1.1.1 M1.1.2.1 hw (hf (i + 1)) (hf (i + 2))
    exact ⟨h2, e, ⟨⟨O', S', M1.1.2.2.1.fe g (by decide), M1.1.2.2.2.fe g (by decide)⟩, M1.2.1.fe g (by decide), M1.2.2.1.fe g (by decide), M1.2.2.2.1.fe g (by decide), M1.2.2.2.2.1.fe g (by decide), M1.2.2.2.2.2.fe g (by decide)⟩, g.fm (by decide)⟩
  have r : rg32 (aRate G Z.1 (fs (i + 1)) (fs (i + 2))) := r_rate hw ht _ _
  have pn : PI G Z L f im kk s v := p
  refine ⟨h2, _, _, _, _, _, _, _, _, _, ?_, ⟨pn, C1.on pn.2.2.1 f2, M2⟩, (f2.2 0 (by omega)).trans (f1.2 0 (by omega)), f2.1.trans f1.1⟩
  have O := C.1.1
  unfold CeO at O
  obtain ⟨y12, y13, y14, y15, o⟩ := M1.1.1
  unfold MoA at o
  have hs1 := (f1.2 0 (by omega)).trans hs
  unfold rg32 at r
  have t1 : ((i : Int) + 1).toNat = i + 1 := by omega
  have t2 : ((i : Int) + 2).toNat = i + 2 := by omega
  have t3 : ((i : Int) + 3).toNat = i + 3 := by omega
  have t4 : ((i : Int) + 4).toNat = i + 4 := by omega
  simp (disch := omega) only [e_Law_law_638, e_Law_law_639, e_Law_law_640, e_Law_law_641, e_Law_law_642, e_Law_law_643, e_Law_law_644, e_Law_law_645, e_Law_law_646, e_Law_law_647, e_Law_law_648, e_Law_law_649, e_Law_law_652, e_Law_law_653, e_Law_law_654, e_Law_law_655, e_Law_law_656, e_Law_law_657, e_Law_law_658, e_Law_law_659, e_Law_law_660, e_Law_law_661, e_Law_law_662, e_Law_law_663, e_Law_law_666, e_Law_law_669, e_Law_law_670, alk_in, ask_in, blk_in, bsk_in, qlk_in, ack_in, rcv_in, rcA_in, bk_i, bk_l, bk_v, hS_same, hS_ne, hS_hS, hS_2, am_10, am_01, am_00, if_true, if_false, alk_scr, O, o, hs, hs1, e1, e2, t1, t2, t3, t4]
theorem lc_keep (I : Inv h G Z L f im kk s v tr) (hs : h.1 0 = cI 9 Ls fs) (hi : i + 5 ≤ Ls) (hl : Ls ≤ 2560) (hf : ∀ j, rg32 (fs j)) : CallD i 671 h := by
  obtain ⟨p, C, M⟩ := I
  have hw := p.1
  have ht := p.2.1
  have hk := p.2.2.1
  have hL := p.2.2.2.2.2.1
  have hfx := p.2.2.2.2.2.2.1
  have hS := p.2.2.2.2.2.2.2.1
  have hlo := p.2.2.2.2.2.2.2.2
  obtain ⟨h1, e1, C1, f1⟩ : ∃ h1, ev mCell_keep [vR 1, vI (fs (i + 1))] h = some (some (vI (aKeep Z.1 (fs (i + 1)))), h1) ∧ CI h1 G Z L f (nKeep im Z.1 (fs (i + 1))) kk s v tr ∧ FC h h1 := by
    obtain ⟨h1, e, Y, g⟩ := k_keep C.1.1 C.1.2.1 hw C.2.2.2.1 (hf (i + 1))
    exact ⟨h1, e, C.ke hk Y g, g.fc (fun x hx => by omega)⟩
  have M1 := M.on f1
  obtain ⟨h2, e2, M2, f2⟩ : ∃ h2, ev mMod_keep [vR 120, vI (fs (i + 1))] h1 = some (some (vI (aKeep Z.1 (fs (i + 1)))), h2) ∧ MI h2 G Z L f (nKeep im Z.1 (fs (i + 1))) kk s v tr ∧ FM h1 h2 := by
    obtain ⟨h2, e, Y, g⟩ := q_keep M1.1.1 M1.1.2.1 hw.1 M1.2.2.2.1 (hf (i + 1))
    exact ⟨h2, e, ⟨M1.1.fe g (by decide), M1.2.1.fe g (by decide), M1.2.2.1.fe g (by decide), Y, M1.2.2.2.2.1.fe g (by decide), M1.2.2.2.2.2.fe g (by decide)⟩, g.fm (by decide)⟩
  have r : rg32 (aKeep Z.1 (fs (i + 1))) := r_keep ht _
  have pn : PI G Z L f (nKeep im Z.1 (fs (i + 1))) kk s v := p.kee _
  refine ⟨h2, _, _, _, _, _, _, _, _, _, ?_, ⟨pn, C1.on pn.2.2.1 f2, M2⟩, (f2.2 0 (by omega)).trans (f1.2 0 (by omega)), f2.1.trans f1.1⟩
  have O := C.1.1
  unfold CeO at O
  obtain ⟨y12, y13, y14, y15, o⟩ := M1.1.1
  unfold MoA at o
  have hs1 := (f1.2 0 (by omega)).trans hs
  unfold rg32 at r
  have t1 : ((i : Int) + 1).toNat = i + 1 := by omega
  have t2 : ((i : Int) + 2).toNat = i + 2 := by omega
  have t3 : ((i : Int) + 3).toNat = i + 3 := by omega
  have t4 : ((i : Int) + 4).toNat = i + 4 := by omega
  simp (disch := omega) only [e_Law_law_671, e_Law_law_672, e_Law_law_673, e_Law_law_674, e_Law_law_675, e_Law_law_676, e_Law_law_677, e_Law_law_680, e_Law_law_681, e_Law_law_682, e_Law_law_683, e_Law_law_684, e_Law_law_685, e_Law_law_686, e_Law_law_689, e_Law_law_692, e_Law_law_693, alk_in, ask_in, blk_in, bsk_in, qlk_in, ack_in, rcv_in, rcA_in, bk_i, bk_l, bk_v, hS_same, hS_ne, hS_hS, hS_2, am_10, am_01, am_00, if_true, if_false, alk_scr, O, o, hs, hs1, e1, e2, t1, t2, t3, t4]
theorem lc_back (I : Inv h G Z L f im kk s v tr) (hs : h.1 0 = cI 9 Ls fs) (hi : i + 5 ≤ Ls) (hl : Ls ≤ 2560) (hf : ∀ j, rg32 (fs j)) : CallD i 694 h := by
  obtain ⟨p, C, M⟩ := I
  have hw := p.1
  have ht := p.2.1
  have hk := p.2.2.1
  have hL := p.2.2.2.2.2.1
  have hfx := p.2.2.2.2.2.2.1
  have hS := p.2.2.2.2.2.2.2.1
  have hlo := p.2.2.2.2.2.2.2.2
  obtain ⟨h1, e1, C1, f1⟩ : ∃ h1, ev mCell_back [vR 1, vI (fs (i + 1))] h = some (some (vI (aBack im (fs (i + 1)))), h1) ∧ CI h1 G (nBack im Z.1 (fs (i + 1)), nBackP im Z.2.1 (fs (i + 1)), Z.2.2) L f im kk s v tr ∧ FC h h1 := by
    obtain ⟨h1, e, Y1, Y2, g⟩ := k_back C.1.1 C.1.2.1 hw C.2.2.2.1 (hf (i + 1))
    exact ⟨h1, e, C.ba hk (nBackP_le _ _) Y1 Y2 g, g.fc (fun x hx => by omega)⟩
  have M1 := M.on f1
  obtain ⟨h2, e2, M2, f2⟩ : ∃ h2, ev mMod_back [vR 120, vI (fs (i + 1))] h1 = some (some (vI (aBack im (fs (i + 1)))), h2) ∧ MI h2 G (nBack im Z.1 (fs (i + 1)), nBackP im Z.2.1 (fs (i + 1)), Z.2.2) L f im kk s v tr ∧ FM h1 h2 := by
    obtain ⟨h2, e, O', S', g⟩ := q_back M1.1.1 M1.1.2.1 hw.1 M1.2.2.2.1 (hf (i + 1))
    exact ⟨h2, e, ⟨⟨O', S', (M1.1.2.2.1.fe g (by decide)).drop (nBackP_le _ _), M1.1.2.2.2.fe g (by decide)⟩, M1.2.1.fe g (by decide), M1.2.2.1.fe g (by decide), M1.2.2.2.1.fe g (by decide), M1.2.2.2.2.1.fe g (by decide), M1.2.2.2.2.2.fe g (by decide)⟩, g.fm (by decide)⟩
  have r : rg32 (aBack im (fs (i + 1))) := r_back p _
  have pn : PI G (nBack im Z.1 (fs (i + 1)), nBackP im Z.2.1 (fs (i + 1)), Z.2.2) L f im kk s v := p.bac _
  refine ⟨h2, _, _, _, _, _, _, _, _, _, ?_, ⟨pn, C1.on pn.2.2.1 f2, M2⟩, (f2.2 0 (by omega)).trans (f1.2 0 (by omega)), f2.1.trans f1.1⟩
  have O := C.1.1
  unfold CeO at O
  obtain ⟨y12, y13, y14, y15, o⟩ := M1.1.1
  unfold MoA at o
  have hs1 := (f1.2 0 (by omega)).trans hs
  unfold rg32 at r
  have t1 : ((i : Int) + 1).toNat = i + 1 := by omega
  have t2 : ((i : Int) + 2).toNat = i + 2 := by omega
  have t3 : ((i : Int) + 3).toNat = i + 3 := by omega
  have t4 : ((i : Int) + 4).toNat = i + 4 := by omega
  simp (disch := omega) only [e_Law_law_694, e_Law_law_695, e_Law_law_696, e_Law_law_697, e_Law_law_698, e_Law_law_699, e_Law_law_700, e_Law_law_703, e_Law_law_704, e_Law_law_705, e_Law_law_706, e_Law_law_707, e_Law_law_708, e_Law_law_709, e_Law_law_712, e_Law_law_715, e_Law_law_716, alk_in, ask_in, blk_in, bsk_in, qlk_in, ack_in, rcv_in, rcA_in, bk_i, bk_l, bk_v, hS_same, hS_ne, hS_hS, hS_2, am_10, am_01, am_00, if_true, if_false, alk_scr, O, o, hs, hs1, e1, e2, t1, t2, t3, t4]
theorem lc_count (I : Inv h G Z L f im kk s v tr) (hs : h.1 0 = cI 9 Ls fs) (hi : i + 5 ≤ Ls) (hl : Ls ≤ 2560) (hf : ∀ j, rg32 (fs j)) : CallD i 717 h := by
  obtain ⟨p, C, M⟩ := I
  have hw := p.1
  have ht := p.2.1
  have hk := p.2.2.1
  have hL := p.2.2.2.2.2.1
  have hfx := p.2.2.2.2.2.2.1
  have hS := p.2.2.2.2.2.2.2.1
  have hlo := p.2.2.2.2.2.2.2.2
  obtain ⟨h1, e1, C1, f1⟩ : ∃ h1, ev mCell_count [vR 1, vI (fs (i + 1))] h = some (some (vI (aCount L G kk (fs (i + 1)))), h1) ∧ CI h1 G Z L f im kk s v tr ∧ FC h h1 := by
    exact ⟨h, k_count C.1.1 C.1.2.1 C.2.2.1 C.2.2.2.2.1 (hf (i + 1)), C, FC.rf⟩
  have M1 := M.on f1
  obtain ⟨h2, e2, M2, f2⟩ : ∃ h2, ev mMod_count [vR 120, vI (fs (i + 1))] h1 = some (some (vI (aCount L G kk (fs (i + 1)))), h2) ∧ MI h2 G Z L f im kk s v tr ∧ FM h1 h2 := by
    exact ⟨h1, q_count M1.1.1 M1.1.2.1 (hf (i + 1)), M1, FM.rf⟩
  have r : rg32 (aCount L G kk (fs (i + 1))) := r_count hw hL hS.1 hlo _
  have pn : PI G Z L f im kk s v := p
  refine ⟨h2, _, _, _, _, _, _, _, _, _, ?_, ⟨pn, C1.on pn.2.2.1 f2, M2⟩, (f2.2 0 (by omega)).trans (f1.2 0 (by omega)), f2.1.trans f1.1⟩
  have O := C.1.1
  unfold CeO at O
  obtain ⟨y12, y13, y14, y15, o⟩ := M1.1.1
  unfold MoA at o
  have hs1 := (f1.2 0 (by omega)).trans hs
  unfold rg32 at r
  have t1 : ((i : Int) + 1).toNat = i + 1 := by omega
  have t2 : ((i : Int) + 2).toNat = i + 2 := by omega
  have t3 : ((i : Int) + 3).toNat = i + 3 := by omega
  have t4 : ((i : Int) + 4).toNat = i + 4 := by omega
  simp (disch := omega) only [e_Law_law_717, e_Law_law_718, e_Law_law_719, e_Law_law_720, e_Law_law_721, e_Law_law_722, e_Law_law_723, e_Law_law_726, e_Law_law_727, e_Law_law_728, e_Law_law_729, e_Law_law_730, e_Law_law_731, e_Law_law_732, e_Law_law_735, e_Law_law_738, e_Law_law_739, alk_in, ask_in, blk_in, bsk_in, qlk_in, ack_in, rcv_in, rcA_in, bk_i, bk_l, bk_v, hS_same, hS_ne, hS_hS, hS_2, am_10, am_01, am_00, if_true, if_false, alk_scr, O, o, hs, hs1, e1, e2, t1, t2, t3, t4]
end Cases
