/-! the text: an item, all of it (class) -/
section RdI
variable {h : am_H} {L p : Nat} {g : Nat → Int} {tE tS : Nat → Nat} {tC tN : Nat → Int}
theorem rdN_ok (K : TkO L tE tS tC tN) (hp : p ≤ L) {G : Gl} {T : Tm} (hw : WT G T) (hn : G.1 < 6) : match rdN tE tS tC tN G T p with
    | .inl q => q ≤ L
    | .inr r => p ≤ r.2 ∧ r.2 ≤ L ∧ WT r.1.1 r.1.2 ∧ r.1.2.1 = T.1 ∧ r.1.1.2.2.1 = G.2.2.1 := by
  obtain ⟨n, c, lq, ha⟩ := G
  obtain ⟨t, ce, so, ye⟩ := T
  unfold WT at hw
  simp only at hw hn
  have p1 := (K p hp).2.1
  have p2 := (K _ p1.2).2.1
  have p3 := (K _ p2.2).2.1
  have p4 := (K _ p3.2).2.1
  unfold rdN
  simp only
  by_cases q0 : fit tC tN p 0 ((c : Int) - 1) ∧ who n ce (tN p) = -9
  · rw [if_pos q0]
    by_cases q1 : fit tC tN (tE p) 0 4
    · rw [if_pos q1]
      by_cases q2 : fit tC tN (tE (tE p)) 0 3
      · rw [if_pos q2]
        by_cases q3 : fit tC tN (tE (tE (tE p))) 1 60
        · rw [if_pos q3]
          simp only
          refine ⟨by omega, p4.2, ?_, rfl, rfl⟩
          show Wf (n + 1) c (fun j => if j = n then tN p else ce j) (fun j => if j = n then tN (tE p) else so j) (fun j => if j = n then tN (tE (tE p)) else ha j) (fun j => if j = n then tN (tE (tE (tE p))) else ye j)
          refine ⟨by omega, hw.2.1, hw.2.2.1, fun j hj => ?_, fun i j hi hj e h9 => ?_⟩
          · by_cases z : j = n
            · simp only [z, if_true]
              omega
            · simp only [z, if_false]
              exact hw.2.2.2.1 j (by omega)
          · have key : ∀ j, j < n → ¬ ce j = tN p := by
              intro j hj z
              rcases who_range n ce (tN p) with ⟨-, h2⟩ | ⟨m, -, h2, -⟩
              · exact h2 j hj z
              · omega
            by_cases z1 : i = n
            · by_cases z2 : j = n
              · omega
              · simp only [z1, z2, if_true, if_false] at e
                exact absurd e.symm (key j (by omega))
            · by_cases z2 : j = n
              · simp only [z1, z2, if_true, if_false] at e
                exact absurd e (key i (by omega))
              · simp only [z1, z2, if_false] at e h9
                exact hw.2.2.2.2 i j (by omega) (by omega) e h9
        · rw [if_neg q3]; exact (K _ p3.2).1.2
      · rw [if_neg q2]; exact (K _ p2.2).1.2
    · rw [if_neg q1]; exact (K _ p1.2).1.2
  · rw [if_neg q0]; exact (K p hp).1.2
/-- a draft between the item's body and its end -/
def DrP (D : Dr) : Prop := WT D.1 D.2.1 ∧ D.2.1.1 = 0 ∧ (D.2.2.1 = 0 ∨ D.2.2.1 = 1) ∧ (1 ≤ D.1.2.2.1 ∧ D.1.2.2.1 ≤ 3)
theorem rdB_ok (K : TkO L tE tS tC tN) (hp : p ≤ L) {D : Dr} (hD : DrO D) (hc : ¬ tC p = 0) : match rdB tE tS tC tN D p with
    | .inl q => q ≤ L
    | .inr r => p < r.2 ∧ r.2 ≤ L ∧ DrP r.1 := by
  obtain ⟨⟨n, c, lq, ha⟩, ⟨t, ce, so, ye⟩, lt, it⟩ := D
  obtain ⟨hw, ht, hlt, hlo, hit⟩ := hD
  simp only at hw ht hlt hlo hit
  have p1 := (K p hp).2.1
  have up := (K p hp).2.2.1 hc
  have p2 := (K _ p1.2).2.1
  unfold rdB
  simp only
  by_cases a : tC p = 110 ∧ it = 0
  · rw [if_pos a]
    by_cases b : fit tC tN (tE p) 2 9
    · rw [if_pos b]
      simp only
      refine ⟨by omega, p2.2, ?_, ht, hlt, hlo⟩
      have n0 := hit a.2
      subst n0
      show Wf 0 (tN (tE p)).toNat _ _ _ _
      exact ⟨by omega, by omega, by omega, fun j hj => by omega, fun i j hi => by omega⟩
    · rw [if_neg b]; exact (K _ p1.2).1.2
  · rw [if_neg a]
    by_cases a2 : tC p = 109 ∧ n < 6
    · rw [if_pos a2]
      have z := rdN_ok K p1.2 hw a2.2
      cases e : rdN tE tS tC tN (n, c, lq, ha) (t, ce, so, ye) (tE p) with
      | inl q => rw [e] at z; exact z
      | inr r =>
        rw [e] at z
        simp only at z ⊢
        exact ⟨by omega, z.2.1, z.2.2.1, z.2.2.2.1.trans ht, hlt, by show 1 ≤ r.1.1.2.2.1 ∧ r.1.1.2.2.1 ≤ 3; rw [z.2.2.2.2]; exact hlo⟩
    · rw [if_neg a2]
      by_cases a3 : tC p = 108 ∧ lt = 0
      · rw [if_pos a3]
        by_cases b : fit tC tN (tE p) 1 3
        · rw [if_pos b]
          simp only
          exact ⟨by omega, p2.2, hw, ht, Or.inr rfl, b.2⟩
        · rw [if_neg b]; exact (K _ p1.2).1.2
      · rw [if_neg a3]; exact (K p hp).1.2
theorem rdI_ok (K : TkO L tE tS tC tN) (hp : p ≤ L) {D : Dr} (hD : DrO D) (hc : ¬ tC p = 0) : match rdI tE tS tC tN D p with
    | .inl q => q ≤ L
    | .inr r => p < r.2 ∧ r.2 ≤ L ∧ DrO r.1 ∧ ¬ r.1.2.2.2 = 0 := by
  have z := rdB_ok K hp hD hc
  unfold rdI
  cases e : rdB tE tS tC tN D p with
  | inl q => rw [e] at z; exact z
  | inr r =>
    rw [e] at z
    simp only at z ⊢
    have p1 := (K _ z.2.1).2.1
    by_cases b : tC r.2 = 59
    · rw [if_pos b]
      simp only
      exact ⟨by omega, p1.2, ⟨z.2.2.1, z.2.2.2.1, z.2.2.2.2.1, z.2.2.2.2.2, fun w => by simp only at w; omega⟩, by omega⟩
    · rw [if_neg b]; exact (K _ z.2.1).1.2
theorem rdB_it {D : Dr} {r : Dr × Nat} (e : rdB tE tS tC tN D p = .inr r) : r.1.2.2.2 = D.2.2.2 := by
  unfold rdB at e
  split at e
  · split at e
    · cases e; rfl
    · cases e
  · split at e
    · split at e
      · cases e
      · cases e; rfl
    · split at e
      · split at e
        · cases e; rfl
        · cases e
      · cases e
theorem rdI_it {D D' : Dr} {p' : Nat} (e : rdI tE tS tC tN D p = .inr (D', p')) : D'.2.2.2 = D.2.2.2 + 1 := by
  unfold rdI at e
  cases z : rdB tE tS tC tN D p with
  | inl q => rw [z] at e; cases e
  | inr r =>
    rw [z] at e
    simp only at e
    have w := rdB_it z
    split at e
    · cases e; simp only; omega
    · cases e
/-- the draft where the class has it -/
def DrS (h : am_H) (D : Dr) : Prop := RT h 4 D.1 D.2.1 ∧ (D.2.2.2 = 0 → ∃ I, h.1 9 = cI 0 9 I ∧ ∀ x, x < 9 → I x = -9)
abbrev TxD (h : am_H) (L : Nat) (tE tS : Nat → Nat) (tC tN : Nat → Int) (D : Dr) (p : Nat) : Prop := TxO h L tE tS tC tN p (vI D.1.2.2.1) (vI (D.2.2.2 : Int)) (vI (-1)) (vI (D.2.2.1 : Int))
def bodyG (tE tS : Nat → Nat) (tC tN : Nat → Int) (h : am_H) (L : Nat) (D : Dr) (p : Nat) (h' : am_H) : Prop := match rdB tE tS tC tN D p with
  | .inl q => (∃ p' x3 x4 x7, p' ≤ L ∧ TxO h' L tE tS tC tN p' x3 x4 (vI (q : Int)) x7) ∧ ScSh h' 4 ∧ h'.1 3 = h.1 3 ∧ Fr 2 10 h h'
  | .inr r => TxD h' L tE tS tC tN r.1 r.2 ∧ RT h' 4 r.1.1 r.1.2.1 ∧ h'.1 3 = h.1 3 ∧ Fr 2 10 h h'
theorem k_body (X : TxG L g tE tS tC tN) (hp : p ≤ L) {D : Dr} (hD : DrO D) (O : TxD h L tE tS tC tN D p) (Gg : h.1 3 = cI 0 120 g) (S : DrS h D) (hc : ¬ tC p = 0) (hI : D.2.2.2 ≤ 200) : ∃ h', ev mText_readItem [vR 2] h = gv mText_readItem 111 [vR 2] [] h' ∧ bodyG tE tS tC tN h L D p h' := by
  obtain ⟨⟨n, c, lq, ha⟩, ⟨t, ce, so, ye⟩, lt, it⟩ := D
  obtain ⟨hw, ht, hlt, hlo, hit⟩ := hD
  obtain ⟨S1, S2⟩ := S
  simp only at hw ht hlt hlo hit S1 S2 hI
  unfold TxD at O
  simp only at O
  have hL := X.1
  have hn6 : n ≤ 6 := hw.1
  have p1 := (X.2.1 p hp).2.1
  have p2 := (X.2.1 _ p1.2).2.1
  have s0b := (X.2.1 p hp).1
  have s1b := (X.2.1 _ p1.2).1
  have cr := (X.2.1 p hp).2.2.2.1
  have sob := RT.ob S1
  simp only at sob
  have O0 := O
  unfold TxO at O0
  obtain ⟨h1, e1, O1, f1⟩ := X.2.2 _ _ _ _ _ _ _ _ _ p1.2 O0 Gg
  have O1' : TxO h1 L tE tS tC tN (tE p) (vI lq) (vI (it : Int)) (vI (-1)) (vI (lt : Int)) := O1
  have sob1 := (f1.at (a := 4) (by omega)).trans sob
  have G1 := (f1.at (a := 3) (by omega)).trans Gg
  unfold bodyG rdB
  simp only
  by_cases a : tC p = 110 ∧ it = 0
  · rw [if_pos a]
    have a1 := a.1
    rw [a1] at O0
    by_cases b : fit tC tN (tE p) 2 9
    · rw [if_pos b]
      simp only
      obtain ⟨h2, e2, O2, f2⟩ := k_take1 X p1.2 O1' G1 (a := 2) (b := 9) (by omega) b
      have sob2 := (f2.at (a := 4) (by omega)).trans sob1
      have n0 := hit a.2
      subst n0
      refine ⟨hS h2 4 (cO 5 [vI (tN (tE p)), vI ((0 : Nat) : Int), vI t, vR 5, vR 6, vR 7, vR 8, vR 9]), ?_, by unfold TxD TxO; rw [hS_ne (by omega)]; exact O2, ?_, by rw [hS_ne (by omega)]; exact (f2.at (by omega)).trans (f1.at (by omega)), ((f1.wd (by omega)).tr (f2.wd (by omega))).tr (Fr.st (by omega))⟩
      · rw [ev_Text_readItem]
        simp (disch := omega) only [e_Text_readItem_0, e_Text_readItem_1, e_Text_readItem_4, e_Text_readItem_6, e_Text_readItem_9, e_Text_readItem_10, e_Text_readItem_13, e_Text_readItem_13b, e_Text_readItem_16, e_Text_readItem_17, e_Text_readItem_20, e_Text_readItem_21, e_Text_readItem_24, e_Text_readItem_25, e_Text_readItem_26, e_Text_readItem_28, e_Text_readItem_31, e_Text_readItem_34, e_Text_readItem_37, e_Text_readItem_38, e_Text_readItem_41, e_Text_readItem_43, e_Text_readItem_46, e_Text_readItem_47, e_Text_readItem_50, e_Text_readItem_53, e_Text_readItem_55, e_Text_readItem_58, e_Text_readItem_59, e_Text_readItem_62, e_Text_readItem_63, e_Text_readItem_66, e_Text_readItem_69, e_Text_readItem_70, e_Text_readItem_73, e_Text_readItem_75, e_Text_readItem_78, e_Text_readItem_79, e_Text_readItem_82, e_Text_readItem_82b, e_Text_readItem_85, e_Text_readItem_86, e_Text_readItem_89, e_Text_readItem_90, e_Text_readItem_91, e_Text_readItem_92, e_Text_readItem_93, e_Text_readItem_96, e_Text_readItem_99, e_Text_readItem_100, e_Text_readItem_101, e_Text_readItem_104, e_Text_readItem_107, e_Text_readItem_108, e_Text_readItem_112, e_Text_readItem_115, alk_in, ask_in, blk_in, bsk_in, qlk_in, ack_in, rcv_in, rcA_in, bk_i, bk_l, bk_v, hS_same, hS_ne, hS_hS, hS_2, am_10, am_01, am_00, if_true, if_false, gf_5_0, pf_5_0, gf_5_1, pf_5_1, gf_5_2, pf_5_2, gf_5_3, pf_5_3, gf_5_4, pf_5_4, gf_5_5, pf_5_5, gf_5_6, pf_5_6, gf_5_7, pf_5_7, gf_8_0, pf_8_0, gf_8_1, pf_8_1, gf_8_2, pf_8_2, gf_8_3, pf_8_3, gf_8_4, pf_8_4, gf_8_5, pf_8_5, gf_8_6, pf_8_6, gf_8_7, pf_8_7, gf_8_8, pf_8_8, gf_8_9, pf_8_9, gf_8_10, pf_8_10, O0, e1, O1, sob1, e2, sob2]
        rw [if_pos (by omega)]
      · obtain ⟨I, I1, I2⟩ := S2 a.2
        obtain ⟨ce', so', ha', ye', ic, ⟨z0, z1, z2, z3, z4, z5⟩, r1, r2⟩ := S1
        have ff := f1.tr f2
        refine ⟨ce', so', ha', ye', I, ⟨?_, by rw [hS_ne (by omega), ff.at (by omega)]; exact z1, by rw [hS_ne (by omega), ff.at (by omega)]; exact z2, by rw [hS_ne (by omega), ff.at (by omega)]; exact z3, by rw [hS_ne (by omega), ff.at (by omega)]; exact z4, by rw [hS_ne (by omega), ff.at (by omega)]; exact I1⟩, fun j hj => by simp only at hj; omega, fun x hx => ?_⟩
        · rw [hS_same]
          simp only
          rw [Int.toNat_of_nonneg (by omega)]
        · simp only at hx ⊢
          rw [I2 x (by omega)]
          rfl
    · rw [if_neg b]
      simp only
      obtain ⟨h2, e2, O2, f2⟩ := k_take0 X p1.2 O1' (a := 2) (b := 9) (by omega) b
      have sob2 := (f2.at (a := 4) (by omega)).trans sob1
      refine ⟨hS h2 4 (cO 5 [vI 2, vI (n : Int), vI t, vR 5, vR 6, vR 7, vR 8, vR 9]), ?_, ⟨tE p, vI lq, vI (it : Int), vI (lt : Int), p1.2, by unfold TxO; rw [hS_ne (by omega)]; exact O2⟩, ?_, by rw [hS_ne (by omega)]; exact (f2.at (by omega)).trans (f1.at (by omega)), ((f1.wd (by omega)).tr (f2.wd (by omega))).tr (Fr.st (by omega))⟩
      · rw [ev_Text_readItem]
        simp (disch := omega) only [e_Text_readItem_0, e_Text_readItem_1, e_Text_readItem_4, e_Text_readItem_6, e_Text_readItem_9, e_Text_readItem_10, e_Text_readItem_13, e_Text_readItem_13b, e_Text_readItem_16, e_Text_readItem_17, e_Text_readItem_20, e_Text_readItem_21, e_Text_readItem_24, e_Text_readItem_25, e_Text_readItem_26, e_Text_readItem_28, e_Text_readItem_31, e_Text_readItem_34, e_Text_readItem_37, e_Text_readItem_38, e_Text_readItem_41, e_Text_readItem_43, e_Text_readItem_46, e_Text_readItem_47, e_Text_readItem_50, e_Text_readItem_53, e_Text_readItem_55, e_Text_readItem_58, e_Text_readItem_59, e_Text_readItem_62, e_Text_readItem_63, e_Text_readItem_66, e_Text_readItem_69, e_Text_readItem_70, e_Text_readItem_73, e_Text_readItem_75, e_Text_readItem_78, e_Text_readItem_79, e_Text_readItem_82, e_Text_readItem_82b, e_Text_readItem_85, e_Text_readItem_86, e_Text_readItem_89, e_Text_readItem_90, e_Text_readItem_91, e_Text_readItem_92, e_Text_readItem_93, e_Text_readItem_96, e_Text_readItem_99, e_Text_readItem_100, e_Text_readItem_101, e_Text_readItem_104, e_Text_readItem_107, e_Text_readItem_108, e_Text_readItem_112, e_Text_readItem_115, alk_in, ask_in, blk_in, bsk_in, qlk_in, ack_in, rcv_in, rcA_in, bk_i, bk_l, bk_v, hS_same, hS_ne, hS_hS, hS_2, am_10, am_01, am_00, if_true, if_false, gf_5_0, pf_5_0, gf_5_1, pf_5_1, gf_5_2, pf_5_2, gf_5_3, pf_5_3, gf_5_4, pf_5_4, gf_5_5, pf_5_5, gf_5_6, pf_5_6, gf_5_7, pf_5_7, gf_8_0, pf_8_0, gf_8_1, pf_8_1, gf_8_2, pf_8_2, gf_8_3, pf_8_3, gf_8_4, pf_8_4, gf_8_5, pf_8_5, gf_8_6, pf_8_6, gf_8_7, pf_8_7, gf_8_8, pf_8_8, gf_8_9, pf_8_9, gf_8_10, pf_8_10, O0, e1, O1, sob1, e2, sob2]
        rw [if_pos (by omega)]
      · obtain ⟨ce', so', ha', ye', ic, ⟨z0, z1, z2, z3, z4, z5⟩, r1, r2⟩ := S1
        have ff := f1.tr f2
        exact ⟨n, 2, t, ce', so', ha', ye', ic, hS_same, by rw [hS_ne (by omega), ff.at (by omega)]; exact z1, by rw [hS_ne (by omega), ff.at (by omega)]; exact z2, by rw [hS_ne (by omega), ff.at (by omega)]; exact z3, by rw [hS_ne (by omega), ff.at (by omega)]; exact z4, by rw [hS_ne (by omega), ff.at (by omega)]; exact z5⟩
  · rw [if_neg a]
    have st0 : gv mText_readItem 0 [vR 2] [] h = gv mText_readItem 37 [vR 2] [] h := by
      by_cases a1 : tC p = 110
      · rw [a1] at O0
        simp (disch := omega) only [e_Text_readItem_0, e_Text_readItem_1, e_Text_readItem_4, e_Text_readItem_6, e_Text_readItem_9, e_Text_readItem_10, e_Text_readItem_13, e_Text_readItem_13b, alk_in, ask_in, blk_in, bsk_in, qlk_in, ack_in, rcv_in, rcA_in, bk_i, bk_l, bk_v, hS_same, hS_ne, hS_hS, hS_2, am_10, am_01, am_00, if_true, if_false, gf_8_0, pf_8_0, gf_8_1, pf_8_1, gf_8_2, pf_8_2, gf_8_3, pf_8_3, gf_8_4, pf_8_4, gf_8_5, pf_8_5, gf_8_6, pf_8_6, gf_8_7, pf_8_7, gf_8_8, pf_8_8, gf_8_9, pf_8_9, gf_8_10, pf_8_10, O0]
        rw [if_neg (by omega)]
      · simp (disch := omega) only [e_Text_readItem_0, e_Text_readItem_1, e_Text_readItem_4, e_Text_readItem_6, alk_in, ask_in, blk_in, bsk_in, qlk_in, ack_in, rcv_in, rcA_in, bk_i, bk_l, bk_v, hS_same, hS_ne, hS_hS, hS_2, am_10, am_01, am_00, if_true, if_false, gf_8_0, pf_8_0, gf_8_1, pf_8_1, gf_8_2, pf_8_2, gf_8_3, pf_8_3, gf_8_4, pf_8_4, gf_8_5, pf_8_5, gf_8_6, pf_8_6, gf_8_7, pf_8_7, gf_8_8, pf_8_8, gf_8_9, pf_8_9, gf_8_10, pf_8_10, O0]
        rw [if_neg a1]
    rw [ev_Text_readItem, st0]
    by_cases a2 : tC p = 109 ∧ n < 6
    · rw [if_pos a2]
      have a21 := a2.1
      have z := k_readMan X p1.2 O1' G1 (RT.on S1 (fun x hx => f1.at (by omega))) hw a2.2
      cases e : rdN tE tS tC tN (n, c, lq, ha) (t, ce, so, ye) (tE p) with
      | inl q =>
        rw [e] at z
        simp only at z ⊢
        obtain ⟨h2, p', e2, hp', O2, f2⟩ := z
        refine ⟨h2, ?_, ⟨p', _, _, _, hp', O2⟩, (RT.on S1 (fun x hx => (f2.at (by omega)).trans (f1.at (by omega)))).sh, (f2.at (by omega)).trans (f1.at (by omega)), (f1.wd (by omega)).tr (f2.wd (by omega))⟩
        rw [a21] at O0
        simp (disch := omega) only [e_Text_readItem_37, e_Text_readItem_38, e_Text_readItem_41, e_Text_readItem_43, e_Text_readItem_46, e_Text_readItem_47, e_Text_readItem_50, e_Text_readItem_53, e_Text_readItem_55, e_Text_readItem_58, e_Text_readItem_59, e_Text_readItem_62, e_Text_readItem_63, e_Text_readItem_66, alk_in, ask_in, blk_in, bsk_in, qlk_in, ack_in, rcv_in, rcA_in, bk_i, bk_l, bk_v, hS_same, hS_ne, hS_hS, hS_2, am_10, am_01, am_00, if_true, if_false, gf_5_0, pf_5_0, gf_5_1, pf_5_1, gf_5_2, pf_5_2, gf_5_3, pf_5_3, gf_5_4, pf_5_4, gf_5_5, pf_5_5, gf_5_6, pf_5_6, gf_5_7, pf_5_7, gf_8_0, pf_8_0, gf_8_1, pf_8_1, gf_8_2, pf_8_2, gf_8_3, pf_8_3, gf_8_4, pf_8_4, gf_8_5, pf_8_5, gf_8_6, pf_8_6, gf_8_7, pf_8_7, gf_8_8, pf_8_8, gf_8_9, pf_8_9, gf_8_10, pf_8_10, O0, sob, e1, O1, e2]
        rw [if_pos (by omega)]
      | inr r =>
        rw [e] at z
        simp only at z ⊢
        obtain ⟨h2, e2, O2, S3, g3, f2⟩ := z
        have lo3 : r.1.1.2.2.1 = lq := by
          have w := rdN_ok X.2.1 p1.2 hw a2.2
          rw [e] at w
          exact w.2.2.2.2
        refine ⟨h2, ?_, by unfold TxD; simp only; rw [lo3]; exact O2, S3, g3.trans (f1.at (by omega)), (f1.wd (by omega)).tr f2⟩
        rw [a21] at O0
        simp (disch := omega) only [e_Text_readItem_37, e_Text_readItem_38, e_Text_readItem_41, e_Text_readItem_43, e_Text_readItem_46, e_Text_readItem_47, e_Text_readItem_50, e_Text_readItem_53, e_Text_readItem_55, e_Text_readItem_58, e_Text_readItem_59, e_Text_readItem_62, e_Text_readItem_63, e_Text_readItem_66, alk_in, ask_in, blk_in, bsk_in, qlk_in, ack_in, rcv_in, rcA_in, bk_i, bk_l, bk_v, hS_same, hS_ne, hS_hS, hS_2, am_10, am_01, am_00, if_true, if_false, gf_5_0, pf_5_0, gf_5_1, pf_5_1, gf_5_2, pf_5_2, gf_5_3, pf_5_3, gf_5_4, pf_5_4, gf_5_5, pf_5_5, gf_5_6, pf_5_6, gf_5_7, pf_5_7, gf_8_0, pf_8_0, gf_8_1, pf_8_1, gf_8_2, pf_8_2, gf_8_3, pf_8_3, gf_8_4, pf_8_4, gf_8_5, pf_8_5, gf_8_6, pf_8_6, gf_8_7, pf_8_7, gf_8_8, pf_8_8, gf_8_9, pf_8_9, gf_8_10, pf_8_10, O0, sob, e1, O1, e2]
        rw [if_pos (by omega)]
    · rw [if_neg a2]
      have st1 : gv mText_readItem 37 [vR 2] [] h = gv mText_readItem 69 [vR 2] [] h := by
        by_cases a1 : tC p = 109
        · rw [a1] at O0
          simp (disch := omega) only [e_Text_readItem_37, e_Text_readItem_38, e_Text_readItem_41, e_Text_readItem_43, e_Text_readItem_46, e_Text_readItem_47, e_Text_readItem_50, e_Text_readItem_53, e_Text_readItem_55, alk_in, ask_in, blk_in, bsk_in, qlk_in, ack_in, rcv_in, rcA_in, bk_i, bk_l, bk_v, hS_same, hS_ne, hS_hS, hS_2, am_10, am_01, am_00, if_true, if_false, gf_5_0, pf_5_0, gf_5_1, pf_5_1, gf_5_2, pf_5_2, gf_5_3, pf_5_3, gf_5_4, pf_5_4, gf_5_5, pf_5_5, gf_5_6, pf_5_6, gf_5_7, pf_5_7, gf_8_0, pf_8_0, gf_8_1, pf_8_1, gf_8_2, pf_8_2, gf_8_3, pf_8_3, gf_8_4, pf_8_4, gf_8_5, pf_8_5, gf_8_6, pf_8_6, gf_8_7, pf_8_7, gf_8_8, pf_8_8, gf_8_9, pf_8_9, gf_8_10, pf_8_10, O0, sob]
          rw [if_neg (by omega)]
        · simp (disch := omega) only [e_Text_readItem_37, e_Text_readItem_38, e_Text_readItem_41, e_Text_readItem_43, alk_in, ask_in, blk_in, bsk_in, qlk_in, ack_in, rcv_in, rcA_in, bk_i, bk_l, bk_v, hS_same, hS_ne, hS_hS, hS_2, am_10, am_01, am_00, if_true, if_false, gf_8_0, pf_8_0, gf_8_1, pf_8_1, gf_8_2, pf_8_2, gf_8_3, pf_8_3, gf_8_4, pf_8_4, gf_8_5, pf_8_5, gf_8_6, pf_8_6, gf_8_7, pf_8_7, gf_8_8, pf_8_8, gf_8_9, pf_8_9, gf_8_10, pf_8_10, O0]
          rw [if_neg a1]
      rw [st1]
      by_cases a3 : tC p = 108 ∧ lt = 0
      · rw [if_pos a3]
        have a31 := a3.1
        rw [a31] at O0
        by_cases b : fit tC tN (tE p) 1 3
        · rw [if_pos b]
          simp only
          obtain ⟨h2, e2, O2, f2⟩ := k_take1 X p1.2 O1' G1 (a := 1) (b := 3) (by omega) b
          unfold TxO at O2
          refine ⟨hS h2 2 (cO 8 [vI (L : Int), vR 3, vR 4, vI (tN (tE p)), vI (it : Int), vI (-1), vI (tE (tE (tE p)) : Int), vI 1, vI (tC (tE (tE p))), vI (tS (tE (tE p)) : Int), vI (tN (tE (tE p)))]), ?_, hS_same, ?_, by rw [hS_ne (by omega)]; exact (f2.at (by omega)).trans (f1.at (by omega)), ((f1.wd (by omega)).tr (f2.wd (by omega))).tr (Fr.st (by omega))⟩
          · simp (disch := omega) only [e_Text_readItem_69, e_Text_readItem_70, e_Text_readItem_73, e_Text_readItem_75, e_Text_readItem_78, e_Text_readItem_79, e_Text_readItem_82, e_Text_readItem_82b, e_Text_readItem_85, e_Text_readItem_86, e_Text_readItem_89, e_Text_readItem_90, e_Text_readItem_91, e_Text_readItem_92, e_Text_readItem_93, e_Text_readItem_96, e_Text_readItem_99, e_Text_readItem_100, e_Text_readItem_101, e_Text_readItem_104, alk_in, ask_in, blk_in, bsk_in, qlk_in, ack_in, rcv_in, rcA_in, bk_i, bk_l, bk_v, hS_same, hS_ne, hS_hS, hS_2, am_10, am_01, am_00, if_true, if_false, gf_5_0, pf_5_0, gf_5_1, pf_5_1, gf_5_2, pf_5_2, gf_5_3, pf_5_3, gf_5_4, pf_5_4, gf_5_5, pf_5_5, gf_5_6, pf_5_6, gf_5_7, pf_5_7, gf_8_0, pf_8_0, gf_8_1, pf_8_1, gf_8_2, pf_8_2, gf_8_3, pf_8_3, gf_8_4, pf_8_4, gf_8_5, pf_8_5, gf_8_6, pf_8_6, gf_8_7, pf_8_7, gf_8_8, pf_8_8, gf_8_9, pf_8_9, gf_8_10, pf_8_10, O0, e1, O1, e2, O2]
            rw [if_pos (by omega)]
          · exact RT.on (G := (n, c, tN (tE p), ha)) (T := (t, ce, so, ye)) S1 (fun x hx => by rw [hS_ne (by omega)]; exact (f2.at (by omega)).trans (f1.at (by omega)))
        · rw [if_neg b]
          simp only
          obtain ⟨h2, e2, O2, f2⟩ := k_take0 X p1.2 O1' (a := 1) (b := 3) (by omega) b
          unfold TxO at O2
          refine ⟨hS h2 2 (cO 8 [vI (L : Int), vR 3, vR 4, vI 1, vI (it : Int), vI (tS (tE p) : Int), vI (tE (tE p) : Int), vI 1, vI (tC (tE p)), vI (tS (tE p) : Int), vI (tN (tE p))]), ?_, ⟨tE p, vI 1, vI (it : Int), vI 1, p1.2, hS_same⟩, ?_, by rw [hS_ne (by omega)]; exact (f2.at (by omega)).trans (f1.at (by omega)), ((f1.wd (by omega)).tr (f2.wd (by omega))).tr (Fr.st (by omega))⟩
          · simp (disch := omega) only [e_Text_readItem_69, e_Text_readItem_70, e_Text_readItem_73, e_Text_readItem_75, e_Text_readItem_78, e_Text_readItem_79, e_Text_readItem_82, e_Text_readItem_82b, e_Text_readItem_85, e_Text_readItem_86, e_Text_readItem_89, e_Text_readItem_90, e_Text_readItem_91, e_Text_readItem_92, e_Text_readItem_93, e_Text_readItem_96, e_Text_readItem_99, e_Text_readItem_100, e_Text_readItem_101, e_Text_readItem_104, alk_in, ask_in, blk_in, bsk_in, qlk_in, ack_in, rcv_in, rcA_in, bk_i, bk_l, bk_v, hS_same, hS_ne, hS_hS, hS_2, am_10, am_01, am_00, if_true, if_false, gf_5_0, pf_5_0, gf_5_1, pf_5_1, gf_5_2, pf_5_2, gf_5_3, pf_5_3, gf_5_4, pf_5_4, gf_5_5, pf_5_5, gf_5_6, pf_5_6, gf_5_7, pf_5_7, gf_8_0, pf_8_0, gf_8_1, pf_8_1, gf_8_2, pf_8_2, gf_8_3, pf_8_3, gf_8_4, pf_8_4, gf_8_5, pf_8_5, gf_8_6, pf_8_6, gf_8_7, pf_8_7, gf_8_8, pf_8_8, gf_8_9, pf_8_9, gf_8_10, pf_8_10, O0, e1, O1, e2, O2]
            rw [if_pos (by omega)]
          · exact (RT.on S1 (fun x hx => by rw [hS_ne (by omega)]; exact (f2.at (by omega)).trans (f1.at (by omega)))).sh
      · rw [if_neg a3]
        simp only
        obtain ⟨h2, e2, O2, f2⟩ := k_refuse0 O
        refine ⟨h2, ?_, ⟨p, vI lq, vI (it : Int), vI (lt : Int), hp, O2⟩, (RT.on S1 (fun x hx => f2.at (by omega))).sh, f2.at (by omega), f2.wd (by omega)⟩
        by_cases a1 : tC p = 108
        · rw [a1] at O0
          simp (disch := omega) only [e_Text_readItem_69, e_Text_readItem_70, e_Text_readItem_73, e_Text_readItem_75, e_Text_readItem_78, e_Text_readItem_79, e_Text_readItem_82, e_Text_readItem_82b, e_Text_readItem_107, e_Text_readItem_108, alk_in, ask_in, blk_in, bsk_in, qlk_in, ack_in, rcv_in, rcA_in, bk_i, bk_l, bk_v, hS_same, hS_ne, hS_hS, hS_2, am_10, am_01, am_00, if_true, if_false, gf_5_0, pf_5_0, gf_5_1, pf_5_1, gf_5_2, pf_5_2, gf_5_3, pf_5_3, gf_5_4, pf_5_4, gf_5_5, pf_5_5, gf_5_6, pf_5_6, gf_5_7, pf_5_7, gf_8_0, pf_8_0, gf_8_1, pf_8_1, gf_8_2, pf_8_2, gf_8_3, pf_8_3, gf_8_4, pf_8_4, gf_8_5, pf_8_5, gf_8_6, pf_8_6, gf_8_7, pf_8_7, gf_8_8, pf_8_8, gf_8_9, pf_8_9, gf_8_10, pf_8_10, O0, e2]
          rw [if_neg (by omega)]
        · simp (disch := omega) only [e_Text_readItem_69, e_Text_readItem_70, e_Text_readItem_73, e_Text_readItem_75, e_Text_readItem_107, e_Text_readItem_108, alk_in, ask_in, blk_in, bsk_in, qlk_in, ack_in, rcv_in, rcA_in, bk_i, bk_l, bk_v, hS_same, hS_ne, hS_hS, hS_2, am_10, am_01, am_00, if_true, if_false, gf_5_0, pf_5_0, gf_5_1, pf_5_1, gf_5_2, pf_5_2, gf_5_3, pf_5_3, gf_5_4, pf_5_4, gf_5_5, pf_5_5, gf_5_6, pf_5_6, gf_5_7, pf_5_7, gf_8_0, pf_8_0, gf_8_1, pf_8_1, gf_8_2, pf_8_2, gf_8_3, pf_8_3, gf_8_4, pf_8_4, gf_8_5, pf_8_5, gf_8_6, pf_8_6, gf_8_7, pf_8_7, gf_8_8, pf_8_8, gf_8_9, pf_8_9, gf_8_10, pf_8_10, O0, e2]
          rw [if_neg a1]
theorem k_item (X : TxG L g tE tS tC tN) (hp : p ≤ L) {D : Dr} (hD : DrO D) (O : TxD h L tE tS tC tN D p) (Gg : h.1 3 = cI 0 120 g) (S : DrS h D) (hc : ¬ tC p = 0) (hI : D.2.2.2 ≤ 200) : ∃ h', ev mText_readItem [vR 2] h = some (none, h') ∧ h'.1 3 = h.1 3 ∧ Fr 2 10 h h' ∧ match rdI tE tS tC tN D p with
    | .inl q => (∃ p' x3 x4 x7, p' ≤ L ∧ TxO h' L tE tS tC tN p' x3 x4 (vI (q : Int)) x7) ∧ ScSh h' 4
    | .inr r => TxD h' L tE tS tC tN r.1 r.2 ∧ DrS h' r.1 := by
  have hL := X.1
  obtain ⟨h1, e1, B⟩ := k_body X hp hD O Gg S hc hI
  have ok := rdB_ok X.2.1 hp hD hc
  unfold bodyG at B
  unfold rdI
  rw [e1]
  cases e : rdB tE tS tC tN D p with
  | inl q =>
    rw [e] at B ok
    simp only at B ok ⊢
    obtain ⟨⟨p', x3, x4, x7, hp', O1⟩, B2, B3, B4⟩ := B
    have e2 := k_endf (show q ≤ 120 by omega) X hp' O1
    refine ⟨h1, ?_, B3, B4, ⟨p', x3, x4, x7, hp', O1⟩, B2⟩
    unfold TxO at O1
    simp (disch := omega) only [e_Text_readItem_111, e_Text_readItem_112, e_Text_readItem_115, alk_in, ask_in, blk_in, bsk_in, qlk_in, ack_in, rcv_in, rcA_in, bk_i, bk_l, bk_v, hS_same, hS_ne, hS_hS, hS_2, am_10, am_01, am_00, if_true, if_false, gf_8_0, pf_8_0, gf_8_1, pf_8_1, gf_8_2, pf_8_2, gf_8_3, pf_8_3, gf_8_4, pf_8_4, gf_8_5, pf_8_5, gf_8_6, pf_8_6, gf_8_7, pf_8_7, gf_8_8, pf_8_8, gf_8_9, pf_8_9, gf_8_10, pf_8_10, O1, e2]
  | inr r =>
    rw [e] at B ok
    simp only at B ok ⊢
    obtain ⟨O1, B2, B3, B4⟩ := B
    have O1' := O1
    unfold TxD TxO at O1'
    by_cases b : tC r.2 = 59
    · rw [if_pos b]
      simp only
      obtain ⟨h2, e2, O2, f2⟩ := k_end1 X ok.2.1 O1 (B3.trans Gg) b
      refine ⟨h2, ?_, (f2.at (by omega)).trans B3, B4.tr (f2.wd (by omega)), O2, RT.on B2 (fun x hx => f2.at (by omega)), fun z => by simp only at z; omega⟩
      simp (disch := omega) only [e_Text_readItem_111, e_Text_readItem_112, e_Text_readItem_115, alk_in, ask_in, blk_in, bsk_in, qlk_in, ack_in, rcv_in, rcA_in, bk_i, bk_l, bk_v, hS_same, hS_ne, hS_hS, hS_2, am_10, am_01, am_00, if_true, if_false, gf_8_0, pf_8_0, gf_8_1, pf_8_1, gf_8_2, pf_8_2, gf_8_3, pf_8_3, gf_8_4, pf_8_4, gf_8_5, pf_8_5, gf_8_6, pf_8_6, gf_8_7, pf_8_7, gf_8_8, pf_8_8, gf_8_9, pf_8_9, gf_8_10, pf_8_10, O1', e2]
    · rw [if_neg b]
      simp only
      obtain ⟨h2, e2, O2, f2⟩ := k_end0 X ok.2.1 O1 b
      refine ⟨h2, ?_, (f2.at (by omega)).trans B3, B4.tr (f2.wd (by omega)), ⟨r.2, _, _, _, ok.2.1, O2⟩, (RT.on B2 (fun x hx => f2.at (by omega))).sh⟩
      simp (disch := omega) only [e_Text_readItem_111, e_Text_readItem_112, e_Text_readItem_115, alk_in, ask_in, blk_in, bsk_in, qlk_in, ack_in, rcv_in, rcA_in, bk_i, bk_l, bk_v, hS_same, hS_ne, hS_hS, hS_2, am_10, am_01, am_00, if_true, if_false, gf_8_0, pf_8_0, gf_8_1, pf_8_1, gf_8_2, pf_8_2, gf_8_3, pf_8_3, gf_8_4, pf_8_4, gf_8_5, pf_8_5, gf_8_6, pf_8_6, gf_8_7, pf_8_7, gf_8_8, pf_8_8, gf_8_9, pf_8_9, gf_8_10, pf_8_10, O1', e2]
end RdI
