/-! Bits; months till free; moving, copying; the scene's bits -/
/-- the bit of one; none: 0 -/
def bto (x : Int) : Nat := if x = -9 then 0 else 2 ^ x.toNat
def btn (ce : Nat → Int) (k : Nat) : Nat := match k with
  | 0 => 0
  | k + 1 => if ce k = -9 then btn ce k else btn ce k ||| 2 ^ k
theorem btn_b (ce : Nat → Int) {k : Nat} (h : k ≤ 6) : btn ce k < 64 := by
  induction k with
  | zero => exact Nat.zero_lt_succ _
  | succ k ih =>
    unfold btn
    split
    · exact ih (by omega)
    · exact or_b (ih (by omega)) (pw_b (by omega))
def sye (ye : Nat → Int) (k : Nat) : Int := match k with
  | 0 => 0
  | k + 1 => sye ye k + ye k
/-- in how many months he is free: fuel, months gone -/
def outF (n : Nat) (so ha : Nat → Int) (m : Nat) (d : Nat) (g : Int) (ce ye : Nat → Int) : Int := match d with
  | 0 => -9
  | d + 1 => if ce m = -9 then g else outF n so ha m d (g + 1) (pce n ce so ha ye) (pye n ce so ha ye)
/-- the neighbours of one among the first k -/
def nbk (ce : Nat → Int) (m : Nat) (k : Nat) : Nat := match k with
  | 0 => 0
  | k + 1 => if ¬ ce m = -9 ∧ ¬ ce k = -9 ∧ (ce k - ce m = 1 ∨ ce k - ce m = -1) then nbk ce m k ||| 2 ^ k else nbk ce m k
theorem nbk_b (ce : Nat → Int) (m : Nat) {k : Nat} (h : k ≤ 6) : nbk ce m k < 64 := by
  induction k with
  | zero => exact Nat.zero_lt_succ _
  | succ k ih =>
    unfold nbk
    split
    · exact or_b (ih (by omega)) (pw_b (by omega))
    · exact ih (by omega)
theorem nbk_who {n c : Nat} {ce so ha ye : Nat → Int} (hw : Wf n c ce so ha ye) {m : Nat} (hm : m < n) (hin : ¬ ce m = -9) : ∀ k, k ≤ n → nbk ce m k = bto (who k ce (ce m - 1)) ||| bto (who k ce (ce m + 1)) := by
  have hwm := (hw.2.2.2.1 m hm).1
  intro k
  induction k with
  | zero => intro _; simp [nbk, who, bto]
  | succ k ih =>
    intro hk
    unfold nbk who
    rw [ih (by omega)]
    have key : ∀ x : Int, ¬ x = -9 → ce k = x → bto (who k ce x) = 0 := by
      intro x hx e
      rw [who_no]
      · rfl
      · intro j hj z
        have := hw.2.2.2.2 j k (by omega) (by omega) (by omega) (by omega)
        omega
    have e2 : bto (k : Int) = 2 ^ k := by
      unfold bto
      rw [if_neg (by omega), Int.toNat_natCast]
    by_cases q1 : ce k = ce m - 1
    · rw [if_pos ⟨hin, by omega, by omega⟩, if_pos q1, if_neg (by omega), key _ (by omega) q1, e2, Nat.zero_or, Nat.or_comm]
    · by_cases q2 : ce k = ce m + 1
      · rw [if_pos ⟨hin, by omega, by omega⟩, if_neg q1, if_pos q2, key _ (by omega) q2, e2, Nat.or_zero]
      · rw [if_neg (by omega), if_neg q1, if_neg q2]
theorem bto_b {n : Nat} {ce : Nat → Int} {x : Int} (h : n ≤ 6) : bto (who n ce x) < 64 := by
  unfold bto
  rcases who_range n ce x with ⟨h1, -⟩ | ⟨j, h1, h2, -⟩
  · rw [if_pos h1]; decide
  · rw [if_neg (by omega), h2, Int.toNat_natCast]; exact pw_b (by omega)
/-- a scene's cells are there, whatever they hold -/
def ScSh (h : am_H) (b : Nat) : Prop := ∃ n c t ce so ha ye ic, ScAt h b n c t ce so ha ye ic
theorem ScSh.fr {h h' : am_H} {b : Nat} (S : ScSh h b) {b' e' : Nat} (f : Fr b' e' h h') (q : b + 6 ≤ b' ∨ e' ≤ b) : ScSh h' b := by
  obtain ⟨n, c, t, ce, so, ha, ye, ic, S⟩ := S
  exact ⟨n, c, t, ce, so, ha, ye, ic, S.fr f q⟩
section Scene4
variable {b n c : Nat} {so ha : Nat → Int}
theorem RepS.sh {h : am_H} {t : Int} {ce ye : Nat → Int} (S : RepS h b n c t ce so ha ye) : ScSh h b := by
  obtain ⟨ce', so', ha', ye', ic, S, -⟩ := S
  exact ⟨n, c, t, ce', so', ha', ye', ic, S⟩
theorem l_months {m : Nat} (hm : m < n) : ∀ (d : Nat) (h : am_H) (t : Int) (ce ye : Nat → Int), d ≤ 61 → RepS h b n c t ce so ha ye → Wf n c ce so ha ye → ∃ h', gv mScene_monthsTillFree 2 [vR b, vI (m : Int), vI (61 - (d : Int))] [] h = some (some (vI (outF n so ha m d (61 - (d : Int)) ce ye)), h') ∧ ScSh h' b ∧ Fr b (b + 6) h h' := by
  intro d
  induction d with
  | zero =>
    intro h t ce ye hd S hw
    refine ⟨h, ?_, S.sh, Fr.rf⟩
    rw [e_Scene_monthsTillFree_2]
    simp (disch := omega) only [e_Scene_monthsTillFree_0, e_Scene_monthsTillFree_1, e_Scene_monthsTillFree_3, e_Scene_monthsTillFree_5, e_Scene_monthsTillFree_8, e_Scene_monthsTillFree_9, e_Scene_monthsTillFree_10, e_Scene_monthsTillFree_13, e_Scene_monthsTillFree_13b, e_Scene_monthsTillFree_16, e_Scene_monthsTillFree_17, e_Scene_monthsTillFree_18, e_Scene_monthsTillFree_19, e_Scene_monthsTillFree_22, e_Scene_monthsTillFree_23, e_Scene_monthsTillFree_26, e_Scene_monthsTillFree_29, e_Scene_monthsTillFree_31, alk_in, ask_in, blk_in, bsk_in, qlk_in, ack_in, rcv_in, rcA_in, bk_i, bk_l, bk_v, hS_same, hS_ne, hS_hS, hS_2, am_10, am_01, am_00, if_true, if_false]
    rw [if_pos (by omega)]
    rfl
  | succ d ih =>
    intro h t ce ye hd S hw
    have c1 := d_isIn S hw hm
    by_cases hin : ce m = -9
    · refine ⟨h, ?_, S.sh, Fr.rf⟩
      have S0 := S
      obtain ⟨ce', so', ha', ye', ic, ⟨s0, s1, s2, s3, s4, s5⟩, r1, r2⟩ := S
      rw [e_Scene_monthsTillFree_2]
      unfold outF
      simp (disch := omega) only [e_Scene_monthsTillFree_0, e_Scene_monthsTillFree_1, e_Scene_monthsTillFree_3, e_Scene_monthsTillFree_5, e_Scene_monthsTillFree_8, e_Scene_monthsTillFree_9, e_Scene_monthsTillFree_10, e_Scene_monthsTillFree_13, e_Scene_monthsTillFree_13b, e_Scene_monthsTillFree_16, e_Scene_monthsTillFree_17, e_Scene_monthsTillFree_18, e_Scene_monthsTillFree_19, e_Scene_monthsTillFree_22, e_Scene_monthsTillFree_23, e_Scene_monthsTillFree_26, e_Scene_monthsTillFree_29, e_Scene_monthsTillFree_31, alk_in, ask_in, blk_in, bsk_in, qlk_in, ack_in, rcv_in, rcA_in, bk_i, bk_l, bk_v, hS_same, hS_ne, hS_hS, hS_2, am_10, am_01, am_00, if_true, if_false, s0, c1, hin, if_true]
      rw [if_neg (by omega)]
    · obtain ⟨h1, e1, S1, f1⟩ := d_passMonth S hw
      obtain ⟨h2, e2, S2, f2⟩ := ih h1 (t + 1) _ _ (by omega) S1 hw.pass
      refine ⟨h2, ?_, S2, f1.tr f2⟩
      have S0 := S
      obtain ⟨ce', so', ha', ye', ic, ⟨s0, s1, s2, s3, s4, s5⟩, r1, r2⟩ := S
      rw [e_Scene_monthsTillFree_2]
      unfold outF
      have e3 : (61 : Int) - ((d + 1 : Nat) : Int) + 1 = 61 - (d : Int) := by omega
      rw [if_neg hin, e3, ← e2]
      simp (disch := omega) only [e_Scene_monthsTillFree_0, e_Scene_monthsTillFree_1, e_Scene_monthsTillFree_3, e_Scene_monthsTillFree_5, e_Scene_monthsTillFree_8, e_Scene_monthsTillFree_9, e_Scene_monthsTillFree_10, e_Scene_monthsTillFree_13, e_Scene_monthsTillFree_13b, e_Scene_monthsTillFree_16, e_Scene_monthsTillFree_17, e_Scene_monthsTillFree_18, e_Scene_monthsTillFree_19, e_Scene_monthsTillFree_22, e_Scene_monthsTillFree_23, e_Scene_monthsTillFree_26, e_Scene_monthsTillFree_29, e_Scene_monthsTillFree_31, alk_in, ask_in, blk_in, bsk_in, qlk_in, ack_in, rcv_in, rcA_in, bk_i, bk_l, bk_v, hS_same, hS_ne, hS_hS, hS_2, am_10, am_01, am_00, if_true, if_false, s0, c1, e1, hin, if_false, e3]
      rw [if_neg (by omega)]
theorem d_months {h : am_H} {t : Int} {ce ye : Nat → Int} {m : Nat} (hm : m < n) (S : RepS h b n c t ce so ha ye) (hw : Wf n c ce so ha ye) : ∃ h', ev mScene_monthsTillFree [vR b, vI (m : Int)] h = some (some (vI (outF n so ha m 61 0 ce ye)), h') ∧ ScSh h' b ∧ Fr b (b + 6) h h' := by
  obtain ⟨h', e1, r⟩ := l_months hm 61 h t ce ye (by omega) S hw
  refine ⟨h', ?_, r⟩
  rw [ev_Scene_monthsTillFree, e_Scene_monthsTillFree_0, e_Scene_monthsTillFree_1]
  exact e1
theorem who_in {n : Nat} {ce : Nat → Int} {m : Nat} (hm : m < n) {x0 x : Int} (hx : ¬ x = -9) (h0 : ∀ j, j < n → ce j = x0 → j = m) (hinj : ∀ i, i < n → ce i = ce m → i = m) : who n (fun j => if j = m then x0 else ce j) x = if x = x0 then (m : Int) else if ce m = x then -9 else who n ce x := by
  by_cases h1 : x = x0
  · rw [if_pos h1]
    refine who_at hm (by simp [h1]) (fun i hi z => ?_)
    by_cases q : i = m
    · exact q
    · rw [if_neg q] at z
      exact h0 i hi (by omega)
  · rw [if_neg h1, ← who_out hx hinj]
    clear h0 hinj hm
    induction n with
    | zero => rfl
    | succ n ih =>
      unfold who
      rw [ih]
      by_cases q : n = m
      · subst q
        simp only [if_true]
        rw [if_neg (by omega), if_neg (by omega)]
      · simp only [q, if_false]
theorem d_moveTo {h : am_H} {t : Int} {ce ye : Nat → Int} (S : RepS h b n c t ce so ha ye) (hw : Wf n c ce so ha ye) {m x0 : Nat} (hm : m < n) (hin : ¬ ce m = -9) (hx : x0 < c) (h0 : ∀ j, j < n → ce j = x0 → j = m) : ∃ h', ev mScene_moveTo [vR b, vI (m : Int), vI (x0 : Int)] h = some (none, h') ∧ RepS h' b n c t (fun j => if j = m then (x0 : Int) else ce j) so ha ye ∧ Fr b (b + 6) h h' := by
  have hwm := hw.2.2.2.1 m hm
  have hn := hw.1
  have hc9 := hw.2.2.1
  have c1 := d_hasCell S (x := (x0 : Int)) (by omega) hc9
  rw [if_pos (by omega)] at c1
  obtain ⟨h1, e1, S1, f1⟩ := d_leaveCell S hw hm hin
  obtain ⟨ce0, so0, ha0, ye0, ic0, ⟨z0, z1, z2, z3, z4, z5⟩, -, -⟩ := S
  obtain ⟨ce', so', ha', ye', ic, ⟨s0, s1, s2, s3, s4, s5⟩, r1, r2⟩ := S1
  refine ⟨_, by
    rw [ev_Scene_moveTo]
    simp (disch := omega) only [e_Scene_moveTo_0, e_Scene_moveTo_1, e_Scene_moveTo_2, e_Scene_moveTo_5, e_Scene_moveTo_5b, e_Scene_moveTo_8, e_Scene_moveTo_9, e_Scene_moveTo_10, e_Scene_moveTo_13, e_Scene_moveTo_14, e_Scene_moveTo_17, e_Scene_moveTo_18, e_Scene_moveTo_19, e_Scene_moveTo_20, e_Scene_moveTo_21, e_Scene_moveTo_24, e_Scene_moveTo_25, e_Scene_moveTo_26, e_Scene_moveTo_27, alk_in, ask_in, blk_in, bsk_in, qlk_in, ack_in, rcv_in, rcA_in, bk_i, bk_l, bk_v, hS_same, hS_ne, hS_hS, hS_2, am_10, am_01, am_00, if_true, if_false, gf_5_0, pf_5_0, gf_5_1, pf_5_1, gf_5_2, pf_5_2, gf_5_3, pf_5_3, gf_5_4, pf_5_4, gf_5_5, pf_5_5, gf_5_6, pf_5_6, gf_5_7, pf_5_7, z0, s0, s1, s5, Int.toNat_natCast, c1, e1]
    rfl, ⟨fun j => if j = m then (x0 : Int) else ce' j, so', ha', ye', fun j => if j = x0 then (m : Int) else ic j, ⟨?_, ?_, ?_, ?_, ?_, ?_⟩, fun j hj => ?_, fun x hx => ?_⟩, ?_⟩
  · simp (disch := omega) only [hS_ne, s0]
  · simp (disch := omega) only [hS_ne, hS_same]
  · simp (disch := omega) only [hS_ne, s2]
  · simp (disch := omega) only [hS_ne, s3]
  · simp (disch := omega) only [hS_ne, s4]
  · simp (disch := omega) only [hS_same]
  · have a := r1 j hj
    refine ⟨?_, a.2⟩
    show (if j = m then (x0 : Int) else ce' j) = if j = m then (x0 : Int) else ce j
    rw [a.1]
    by_cases q : j = m <;> simp [q]
  · rw [who_in hm (by omega) h0 (fun i hi z => (hw.2.2.2.2 i m hi hm z (by omega)))]
    show (if x = x0 then (m : Int) else ic x) = _
    rw [r2 x hx, who_out (by omega) (fun i hi z => (hw.2.2.2.2 i m hi hm z (by omega)))]
    by_cases q : x = x0
    · rw [if_pos q, if_pos (show (x : Int) = (x0 : Int) by omega)]
    · rw [if_neg q, if_neg (show ¬ (x : Int) = (x0 : Int) by omega)]
  · exact f1.tr ((Fr.st (by omega)).tr (Fr.st (by omega)))
theorem d_copyFrom {h : am_H} {t : Int} {ce ye : Nat → Int} {b2 : Nat} (S : RepS h b2 n c t ce so ha ye) (hn : n ≤ 6) (hc : c ≤ 9) (T : ScSh h b) (hd : b + 6 ≤ b2 ∨ b2 + 6 ≤ b) : ∃ h', ev mScene_copyFrom [vR b, vR b2] h = some (none, h') ∧ RepS h' b n c t ce so ha ye ∧ Fr b (b + 6) h h' := by
  obtain ⟨ce', so', ha', ye', ic, ⟨s0, s1, s2, s3, s4, s5⟩, r1, r2⟩ := S
  obtain ⟨nq, cq, tq, ceq, soq, haq, yeq, icq, ⟨q0, q1, q2, q3, q4, q5⟩⟩ := T
  refine ⟨_, by
    rw [ev_Scene_copyFrom]
    simp (disch := omega) only [e_Scene_copyFrom_0, e_Scene_copyFrom_1, e_Scene_copyFrom_2, e_Scene_copyFrom_5, e_Scene_copyFrom_8, e_Scene_copyFrom_9, e_Scene_copyFrom_10, e_Scene_copyFrom_13, e_Scene_copyFrom_16, e_Scene_copyFrom_17, e_Scene_copyFrom_18, e_Scene_copyFrom_21, e_Scene_copyFrom_24, e_Scene_copyFrom_25, e_Scene_copyFrom_28, e_Scene_copyFrom_29, e_Scene_copyFrom_30, e_Scene_copyFrom_33, e_Scene_copyFrom_34, e_Scene_copyFrom_36, e_Scene_copyFrom_39, e_Scene_copyFrom_40, e_Scene_copyFrom_43, e_Scene_copyFrom_44, e_Scene_copyFrom_45, e_Scene_copyFrom_48, e_Scene_copyFrom_49, e_Scene_copyFrom_51, e_Scene_copyFrom_54, e_Scene_copyFrom_55, e_Scene_copyFrom_58, e_Scene_copyFrom_59, e_Scene_copyFrom_60, e_Scene_copyFrom_63, e_Scene_copyFrom_64, e_Scene_copyFrom_66, e_Scene_copyFrom_69, e_Scene_copyFrom_70, e_Scene_copyFrom_73, e_Scene_copyFrom_74, e_Scene_copyFrom_75, e_Scene_copyFrom_78, e_Scene_copyFrom_79, e_Scene_copyFrom_81, e_Scene_copyFrom_84, e_Scene_copyFrom_85, e_Scene_copyFrom_88, e_Scene_copyFrom_89, e_Scene_copyFrom_90, e_Scene_copyFrom_93, e_Scene_copyFrom_94, e_Scene_copyFrom_96, e_Scene_copyFrom_99, alk_in, ask_in, blk_in, bsk_in, qlk_in, ack_in, rcv_in, rcA_in, bk_i, bk_l, bk_v, hS_same, hS_ne, hS_hS, hS_2, am_10, am_01, am_00, if_true, if_false, gf_5_0, pf_5_0, gf_5_1, pf_5_1, gf_5_2, pf_5_2, gf_5_3, pf_5_3, gf_5_4, pf_5_4, gf_5_5, pf_5_5, gf_5_6, pf_5_6, gf_5_7, pf_5_7, s0, s1, s2, s3, s4, s5, q0, q1, q2, q3, q4, q5]
    rfl, ⟨fun j => if j < 6 then ce' j else ceq j, fun j => if j < 6 then so' j else soq j, fun j => if j < 6 then ha' j else haq j, fun j => if j < 6 then ye' j else yeq j, fun j => if j < 9 then ic j else icq j, ⟨?_, ?_, ?_, ?_, ?_, ?_⟩, fun j hj => ?_, fun x hx => ?_⟩, ?_⟩
  · simp (disch := omega) only [hS_ne, hS_same, hS_hS]
  · simp (disch := omega) only [hS_ne, hS_same]; rfl
  · simp (disch := omega) only [hS_ne, hS_same]; rfl
  · simp (disch := omega) only [hS_ne, hS_same]; rfl
  · simp (disch := omega) only [hS_ne, hS_same]; rfl
  · simp (disch := omega) only [hS_same]; rfl
  · have a := r1 j hj
    have h6 : j < 6 := by omega
    simp only [h6, if_true]
    exact a
  · have h9 : x < 9 := by omega
    simp only [h9, if_true]
    exact r2 x hx
  · (repeat' first | exact Fr.rf | refine Fr.tr ?_ (Fr.st (by omega)))
theorem d_bitOf {h : am_H} {x : Int} (hx : -9 ≤ x ∧ x < 6) (hx2 : x = -9 ∨ 0 ≤ x) : ev mScene_bitOf [vI x] h = some (some (vI ((bto x : Nat) : Int)), h) := by
  rw [ev_Scene_bitOf]
  unfold bto
  by_cases q : x = -9
  · subst q
    simp (disch := omega) only [e_Scene_bitOf_0, e_Scene_bitOf_1, e_Scene_bitOf_3, e_Scene_bitOf_6, e_Scene_bitOf_7, e_Scene_bitOf_10, e_Scene_bitOf_11, e_Scene_bitOf_12, e_Scene_bitOf_13, if_true]
    rfl
  · obtain ⟨i, hi⟩ : ∃ i : Nat, x = (i : Int) := ⟨x.toNat, by omega⟩
    subst hi
    simp (disch := omega) only [e_Scene_bitOf_0, e_Scene_bitOf_1, e_Scene_bitOf_3, e_Scene_bitOf_6, e_Scene_bitOf_7, e_Scene_bitOf_10, e_Scene_bitOf_11, e_Scene_bitOf_12, e_Scene_bitOf_13]
    rw [if_neg q, if_neg q, Int.toNat_natCast, jshl_s i (by omega)]
theorem l_bitsIn {h : am_H} {t : Int} {ce ye : Nat → Int} (S : RepS h b n c t ce so ha ye) (hw : Wf n c ce so ha ye) : ∀ (d k : Nat), k + d = n → gv mScene_bitsIn 4 [vR b, vI ((btn ce k : Nat) : Int), vI (k : Int)] [] h = some (some (vI ((btn ce n : Nat) : Int)), h) := by
  have hn := hw.1
  intro d
  induction d with
  | zero =>
    intro k hk
    have : k = n := by omega
    subst this
    obtain ⟨ce', so', ha', ye', ic, ⟨s0, s1, s2, s3, s4, s5⟩, r1, r2⟩ := S
    rw [e_Scene_bitsIn_4]
    simp (disch := omega) only [e_Scene_bitsIn_5, e_Scene_bitsIn_6, e_Scene_bitsIn_9, e_Scene_bitsIn_32, e_Scene_bitsIn_33, alk_in, ask_in, blk_in, bsk_in, qlk_in, ack_in, rcv_in, rcA_in, bk_i, bk_l, bk_v, hS_same, hS_ne, hS_hS, hS_2, am_10, am_01, am_00, if_true, if_false, gf_5_0, pf_5_0, gf_5_1, pf_5_1, gf_5_2, pf_5_2, gf_5_3, pf_5_3, gf_5_4, pf_5_4, gf_5_5, pf_5_5, gf_5_6, pf_5_6, gf_5_7, pf_5_7, s0]
    rw [if_neg (by omega)]
  | succ d ih =>
    intro k hk
    have hkn : k < n := by omega
    have c1 := d_isIn S hw hkn
    have e1 := ih (k + 1) (by omega)
    obtain ⟨ce', so', ha', ye', ic, ⟨s0, s1, s2, s3, s4, s5⟩, r1, r2⟩ := S
    rw [e_Scene_bitsIn_4, ← e1]
    by_cases hin : ce k = -9
    · have e2 : btn ce (k + 1) = btn ce k := by
        show (if ce k = -9 then _ else _) = _
        rw [if_pos hin]
      rw [e2]
      simp (disch := omega) only [e_Scene_bitsIn_0, e_Scene_bitsIn_1, e_Scene_bitsIn_2, e_Scene_bitsIn_3, e_Scene_bitsIn_5, e_Scene_bitsIn_6, e_Scene_bitsIn_9, e_Scene_bitsIn_12, e_Scene_bitsIn_13, e_Scene_bitsIn_14, e_Scene_bitsIn_17, e_Scene_bitsIn_17b, e_Scene_bitsIn_20, e_Scene_bitsIn_21, e_Scene_bitsIn_22, e_Scene_bitsIn_23, e_Scene_bitsIn_24, e_Scene_bitsIn_25, e_Scene_bitsIn_26, e_Scene_bitsIn_29, e_Scene_bitsIn_32, e_Scene_bitsIn_33, alk_in, ask_in, blk_in, bsk_in, qlk_in, ack_in, rcv_in, rcA_in, bk_i, bk_l, bk_v, hS_same, hS_ne, hS_hS, hS_2, am_10, am_01, am_00, if_true, if_false, gf_5_0, pf_5_0, gf_5_1, pf_5_1, gf_5_2, pf_5_2, gf_5_3, pf_5_3, gf_5_4, pf_5_4, gf_5_5, pf_5_5, gf_5_6, pf_5_6, gf_5_7, pf_5_7, s0, c1, hin, if_true]
      rw [if_pos (by omega)]
      rfl
    · have e2 : btn ce (k + 1) = btn ce k ||| 2 ^ k := by
        show (if ce k = -9 then _ else _) = _
        rw [if_neg hin]
      rw [e2]
      simp (disch := omega) only [e_Scene_bitsIn_0, e_Scene_bitsIn_1, e_Scene_bitsIn_2, e_Scene_bitsIn_3, e_Scene_bitsIn_5, e_Scene_bitsIn_6, e_Scene_bitsIn_9, e_Scene_bitsIn_12, e_Scene_bitsIn_13, e_Scene_bitsIn_14, e_Scene_bitsIn_17, e_Scene_bitsIn_17b, e_Scene_bitsIn_20, e_Scene_bitsIn_21, e_Scene_bitsIn_22, e_Scene_bitsIn_23, e_Scene_bitsIn_24, e_Scene_bitsIn_25, e_Scene_bitsIn_26, e_Scene_bitsIn_29, e_Scene_bitsIn_32, e_Scene_bitsIn_33, alk_in, ask_in, blk_in, bsk_in, qlk_in, ack_in, rcv_in, rcA_in, bk_i, bk_l, bk_v, hS_same, hS_ne, hS_hS, hS_2, am_10, am_01, am_00, if_true, if_false, gf_5_0, pf_5_0, gf_5_1, pf_5_1, gf_5_2, pf_5_2, gf_5_3, pf_5_3, gf_5_4, pf_5_4, gf_5_5, pf_5_5, gf_5_6, pf_5_6, gf_5_7, pf_5_7, s0, c1, hin, if_false, jshl_s k (by omega), jor_s (btn ce k) (btn_b ce (by omega)) (2 ^ k) (pw_b (by omega))]
      rw [if_pos (by omega)]
      rfl
theorem d_bitsIn {h : am_H} {t : Int} {ce ye : Nat → Int} (S : RepS h b n c t ce so ha ye) (hw : Wf n c ce so ha ye) : ev mScene_bitsIn [vR b] h = some (some (vI ((btn ce n : Nat) : Int)), h) := by
  rw [ev_Scene_bitsIn, e_Scene_bitsIn_0, e_Scene_bitsIn_1, e_Scene_bitsIn_2, e_Scene_bitsIn_3]
  exact l_bitsIn S hw n 0 (by omega)
theorem l_yearsOfAll {h : am_H} {t : Int} {ce ye : Nat → Int} (S : RepS h b n c t ce so ha ye) (hw : Wf n c ce so ha ye) : ∀ (d k : Nat), k + d = n → gv mScene_yearsOfAll 4 [vR b, vI (sye ye k), vI (k : Int)] [] h = some (some (vI (sye ye n)), h) := by
  have hn := hw.1
  intro d
  induction d with
  | zero =>
    intro k hk
    have : k = n := by omega
    subst this
    obtain ⟨ce', so', ha', ye', ic, ⟨s0, s1, s2, s3, s4, s5⟩, r1, r2⟩ := S
    rw [e_Scene_yearsOfAll_4]
    simp (disch := omega) only [e_Scene_yearsOfAll_5, e_Scene_yearsOfAll_6, e_Scene_yearsOfAll_9, e_Scene_yearsOfAll_27, e_Scene_yearsOfAll_28, alk_in, ask_in, blk_in, bsk_in, qlk_in, ack_in, rcv_in, rcA_in, bk_i, bk_l, bk_v, hS_same, hS_ne, hS_hS, hS_2, am_10, am_01, am_00, if_true, if_false, gf_5_0, pf_5_0, gf_5_1, pf_5_1, gf_5_2, pf_5_2, gf_5_3, pf_5_3, gf_5_4, pf_5_4, gf_5_5, pf_5_5, gf_5_6, pf_5_6, gf_5_7, pf_5_7, s0]
    rw [if_neg (by omega)]
  | succ d ih =>
    intro k hk
    have hkn : k < n := by omega
    have e1 := ih (k + 1) (by omega)
    obtain ⟨ce', so', ha', ye', ic, ⟨s0, s1, s2, s3, s4, s5⟩, r1, r2⟩ := S
    rw [e_Scene_yearsOfAll_4, ← e1]
    simp (disch := omega) only [e_Scene_yearsOfAll_0, e_Scene_yearsOfAll_1, e_Scene_yearsOfAll_2, e_Scene_yearsOfAll_3, e_Scene_yearsOfAll_5, e_Scene_yearsOfAll_6, e_Scene_yearsOfAll_9, e_Scene_yearsOfAll_12, e_Scene_yearsOfAll_13, e_Scene_yearsOfAll_14, e_Scene_yearsOfAll_17, e_Scene_yearsOfAll_18, e_Scene_yearsOfAll_19, e_Scene_yearsOfAll_20, e_Scene_yearsOfAll_21, e_Scene_yearsOfAll_24, e_Scene_yearsOfAll_27, e_Scene_yearsOfAll_28, alk_in, ask_in, blk_in, bsk_in, qlk_in, ack_in, rcv_in, rcA_in, bk_i, bk_l, bk_v, hS_same, hS_ne, hS_hS, hS_2, am_10, am_01, am_00, if_true, if_false, gf_5_0, pf_5_0, gf_5_1, pf_5_1, gf_5_2, pf_5_2, gf_5_3, pf_5_3, gf_5_4, pf_5_4, gf_5_5, pf_5_5, gf_5_6, pf_5_6, gf_5_7, pf_5_7, s0, s4, Int.toNat_natCast, (r1 k hkn).2.2.2]
    rw [if_pos (by omega)]
    rfl
theorem d_yearsOfAll {h : am_H} {t : Int} {ce ye : Nat → Int} (S : RepS h b n c t ce so ha ye) (hw : Wf n c ce so ha ye) : ev mScene_yearsOfAll [vR b] h = some (some (vI (sye ye n)), h) := by
  rw [ev_Scene_yearsOfAll, e_Scene_yearsOfAll_0, e_Scene_yearsOfAll_1, e_Scene_yearsOfAll_2, e_Scene_yearsOfAll_3]
  exact l_yearsOfAll S hw n 0 (by omega)
theorem d_neighbourBits {h : am_H} {t : Int} {ce ye : Nat → Int} (S : RepS h b n c t ce so ha ye) (hw : Wf n c ce so ha ye) {m : Nat} (hm : m < n) : ev mScene_neighbourBits [vR b, vI (m : Int)] h = some (some (vI ((nbk ce m n : Nat) : Int)), h) := by
  have hn := hw.1
  have hc9 := hw.2.2.1
  have hwm := hw.2.2.2.1 m hm
  have c1 := d_isIn S hw hm
  by_cases hin : ce m = -9
  · have e0 : nbk ce m n = 0 := by
      clear c1 hwm hm S hw hn
      induction n with
      | zero => rfl
      | succ n ih => unfold nbk; rw [if_neg (fun z => z.1 hin)]; exact ih
    obtain ⟨ce', so', ha', ye', ic, ⟨s0, s1, s2, s3, s4, s5⟩, r1, r2⟩ := S
    rw [ev_Scene_neighbourBits, e0]
    simp (disch := omega) only [e_Scene_neighbourBits_0, e_Scene_neighbourBits_1, e_Scene_neighbourBits_2, e_Scene_neighbourBits_5, e_Scene_neighbourBits_5b, e_Scene_neighbourBits_8, e_Scene_neighbourBits_9, e_Scene_neighbourBits_10, e_Scene_neighbourBits_11, e_Scene_neighbourBits_12, e_Scene_neighbourBits_15, e_Scene_neighbourBits_16, e_Scene_neighbourBits_17, e_Scene_neighbourBits_18, e_Scene_neighbourBits_19, e_Scene_neighbourBits_22, e_Scene_neighbourBits_25, e_Scene_neighbourBits_26, e_Scene_neighbourBits_27, e_Scene_neighbourBits_30, e_Scene_neighbourBits_31, e_Scene_neighbourBits_32, e_Scene_neighbourBits_33, e_Scene_neighbourBits_34, e_Scene_neighbourBits_37, e_Scene_neighbourBits_40, e_Scene_neighbourBits_41, alk_in, ask_in, blk_in, bsk_in, qlk_in, ack_in, rcv_in, rcA_in, bk_i, bk_l, bk_v, hS_same, hS_ne, hS_hS, hS_2, am_10, am_01, am_00, if_true, if_false, gf_5_0, pf_5_0, gf_5_1, pf_5_1, gf_5_2, pf_5_2, gf_5_3, pf_5_3, gf_5_4, pf_5_4, gf_5_5, pf_5_5, gf_5_6, pf_5_6, gf_5_7, pf_5_7, s0, c1, hin, if_true]
    rfl
  · have c2 := d_whoIn S hw (x := ce m - 1) (by omega) (by omega)
    have c3 := d_whoIn S hw (x := ce m + 1) (by omega) (by omega)
    have b1 := who_b n ce (ce m - 1)
    have b2 := who_b n ce (ce m + 1)
    have c4 := d_bitOf (h := h) (x := who n ce (ce m - 1)) (by omega) (who_s _ _ _)
    have c5 := d_bitOf (h := h) (x := who n ce (ce m + 1)) (by omega) (who_s _ _ _)
    obtain ⟨ce', so', ha', ye', ic, ⟨s0, s1, s2, s3, s4, s5⟩, r1, r2⟩ := S
    rw [ev_Scene_neighbourBits, nbk_who hw hm hin n (Nat.le_refl n), ← jor_s _ (bto_b hn) _ (bto_b hn)]
    simp (disch := omega) only [e_Scene_neighbourBits_0, e_Scene_neighbourBits_1, e_Scene_neighbourBits_2, e_Scene_neighbourBits_5, e_Scene_neighbourBits_5b, e_Scene_neighbourBits_8, e_Scene_neighbourBits_9, e_Scene_neighbourBits_10, e_Scene_neighbourBits_11, e_Scene_neighbourBits_12, e_Scene_neighbourBits_15, e_Scene_neighbourBits_16, e_Scene_neighbourBits_17, e_Scene_neighbourBits_18, e_Scene_neighbourBits_19, e_Scene_neighbourBits_22, e_Scene_neighbourBits_25, e_Scene_neighbourBits_26, e_Scene_neighbourBits_27, e_Scene_neighbourBits_30, e_Scene_neighbourBits_31, e_Scene_neighbourBits_32, e_Scene_neighbourBits_33, e_Scene_neighbourBits_34, e_Scene_neighbourBits_37, e_Scene_neighbourBits_40, e_Scene_neighbourBits_41, alk_in, ask_in, blk_in, bsk_in, qlk_in, ack_in, rcv_in, rcA_in, bk_i, bk_l, bk_v, hS_same, hS_ne, hS_hS, hS_2, am_10, am_01, am_00, if_true, if_false, gf_5_0, pf_5_0, gf_5_1, pf_5_1, gf_5_2, pf_5_2, gf_5_3, pf_5_3, gf_5_4, pf_5_4, gf_5_5, pf_5_5, gf_5_6, pf_5_6, gf_5_7, pf_5_7, s0, s1, c1, hin, if_false, Int.toNat_natCast, (r1 m hm).1, c2, c3, c4, c5]
end Scene4
