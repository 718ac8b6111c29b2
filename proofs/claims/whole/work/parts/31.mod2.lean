/-! The model: then, a month, what is held aside, how many months -/
def Sh (h : am_H) (a n : Nat) : Prop := ∃ f, h.1 a = cI 0 n f
theorem Sh.fe {h h' : am_H} {a n : Nat} {l : List Nat} (s : Sh h a n) (f : FE l h h') (q : a ∉ l) : Sh h' a n := by
  obtain ⟨g, e⟩ := s
  exact ⟨g, f.at e q⟩
theorem RepM.fe {h h' : am_H} {n c : Nat} {lo t : Int} {ce so ha ye : Nat → Int} {l : List Nat} (S : RepM h n c lo t ce so ha ye) (f : FE l h h') (q : 120 ∉ l ∧ 122 ∉ l ∧ 124 ∉ l) : RepM h' n c lo t ce so ha ye := by
  obtain ⟨x0, x2, x7, x11, x12, x13, x14, x15, T, F, o, a, b, r⟩ := S
  exact ⟨x0, x2, x7, x11, x12, x13, x14, x15, T, F, f.at o q.1, f.at a q.2.1, f.at b q.2.2, r⟩
theorem RepM.setYe {h : am_H} {n c : Nat} {lo t : Int} {ce so ha ye : Nat → Int} (S : RepM h n c lo t ce so ha ye) (hn : n ≤ 6) {m : Nat} (hm : m < 6) (x : Int) {F : Nat → Int} (e : h.1 124 = cI 0 19 F) : RepM (hS h 124 (cI 0 19 (fun j => if j = 13 + m then x else F j))) n c lo t ce so ha (fun j => if j = m then x else ye j) := by
  obtain ⟨x0, x2, x7, x11, x12, x13, x14, x15, T, G, o, a, b, r0, r1, r2, r3, r⟩ := S
  rw [b] at e
  cases e
  refine ⟨x0, x2, x7, x11, x12, x13, x14, x15, T, _, (by unfold MoA; rw [hS_ne (by decide)]; exact o), (by rw [hS_ne (by decide)]; exact a), hS_same, r0, r1, r2, ?_, fun j hj => ?_⟩
  · rw [if_neg (by omega)]; exact r3
  · have z := r j hj
    refine ⟨z.1, by rw [if_neg (by omega)]; exact z.2.1, by rw [if_neg (by omega)]; exact z.2.2.1, ?_⟩
    by_cases q : j = m
    · simp [q]
    · rw [if_neg (by omega)]; simp only [q, if_false]; exact z.2.2.2
theorem RepM.setCe {h : am_H} {n c : Nat} {lo t : Int} {ce so ha ye : Nat → Int} (S : RepM h n c lo t ce so ha ye) (hn : n ≤ 6) {m : Nat} (hm : m < 6) (x : Int) {F : Nat → Int} (e : h.1 124 = cI 0 19 F) : RepM (hS h 124 (cI 0 19 (fun j => if j = 1 + m then x else F j))) n c lo t (fun j => if j = m then x else ce j) so ha ye := by
  obtain ⟨x0, x2, x7, x11, x12, x13, x14, x15, T, G, o, a, b, r0, r1, r2, r3, r⟩ := S
  rw [b] at e
  cases e
  refine ⟨x0, x2, x7, x11, x12, x13, x14, x15, T, _, (by unfold MoA; rw [hS_ne (by decide)]; exact o), (by rw [hS_ne (by decide)]; exact a), hS_same, r0, r1, r2, ?_, fun j hj => ?_⟩
  · rw [if_neg (by omega)]; exact r3
  · have z := r j hj
    refine ⟨z.1, ?_, by rw [if_neg (by omega)]; exact z.2.2.1, by rw [if_neg (by omega)]; exact z.2.2.2⟩
    by_cases q : j = m
    · simp [q]
    · rw [if_neg (by omega)]; simp only [q, if_false]; exact z.2.1
theorem RepM.setSo {h : am_H} {n c : Nat} {lo t : Int} {ce so ha ye : Nat → Int} (S : RepM h n c lo t ce so ha ye) (hn : n ≤ 6) {m : Nat} (hm : m < 6) (x : Int) {F : Nat → Int} (e : h.1 124 = cI 0 19 F) : RepM (hS h 124 (cI 0 19 (fun j => if j = 7 + m then x else F j))) n c lo t ce (fun j => if j = m then x else so j) ha ye := by
  obtain ⟨x0, x2, x7, x11, x12, x13, x14, x15, T, G, o, a, b, r0, r1, r2, r3, r⟩ := S
  rw [b] at e
  cases e
  refine ⟨x0, x2, x7, x11, x12, x13, x14, x15, T, _, (by unfold MoA; rw [hS_ne (by decide)]; exact o), (by rw [hS_ne (by decide)]; exact a), hS_same, r0, r1, r2, ?_, fun j hj => ?_⟩
  · rw [if_neg (by omega)]; exact r3
  · have z := r j hj
    refine ⟨z.1, by rw [if_neg (by omega)]; exact z.2.1, ?_, by rw [if_neg (by omega)]; exact z.2.2.2⟩
    by_cases q : j = m
    · simp [q]
    · rw [if_neg (by omega)]; simp only [q, if_false]; exact z.2.2.1
theorem RepM.setT {h : am_H} {n c : Nat} {lo t : Int} {ce so ha ye : Nat → Int} (S : RepM h n c lo t ce so ha ye) (x : Int) {F : Nat → Int} (e : h.1 124 = cI 0 19 F) : RepM (hS h 124 (cI 0 19 (fun j => if j = 0 then x else F j))) n c lo x ce so ha ye := by
  obtain ⟨x0, x2, x7, x11, x12, x13, x14, x15, T, G, o, a, b, r0, r1, r2, r3, r⟩ := S
  rw [b] at e
  cases e
  refine ⟨x0, x2, x7, x11, x12, x13, x14, x15, T, _, (by unfold MoA; rw [hS_ne (by decide)]; exact o), (by rw [hS_ne (by decide)]; exact a), hS_same, r0, r1, r2, by simp, fun j hj => ?_⟩
  have z := r j hj
  exact ⟨z.1, by rw [if_neg (by omega)]; exact z.2.1, by rw [if_neg (by omega)]; exact z.2.2.1, by rw [if_neg (by omega)]; exact z.2.2.2⟩
theorem m_isIn0 {h : am_H} {n c : Nat} {lo t : Int} {ce so ha ye : Nat → Int} (S : RepM h n c lo t ce so ha ye) (hn : n ≤ 6) {m : Nat} (hm : m < n) (hr : -2147483648 ≤ ce m ∧ ce m < 2147483648) : ev mMod_isIn [vR 120, vI (m : Int)] h = some (some (vI (if ce m = -9 then 0 else 1)), h) := by
  obtain ⟨x0, x2, x7, x11, x12, x13, x14, x15, T, F, o, a, b, r0, r1, r2, r3, r⟩ := S
  unfold MoA at o
  rw [ev_Mod_isIn]
  simp (disch := omega) only [e_Mod_isIn_0, e_Mod_isIn_1, e_Mod_isIn_4, e_Mod_isIn_5, e_Mod_isIn_6, e_Mod_isIn_7, e_Mod_isIn_8, e_Mod_isIn_10, e_Mod_isIn_13, e_Mod_isIn_14, e_Mod_isIn_17, e_Mod_isIn_18, alk_in, ask_in, blk_in, bsk_in, qlk_in, ack_in, rcv_in, rcA_in, bk_i, bk_l, bk_v, hS_same, hS_ne, hS_hS, hS_2, am_10, am_01, am_00, if_true, if_false, gf_12_0, pf_12_0, gf_12_1, pf_12_1, gf_12_2, pf_12_2, gf_12_3, pf_12_3, gf_12_4, pf_12_4, gf_12_5, pf_12_5, gf_12_6, pf_12_6, gf_12_7, pf_12_7, gf_12_8, pf_12_8, gf_12_9, pf_12_9, gf_12_10, pf_12_10, gf_12_11, pf_12_11, gf_12_12, pf_12_12, gf_12_13, pf_12_13, gf_12_14, pf_12_14, gf_12_15, pf_12_15, gf_12_16, pf_12_16, gf_12_17, pf_12_17, gf_12_18, pf_12_18, gf_12_19, pf_12_19, gf_12_20, pf_12_20, o, b, tn_1, (r m hm).2.1]
  by_cases q : ce m = -9 <;> simp [q]
section Mod2
variable {n c : Nat} {lo : Int} {so ha : Nat → Int}
theorem lm_then {h : am_H} {t : Int} {ce ye : Nat → Int} (S : RepM h n c lo t ce so ha ye) (hw : Wf n c ce so ha ye) {m : Nat} (hm : m < n) : ∀ (d k : Nat), k + d = n → gv mMod_then 14 [vR 120, vI (m : Int), vI (ye m - 1 + thk ce so ha m k), vI (k : Int)] [] h = gv mMod_then 70 [vR 120, vI (m : Int), vI (ye m - 1 + thk ce so ha m n), vI (n : Int)] [] h := by
  have hn := hw.1
  have hc9 := hw.2.2.1
  have h0 := hw.2.2.2.1 m hm
  have cb := m_beside S hw hm
  obtain ⟨x0, x2, x7, x11, x12, x13, x14, x15, T, F, o, a, b, r0, r1, r2, r3, r⟩ := S
  unfold MoA at o
  intro d
  induction d with
  | zero =>
    intro k hk
    have : k = n := by omega
    subst this
    rw [e_Mod_then_14]
    simp (disch := omega) only [e_Mod_then_15, e_Mod_then_16, e_Mod_then_19, e_Mod_then_20, e_Mod_then_21, alk_in, ask_in, blk_in, bsk_in, qlk_in, ack_in, rcv_in, rcA_in, bk_i, bk_l, bk_v, hS_same, hS_ne, hS_hS, hS_2, am_10, am_01, am_00, if_true, if_false, gf_12_0, pf_12_0, gf_12_1, pf_12_1, gf_12_2, pf_12_2, gf_12_3, pf_12_3, gf_12_4, pf_12_4, gf_12_5, pf_12_5, gf_12_6, pf_12_6, gf_12_7, pf_12_7, gf_12_8, pf_12_8, gf_12_9, pf_12_9, gf_12_10, pf_12_10, gf_12_11, pf_12_11, gf_12_12, pf_12_12, gf_12_13, pf_12_13, gf_12_14, pf_12_14, gf_12_15, pf_12_15, gf_12_16, pf_12_16, gf_12_17, pf_12_17, gf_12_18, pf_12_18, gf_12_19, pf_12_19, gf_12_20, pf_12_20, o, a, tl_1, r1]
    rw [if_neg (by omega)]
  | succ d ih =>
    intro k hk
    have hkn : k < n := by omega
    have h1 := hw.2.2.2.1 k hkn
    have e1 := ih (k + 1) (by omega)
    have jb := jbit_s (nbk ce m n) (nbk_b ce m hn) k (by omega)
    rw [nbk_bit ce m n hkn] at jb
    have cf := c_puts (h := h) (a := ha k) (s := so m) (by omega)
    have e0 : thk ce so ha m (k + 1) = thk ce so ha m k + if ¬ ce m = -9 ∧ ¬ ce k = -9 ∧ (ce k - ce m = 1 ∨ ce k - ce m = -1) then fig (ha k) (so m) else 0 := rfl
    rw [e_Mod_then_14, ← e1, e0, ← Int.add_assoc]
    by_cases q : ¬ ce m = -9 ∧ ¬ ce k = -9 ∧ (ce k - ce m = 1 ∨ ce k - ce m = -1)
    · rw [if_pos q]
      rw [decide_eq_true q] at jb
      simp (disch := omega) only [e_Mod_then_0, e_Mod_then_1, e_Mod_then_4, e_Mod_then_6, e_Mod_then_7, e_Mod_then_8, e_Mod_then_9, e_Mod_then_10, e_Mod_then_11, e_Mod_then_12, e_Mod_then_13, e_Mod_then_15, e_Mod_then_16, e_Mod_then_19, e_Mod_then_20, e_Mod_then_21, e_Mod_then_24, e_Mod_then_25, e_Mod_then_26, e_Mod_then_27, e_Mod_then_30, e_Mod_then_31, e_Mod_then_32, e_Mod_then_33, e_Mod_then_34, e_Mod_then_35, e_Mod_then_38, e_Mod_then_39, e_Mod_then_42, e_Mod_then_43, e_Mod_then_44, e_Mod_then_45, e_Mod_then_46, e_Mod_then_47, e_Mod_then_50, e_Mod_then_52, e_Mod_then_53, e_Mod_then_54, e_Mod_then_55, e_Mod_then_58, e_Mod_then_61, e_Mod_then_62, e_Mod_then_63, e_Mod_then_64, e_Mod_then_67, e_Mod_then_71, e_Mod_then_72, e_Mod_then_75, e_Mod_then_75b, e_Mod_then_78, e_Mod_then_79, e_Mod_then_82, e_Mod_then_83, e_Mod_then_86, e_Mod_then_87, e_Mod_then_89, e_Mod_then_92, e_Mod_then_94, e_Mod_then_97, e_Mod_then_98, alk_in, ask_in, blk_in, bsk_in, qlk_in, ack_in, rcv_in, rcA_in, bk_i, bk_l, bk_v, hS_same, hS_ne, hS_hS, hS_2, am_10, am_01, am_00, if_true, if_false, gf_12_0, pf_12_0, gf_12_1, pf_12_1, gf_12_2, pf_12_2, gf_12_3, pf_12_3, gf_12_4, pf_12_4, gf_12_5, pf_12_5, gf_12_6, pf_12_6, gf_12_7, pf_12_7, gf_12_8, pf_12_8, gf_12_9, pf_12_9, gf_12_10, pf_12_10, gf_12_11, pf_12_11, gf_12_12, pf_12_12, gf_12_13, pf_12_13, gf_12_14, pf_12_14, gf_12_15, pf_12_15, gf_12_16, pf_12_16, gf_12_17, pf_12_17, gf_12_18, pf_12_18, gf_12_19, pf_12_19, gf_12_20, pf_12_20, o, a, b, tl_1, r1, tn_1, tn_5, tn_7, (r k hkn).1, (r m hm).2.2.1, cb, jb, cf]
      rw [if_pos (by omega)]; rfl
    · rw [if_neg q]
      rw [decide_eq_false q] at jb
      simp (disch := omega) only [e_Mod_then_0, e_Mod_then_1, e_Mod_then_4, e_Mod_then_6, e_Mod_then_7, e_Mod_then_8, e_Mod_then_9, e_Mod_then_10, e_Mod_then_11, e_Mod_then_12, e_Mod_then_13, e_Mod_then_15, e_Mod_then_16, e_Mod_then_19, e_Mod_then_20, e_Mod_then_21, e_Mod_then_24, e_Mod_then_25, e_Mod_then_26, e_Mod_then_27, e_Mod_then_30, e_Mod_then_31, e_Mod_then_32, e_Mod_then_33, e_Mod_then_34, e_Mod_then_35, e_Mod_then_38, e_Mod_then_39, e_Mod_then_42, e_Mod_then_43, e_Mod_then_44, e_Mod_then_45, e_Mod_then_46, e_Mod_then_47, e_Mod_then_50, e_Mod_then_52, e_Mod_then_53, e_Mod_then_54, e_Mod_then_55, e_Mod_then_58, e_Mod_then_61, e_Mod_then_62, e_Mod_then_63, e_Mod_then_64, e_Mod_then_67, e_Mod_then_71, e_Mod_then_72, e_Mod_then_75, e_Mod_then_75b, e_Mod_then_78, e_Mod_then_79, e_Mod_then_82, e_Mod_then_83, e_Mod_then_86, e_Mod_then_87, e_Mod_then_89, e_Mod_then_92, e_Mod_then_94, e_Mod_then_97, e_Mod_then_98, alk_in, ask_in, blk_in, bsk_in, qlk_in, ack_in, rcv_in, rcA_in, bk_i, bk_l, bk_v, hS_same, hS_ne, hS_hS, hS_2, am_10, am_01, am_00, if_true, if_false, gf_12_0, pf_12_0, gf_12_1, pf_12_1, gf_12_2, pf_12_2, gf_12_3, pf_12_3, gf_12_4, pf_12_4, gf_12_5, pf_12_5, gf_12_6, pf_12_6, gf_12_7, pf_12_7, gf_12_8, pf_12_8, gf_12_9, pf_12_9, gf_12_10, pf_12_10, gf_12_11, pf_12_11, gf_12_12, pf_12_12, gf_12_13, pf_12_13, gf_12_14, pf_12_14, gf_12_15, pf_12_15, gf_12_16, pf_12_16, gf_12_17, pf_12_17, gf_12_18, pf_12_18, gf_12_19, pf_12_19, gf_12_20, pf_12_20, o, a, b, tl_1, r1, cb, jb, Bool.false_eq_true]
      rw [if_pos (by omega)]; rfl
theorem m_then {h : am_H} {t : Int} {ce ye : Nat → Int} (S : RepM h n c lo t ce so ha ye) (hw : Wf n c ce so ha ye) {m : Nat} (hm : m < n) : ev mMod_then [vR 120, vI (m : Int)] h = some (some (vI (thn n ce so ha ye m)), h) := by
  have hn := hw.1
  have h0 := hw.2.2.2.1 m hm
  have hb := thk_b hw m n (Nat.le_refl n)
  have ci := m_isIn S hw hm
  have el := lm_then S hw hm n 0 (by omega)
  have e0 : thk ce so ha m 0 = 0 := rfl
  rw [e0, Int.add_zero] at el
  obtain ⟨x0, x2, x7, x11, x12, x13, x14, x15, T, F, o, a, b, r0, r1, r2, r3, r⟩ := S
  unfold MoA at o
  rw [ev_Mod_then]
  simp (disch := omega) only [e_Mod_then_0, e_Mod_then_1, e_Mod_then_4, e_Mod_then_6, e_Mod_then_7, e_Mod_then_8, e_Mod_then_9, e_Mod_then_10, e_Mod_then_11, e_Mod_then_12, e_Mod_then_13, e_Mod_then_15, e_Mod_then_16, e_Mod_then_19, e_Mod_then_20, e_Mod_then_21, e_Mod_then_24, e_Mod_then_25, e_Mod_then_26, e_Mod_then_27, e_Mod_then_30, e_Mod_then_31, e_Mod_then_32, e_Mod_then_33, e_Mod_then_34, e_Mod_then_35, e_Mod_then_38, e_Mod_then_39, e_Mod_then_42, e_Mod_then_43, e_Mod_then_44, e_Mod_then_45, e_Mod_then_46, e_Mod_then_47, e_Mod_then_50, e_Mod_then_52, e_Mod_then_53, e_Mod_then_54, e_Mod_then_55, e_Mod_then_58, e_Mod_then_61, e_Mod_then_62, e_Mod_then_63, e_Mod_then_64, e_Mod_then_67, alk_in, ask_in, blk_in, bsk_in, qlk_in, ack_in, rcv_in, rcA_in, bk_i, bk_l, bk_v, hS_same, hS_ne, hS_hS, hS_2, am_10, am_01, am_00, if_true, if_false, gf_12_0, pf_12_0, gf_12_1, pf_12_1, gf_12_2, pf_12_2, gf_12_3, pf_12_3, gf_12_4, pf_12_4, gf_12_5, pf_12_5, gf_12_6, pf_12_6, gf_12_7, pf_12_7, gf_12_8, pf_12_8, gf_12_9, pf_12_9, gf_12_10, pf_12_10, gf_12_11, pf_12_11, gf_12_12, pf_12_12, gf_12_13, pf_12_13, gf_12_14, pf_12_14, gf_12_15, pf_12_15, gf_12_16, pf_12_16, gf_12_17, pf_12_17, gf_12_18, pf_12_18, gf_12_19, pf_12_19, gf_12_20, pf_12_20, o, b, tn_13, (r m hm).2.2.2]
  refine Eq.trans el ?_
  simp (disch := omega) only [e_Mod_then_70, e_Mod_then_71, e_Mod_then_72, e_Mod_then_75, e_Mod_then_75b, e_Mod_then_78, e_Mod_then_79, e_Mod_then_82, e_Mod_then_83, e_Mod_then_86, e_Mod_then_87, e_Mod_then_89, e_Mod_then_92, e_Mod_then_94, e_Mod_then_97, e_Mod_then_98, alk_in, ask_in, blk_in, bsk_in, qlk_in, ack_in, rcv_in, rcA_in, bk_i, bk_l, bk_v, hS_same, hS_ne, hS_hS, hS_2, am_10, am_01, am_00, if_true, if_false, gf_12_0, pf_12_0, gf_12_1, pf_12_1, gf_12_2, pf_12_2, gf_12_3, pf_12_3, gf_12_4, pf_12_4, gf_12_5, pf_12_5, gf_12_6, pf_12_6, gf_12_7, pf_12_7, gf_12_8, pf_12_8, gf_12_9, pf_12_9, gf_12_10, pf_12_10, gf_12_11, pf_12_11, gf_12_12, pf_12_12, gf_12_13, pf_12_13, gf_12_14, pf_12_14, gf_12_15, pf_12_15, gf_12_16, pf_12_16, gf_12_17, pf_12_17, gf_12_18, pf_12_18, gf_12_19, pf_12_19, gf_12_20, pf_12_20, o, ci]
  unfold thn
  by_cases q : ce m = -9
  · simp only [q, if_true]
  · simp only [q, if_false, if_true, am_10]
    unfold aft cl
    have e2 := thk_ffr hw hm q n (Nat.le_refl n)
    rw [e2, ← Int.add_assoc]
    repeat' split
    all_goals first | rfl | omega
theorem thn_pye {ce ye : Nat → Int} (hw : Wf n c ce so ha ye) {j : Nat} (hj : j < n) : thn n ce so ha ye j = pye n ce so ha ye j := by
  have h0 := hw.2.2.2.1 j hj
  unfold thn pye
  by_cases q : ce j = -9
  · rw [if_pos q, if_pos q]; omega
  · rw [if_neg q, if_neg q]
theorem lm_pass1 {t : Int} {ce ye : Nat → Int} (hw : Wf n c ce so ha ye) {x1 : am_V} : ∀ (d k : Nat) (h : am_H) (E : Nat → Int), k + d = n → RepM h n c lo t ce so ha ye → h.1 129 = cI 0 6 E → (∀ j, j < k → E j = pye n ce so ha ye j) → ∃ h' E', gv mMod_passes 4 [vR 120, x1, vI (k : Int)] [] h = gv mMod_passes 31 [vR 120, x1, vI (n : Int)] [] h' ∧ RepM h' n c lo t ce so ha ye ∧ h'.1 129 = cI 0 6 E' ∧ (∀ j, j < n → E' j = pye n ce so ha ye j) ∧ FE [124, 129] h h' := by
  have hn := hw.1
  intro d
  induction d with
  | zero =>
    intro k h E hk S e he
    have : k = n := by omega
    subst this
    refine ⟨h, E, ?_, S, e, he, FE.rf⟩
    obtain ⟨x0, x2, x7, x11, x12, x13, x14, x15, T, F, o, a, b, r0, r1, r2, r3, r⟩ := S
    unfold MoA at o
    rw [e_Mod_passes_4]
    simp (disch := omega) only [e_Mod_passes_5, e_Mod_passes_6, e_Mod_passes_9, e_Mod_passes_10, e_Mod_passes_11, alk_in, ask_in, blk_in, bsk_in, qlk_in, ack_in, rcv_in, rcA_in, bk_i, bk_l, bk_v, hS_same, hS_ne, hS_hS, hS_2, am_10, am_01, am_00, if_true, if_false, gf_12_0, pf_12_0, gf_12_1, pf_12_1, gf_12_2, pf_12_2, gf_12_3, pf_12_3, gf_12_4, pf_12_4, gf_12_5, pf_12_5, gf_12_6, pf_12_6, gf_12_7, pf_12_7, gf_12_8, pf_12_8, gf_12_9, pf_12_9, gf_12_10, pf_12_10, gf_12_11, pf_12_11, gf_12_12, pf_12_12, gf_12_13, pf_12_13, gf_12_14, pf_12_14, gf_12_15, pf_12_15, gf_12_16, pf_12_16, gf_12_17, pf_12_17, gf_12_18, pf_12_18, gf_12_19, pf_12_19, gf_12_20, pf_12_20, o, a, tl_1, r1]
    rw [if_neg (by omega)]
  | succ d ih =>
    intro k h E hk S e he
    have hkn : k < n := by omega
    have ct := m_then S hw hkn
    rw [thn_pye hw hkn] at ct
    have fe : FE [124, 129] h (hS h 129 (cI 0 6 (fun j => if j = k then pye n ce so ha ye k else E j))) := FE.st (by decide)
    have fe2 : FE [129] h (hS h 129 (cI 0 6 (fun j => if j = k then pye n ce so ha ye k else E j))) := FE.st (by decide)
    obtain ⟨h', E', e1, S1, e2, e3, f1⟩ := ih (k + 1) _ _ (by omega) (S.fe fe2 (by decide)) hS_same (fun j hj => by
      by_cases q : j = k
      · simp [q]
      · rw [if_neg q]; exact he j (by omega))
    refine ⟨h', E', ?_, S1, e2, e3, fe.tr f1⟩
    obtain ⟨x0, x2, x7, x11, x12, x13, x14, x15, T, F, o, a, b, r0, r1, r2, r3, r⟩ := S
    unfold MoA at o
    rw [e_Mod_passes_4, ← e1]
    simp (disch := omega) only [e_Mod_passes_0, e_Mod_passes_1, e_Mod_passes_2, e_Mod_passes_3, e_Mod_passes_5, e_Mod_passes_6, e_Mod_passes_9, e_Mod_passes_10, e_Mod_passes_11, e_Mod_passes_14, e_Mod_passes_15, e_Mod_passes_18, e_Mod_passes_19, e_Mod_passes_20, e_Mod_passes_21, e_Mod_passes_24, e_Mod_passes_25, e_Mod_passes_28, e_Mod_passes_32, e_Mod_passes_33, e_Mod_passes_34, e_Mod_passes_35, e_Mod_passes_38, e_Mod_passes_39, e_Mod_passes_40, e_Mod_passes_43, e_Mod_passes_44, e_Mod_passes_47, e_Mod_passes_49, e_Mod_passes_50, e_Mod_passes_51, e_Mod_passes_52, e_Mod_passes_55, e_Mod_passes_56, e_Mod_passes_57, e_Mod_passes_58, e_Mod_passes_59, e_Mod_passes_60, e_Mod_passes_61, e_Mod_passes_64, e_Mod_passes_64b, e_Mod_passes_67, e_Mod_passes_68, e_Mod_passes_71, e_Mod_passes_72, e_Mod_passes_73, e_Mod_passes_73b, e_Mod_passes_76, e_Mod_passes_77, e_Mod_passes_80, e_Mod_passes_81, e_Mod_passes_82, e_Mod_passes_83, e_Mod_passes_84, e_Mod_passes_87, e_Mod_passes_88, e_Mod_passes_89, e_Mod_passes_90, e_Mod_passes_91, e_Mod_passes_94, e_Mod_passes_95, e_Mod_passes_96, e_Mod_passes_96b, e_Mod_passes_99, e_Mod_passes_101, e_Mod_passes_104, e_Mod_passes_105, e_Mod_passes_108, e_Mod_passes_109, e_Mod_passes_110, e_Mod_passes_111, e_Mod_passes_112, e_Mod_passes_113, e_Mod_passes_116, e_Mod_passes_119, e_Mod_passes_120, e_Mod_passes_123, e_Mod_passes_124, e_Mod_passes_125, e_Mod_passes_126, e_Mod_passes_127, e_Mod_passes_128, e_Mod_passes_129, e_Mod_passes_130, alk_in, ask_in, blk_in, bsk_in, qlk_in, ack_in, rcv_in, rcA_in, bk_i, bk_l, bk_v, hS_same, hS_ne, hS_hS, hS_2, am_10, am_01, am_00, if_true, if_false, gf_12_0, pf_12_0, gf_12_1, pf_12_1, gf_12_2, pf_12_2, gf_12_3, pf_12_3, gf_12_4, pf_12_4, gf_12_5, pf_12_5, gf_12_6, pf_12_6, gf_12_7, pf_12_7, gf_12_8, pf_12_8, gf_12_9, pf_12_9, gf_12_10, pf_12_10, gf_12_11, pf_12_11, gf_12_12, pf_12_12, gf_12_13, pf_12_13, gf_12_14, pf_12_14, gf_12_15, pf_12_15, gf_12_16, pf_12_16, gf_12_17, pf_12_17, gf_12_18, pf_12_18, gf_12_19, pf_12_19, gf_12_20, pf_12_20, o, a, e, tl_1, r1, ct, Int.toNat_natCast]
    rw [if_pos (by omega)]; rfl
theorem lm_pass2 {t : Int} {ce ye E : Nat → Int} (hw : Wf n c ce so ha ye) (hE : ∀ j, j < n → E j = pye n ce so ha ye j) : ∀ (d k : Nat) (h : am_H), k + d = n → RepM h n c lo t (ckp n ce so ha ye k) so ha (ykp n ce so ha ye k) → h.1 129 = cI 0 6 E → ∃ h', gv mMod_passes 33 [vR 120, vI (pfr n ce so ha ye k), vI (k : Int)] [] h = gv mMod_passes 119 [vR 120, vI (pfr n ce so ha ye n), vI (n : Int)] [] h' ∧ RepM h' n c lo t (pce n ce so ha ye) so ha (pye n ce so ha ye) ∧ FE [124] h h' := by
  have hn := hw.1
  have hc9 := hw.2.2.1
  intro d
  induction d with
  | zero =>
    intro k h hk S e
    have : k = n := by omega
    subst this
    refine ⟨h, ?_, S.co (fun j hj => ⟨ckp_n _ _ _ _ _ hj, rfl, rfl, by unfold ykp; rw [if_pos hj]⟩), FE.rf⟩
    obtain ⟨x0, x2, x7, x11, x12, x13, x14, x15, T, F, o, a, b, r0, r1, r2, r3, r⟩ := S
    unfold MoA at o
    rw [e_Mod_passes_33]
    simp (disch := omega) only [e_Mod_passes_34, e_Mod_passes_35, e_Mod_passes_38, e_Mod_passes_39, e_Mod_passes_40, alk_in, ask_in, blk_in, bsk_in, qlk_in, ack_in, rcv_in, rcA_in, bk_i, bk_l, bk_v, hS_same, hS_ne, hS_hS, hS_2, am_10, am_01, am_00, if_true, if_false, gf_12_0, pf_12_0, gf_12_1, pf_12_1, gf_12_2, pf_12_2, gf_12_3, pf_12_3, gf_12_4, pf_12_4, gf_12_5, pf_12_5, gf_12_6, pf_12_6, gf_12_7, pf_12_7, gf_12_8, pf_12_8, gf_12_9, pf_12_9, gf_12_10, pf_12_10, gf_12_11, pf_12_11, gf_12_12, pf_12_12, gf_12_13, pf_12_13, gf_12_14, pf_12_14, gf_12_15, pf_12_15, gf_12_16, pf_12_16, gf_12_17, pf_12_17, gf_12_18, pf_12_18, gf_12_19, pf_12_19, gf_12_20, pf_12_20, o, a, tl_1, r1]
    rw [if_neg (by omega)]
  | succ d ih =>
    intro k h hk S e
    have hkn : k < n := by omega
    have h1 := hw.2.2.2.1 k hkn
    have hpb := pye_b hw hkn
    have hEk := hE k hkn
    have hck : ckp n ce so ha ye k k = ce k := by unfold ckp; rw [if_neg (by omega)]
    have S0 := S
    obtain ⟨x0, x2, x7, x11, x12, x13, x14, x15, T, F, o, a, b, r0, r1, r2, r3, r⟩ := S
    unfold MoA at o
    have S1 := S0.setYe hn (m := k) (by omega) (pye n ce so ha ye k) b
    have ci := m_isIn0 S1 hn hkn (by rw [hck]; omega)
    rw [hck] at ci
    have S2 := S1.setCe hn (m := k) (by omega) (if pye n ce so ha ye k = 0 then -9 else ce k) hS_same
    rw [hS_hS] at S2
    have S3 := S2.co (ce1 := ckp n ce so ha ye (k + 1)) (so1 := so) (ha1 := ha) (ye1 := ykp n ce so ha ye (k + 1)) (fun j hj => ⟨by
        show (if j = k then (if pye n ce so ha ye k = 0 then -9 else ce k) else _) = _
        unfold ckp
        by_cases q : j < k
        · rw [if_neg (by omega), if_pos q, if_pos (by omega)]
        · by_cases z : j = k
          · subst z; rw [if_pos rfl, if_pos (show j < j + 1 by omega)]; rfl
          · rw [if_neg z, if_neg q, if_neg (by omega)], rfl, rfl, by
        show (if j = k then pye n ce so ha ye k else _) = _
        unfold ykp
        by_cases q : j < k
        · rw [if_neg (by omega), if_pos q, if_pos (by omega)]
        · by_cases z : j = k
          · subst z; rw [if_pos rfl, if_pos (by omega)]
          · rw [if_neg z, if_neg q, if_neg (by omega)]⟩)
    have fs : ∀ cc : am_C, FE [124] h (hS h 124 cc) := fun cc => FE.st (by decide)
    obtain ⟨h', e1, S4, f1⟩ := ih (k + 1) _ (by omega) S3 ((fs _).at e (by decide))
    refine ⟨h', ?_, S4, (fs _).tr f1⟩
    have eck := (r k hkn).2.1
    rw [hck] at eck
    have e2 : pfr n ce so ha ye (k + 1) = pfr n ce so ha ye k + if ¬ ce k = -9 ∧ aft n ce so ha ye k = 0 then 1 else 0 := rfl
    have e0 : pye n ce so ha ye k = if ce k = -9 then ye k else aft n ce so ha ye k := rfl
    have p9 := pye_9 hw hkn
    rw [← e1, e2, e_Mod_passes_33]
    have en : ¬ (1 + k = 13 + k) := by omega
    by_cases y : ce k = -9
    · have hp := p9 y
      rw [if_neg (fun z => z.1 y)]
      simp (disch := omega) only [e_Mod_passes_0, e_Mod_passes_1, e_Mod_passes_2, e_Mod_passes_3, e_Mod_passes_4, e_Mod_passes_5, e_Mod_passes_6, e_Mod_passes_9, e_Mod_passes_10, e_Mod_passes_11, e_Mod_passes_14, e_Mod_passes_15, e_Mod_passes_18, e_Mod_passes_19, e_Mod_passes_20, e_Mod_passes_21, e_Mod_passes_24, e_Mod_passes_25, e_Mod_passes_28, e_Mod_passes_31, e_Mod_passes_32, e_Mod_passes_34, e_Mod_passes_35, e_Mod_passes_38, e_Mod_passes_39, e_Mod_passes_40, e_Mod_passes_43, e_Mod_passes_44, e_Mod_passes_47, e_Mod_passes_49, e_Mod_passes_50, e_Mod_passes_51, e_Mod_passes_52, e_Mod_passes_55, e_Mod_passes_56, e_Mod_passes_57, e_Mod_passes_58, e_Mod_passes_59, e_Mod_passes_60, e_Mod_passes_61, e_Mod_passes_64, e_Mod_passes_64b, e_Mod_passes_67, e_Mod_passes_68, e_Mod_passes_71, e_Mod_passes_72, e_Mod_passes_73, e_Mod_passes_73b, e_Mod_passes_76, e_Mod_passes_77, e_Mod_passes_80, e_Mod_passes_81, e_Mod_passes_82, e_Mod_passes_83, e_Mod_passes_84, e_Mod_passes_87, e_Mod_passes_88, e_Mod_passes_89, e_Mod_passes_90, e_Mod_passes_91, e_Mod_passes_94, e_Mod_passes_95, e_Mod_passes_96, e_Mod_passes_96b, e_Mod_passes_99, e_Mod_passes_101, e_Mod_passes_104, e_Mod_passes_105, e_Mod_passes_108, e_Mod_passes_109, e_Mod_passes_110, e_Mod_passes_111, e_Mod_passes_112, e_Mod_passes_113, e_Mod_passes_116, e_Mod_passes_120, e_Mod_passes_123, e_Mod_passes_124, e_Mod_passes_125, e_Mod_passes_126, e_Mod_passes_127, e_Mod_passes_128, e_Mod_passes_129, e_Mod_passes_130, alk_in, ask_in, blk_in, bsk_in, qlk_in, ack_in, rcv_in, rcA_in, bk_i, bk_l, bk_v, hS_same, hS_ne, hS_hS, hS_2, am_10, am_01, am_00, if_true, if_false, gf_12_0, pf_12_0, gf_12_1, pf_12_1, gf_12_2, pf_12_2, gf_12_3, pf_12_3, gf_12_4, pf_12_4, gf_12_5, pf_12_5, gf_12_6, pf_12_6, gf_12_7, pf_12_7, gf_12_8, pf_12_8, gf_12_9, pf_12_9, gf_12_10, pf_12_10, gf_12_11, pf_12_11, gf_12_12, pf_12_12, gf_12_13, pf_12_13, gf_12_14, pf_12_14, gf_12_15, pf_12_15, gf_12_16, pf_12_16, gf_12_17, pf_12_17, gf_12_18, pf_12_18, gf_12_19, pf_12_19, gf_12_20, pf_12_20, o, a, b, e, tl_1, r1, tn_1, tn_13, Int.toNat_natCast, hEk, ci, y, hp, eck]
      simp (disch := omega) only [hp, y] at ci
      simp (disch := omega) only [ci, e_Mod_passes_0, e_Mod_passes_1, e_Mod_passes_2, e_Mod_passes_3, e_Mod_passes_4, e_Mod_passes_5, e_Mod_passes_6, e_Mod_passes_9, e_Mod_passes_10, e_Mod_passes_11, e_Mod_passes_14, e_Mod_passes_15, e_Mod_passes_18, e_Mod_passes_19, e_Mod_passes_20, e_Mod_passes_21, e_Mod_passes_24, e_Mod_passes_25, e_Mod_passes_28, e_Mod_passes_31, e_Mod_passes_32, e_Mod_passes_34, e_Mod_passes_35, e_Mod_passes_38, e_Mod_passes_39, e_Mod_passes_40, e_Mod_passes_43, e_Mod_passes_44, e_Mod_passes_47, e_Mod_passes_49, e_Mod_passes_50, e_Mod_passes_51, e_Mod_passes_52, e_Mod_passes_55, e_Mod_passes_56, e_Mod_passes_57, e_Mod_passes_58, e_Mod_passes_59, e_Mod_passes_60, e_Mod_passes_61, e_Mod_passes_64, e_Mod_passes_64b, e_Mod_passes_67, e_Mod_passes_68, e_Mod_passes_71, e_Mod_passes_72, e_Mod_passes_73, e_Mod_passes_73b, e_Mod_passes_76, e_Mod_passes_77, e_Mod_passes_80, e_Mod_passes_81, e_Mod_passes_82, e_Mod_passes_83, e_Mod_passes_84, e_Mod_passes_87, e_Mod_passes_88, e_Mod_passes_89, e_Mod_passes_90, e_Mod_passes_91, e_Mod_passes_94, e_Mod_passes_95, e_Mod_passes_96, e_Mod_passes_96b, e_Mod_passes_99, e_Mod_passes_101, e_Mod_passes_104, e_Mod_passes_105, e_Mod_passes_108, e_Mod_passes_109, e_Mod_passes_110, e_Mod_passes_111, e_Mod_passes_112, e_Mod_passes_113, e_Mod_passes_116, e_Mod_passes_120, e_Mod_passes_123, e_Mod_passes_124, e_Mod_passes_125, e_Mod_passes_126, e_Mod_passes_127, e_Mod_passes_128, e_Mod_passes_129, e_Mod_passes_130, alk_in, ask_in, blk_in, bsk_in, qlk_in, ack_in, rcv_in, rcA_in, bk_i, bk_l, bk_v, hS_same, hS_ne, hS_hS, hS_2, am_10, am_01, am_00, if_true, if_false, gf_12_0, pf_12_0, gf_12_1, pf_12_1, gf_12_2, pf_12_2, gf_12_3, pf_12_3, gf_12_4, pf_12_4, gf_12_5, pf_12_5, gf_12_6, pf_12_6, gf_12_7, pf_12_7, gf_12_8, pf_12_8, gf_12_9, pf_12_9, gf_12_10, pf_12_10, gf_12_11, pf_12_11, gf_12_12, pf_12_12, gf_12_13, pf_12_13, gf_12_14, pf_12_14, gf_12_15, pf_12_15, gf_12_16, pf_12_16, gf_12_17, pf_12_17, gf_12_18, pf_12_18, gf_12_19, pf_12_19, gf_12_20, pf_12_20, o, a, b, e, tl_1, r1, tn_1, tn_13, Int.toNat_natCast, hEk, y, hp, eck]
      rw [if_pos (by omega)]; rfl
    · by_cases hp : pye n ce so ha ye k = 0
      · have hz : aft n ce so ha ye k = 0 := by rw [e0, if_neg y] at hp; exact hp
        rw [if_pos ⟨y, hz⟩]
        simp (disch := omega) only [hp, y] at ci
        simp (disch := omega) only [ci, e_Mod_passes_0, e_Mod_passes_1, e_Mod_passes_2, e_Mod_passes_3, e_Mod_passes_4, e_Mod_passes_5, e_Mod_passes_6, e_Mod_passes_9, e_Mod_passes_10, e_Mod_passes_11, e_Mod_passes_14, e_Mod_passes_15, e_Mod_passes_18, e_Mod_passes_19, e_Mod_passes_20, e_Mod_passes_21, e_Mod_passes_24, e_Mod_passes_25, e_Mod_passes_28, e_Mod_passes_31, e_Mod_passes_32, e_Mod_passes_34, e_Mod_passes_35, e_Mod_passes_38, e_Mod_passes_39, e_Mod_passes_40, e_Mod_passes_43, e_Mod_passes_44, e_Mod_passes_47, e_Mod_passes_49, e_Mod_passes_50, e_Mod_passes_51, e_Mod_passes_52, e_Mod_passes_55, e_Mod_passes_56, e_Mod_passes_57, e_Mod_passes_58, e_Mod_passes_59, e_Mod_passes_60, e_Mod_passes_61, e_Mod_passes_64, e_Mod_passes_64b, e_Mod_passes_67, e_Mod_passes_68, e_Mod_passes_71, e_Mod_passes_72, e_Mod_passes_73, e_Mod_passes_73b, e_Mod_passes_76, e_Mod_passes_77, e_Mod_passes_80, e_Mod_passes_81, e_Mod_passes_82, e_Mod_passes_83, e_Mod_passes_84, e_Mod_passes_87, e_Mod_passes_88, e_Mod_passes_89, e_Mod_passes_90, e_Mod_passes_91, e_Mod_passes_94, e_Mod_passes_95, e_Mod_passes_96, e_Mod_passes_96b, e_Mod_passes_99, e_Mod_passes_101, e_Mod_passes_104, e_Mod_passes_105, e_Mod_passes_108, e_Mod_passes_109, e_Mod_passes_110, e_Mod_passes_111, e_Mod_passes_112, e_Mod_passes_113, e_Mod_passes_116, e_Mod_passes_120, e_Mod_passes_123, e_Mod_passes_124, e_Mod_passes_125, e_Mod_passes_126, e_Mod_passes_127, e_Mod_passes_128, e_Mod_passes_129, e_Mod_passes_130, alk_in, ask_in, blk_in, bsk_in, qlk_in, ack_in, rcv_in, rcA_in, bk_i, bk_l, bk_v, hS_same, hS_ne, hS_hS, hS_2, am_10, am_01, am_00, if_true, if_false, gf_12_0, pf_12_0, gf_12_1, pf_12_1, gf_12_2, pf_12_2, gf_12_3, pf_12_3, gf_12_4, pf_12_4, gf_12_5, pf_12_5, gf_12_6, pf_12_6, gf_12_7, pf_12_7, gf_12_8, pf_12_8, gf_12_9, pf_12_9, gf_12_10, pf_12_10, gf_12_11, pf_12_11, gf_12_12, pf_12_12, gf_12_13, pf_12_13, gf_12_14, pf_12_14, gf_12_15, pf_12_15, gf_12_16, pf_12_16, gf_12_17, pf_12_17, gf_12_18, pf_12_18, gf_12_19, pf_12_19, gf_12_20, pf_12_20, o, a, b, e, tl_1, r1, tn_1, tn_13, Int.toNat_natCast, hEk, y, hp, eck]
        rw [if_pos (by omega)]; rfl
      · have hz : ¬ aft n ce so ha ye k = 0 := by rw [e0, if_neg y] at hp; exact hp
        rw [if_neg (fun z => hz z.2)]
        simp (disch := omega) only [y] at ci
        simp (disch := omega) only [ci, e_Mod_passes_0, e_Mod_passes_1, e_Mod_passes_2, e_Mod_passes_3, e_Mod_passes_4, e_Mod_passes_5, e_Mod_passes_6, e_Mod_passes_9, e_Mod_passes_10, e_Mod_passes_11, e_Mod_passes_14, e_Mod_passes_15, e_Mod_passes_18, e_Mod_passes_19, e_Mod_passes_20, e_Mod_passes_21, e_Mod_passes_24, e_Mod_passes_25, e_Mod_passes_28, e_Mod_passes_31, e_Mod_passes_32, e_Mod_passes_34, e_Mod_passes_35, e_Mod_passes_38, e_Mod_passes_39, e_Mod_passes_40, e_Mod_passes_43, e_Mod_passes_44, e_Mod_passes_47, e_Mod_passes_49, e_Mod_passes_50, e_Mod_passes_51, e_Mod_passes_52, e_Mod_passes_55, e_Mod_passes_56, e_Mod_passes_57, e_Mod_passes_58, e_Mod_passes_59, e_Mod_passes_60, e_Mod_passes_61, e_Mod_passes_64, e_Mod_passes_64b, e_Mod_passes_67, e_Mod_passes_68, e_Mod_passes_71, e_Mod_passes_72, e_Mod_passes_73, e_Mod_passes_73b, e_Mod_passes_76, e_Mod_passes_77, e_Mod_passes_80, e_Mod_passes_81, e_Mod_passes_82, e_Mod_passes_83, e_Mod_passes_84, e_Mod_passes_87, e_Mod_passes_88, e_Mod_passes_89, e_Mod_passes_90, e_Mod_passes_91, e_Mod_passes_94, e_Mod_passes_95, e_Mod_passes_96, e_Mod_passes_96b, e_Mod_passes_99, e_Mod_passes_101, e_Mod_passes_104, e_Mod_passes_105, e_Mod_passes_108, e_Mod_passes_109, e_Mod_passes_110, e_Mod_passes_111, e_Mod_passes_112, e_Mod_passes_113, e_Mod_passes_116, e_Mod_passes_120, e_Mod_passes_123, e_Mod_passes_124, e_Mod_passes_125, e_Mod_passes_126, e_Mod_passes_127, e_Mod_passes_128, e_Mod_passes_129, e_Mod_passes_130, alk_in, ask_in, blk_in, bsk_in, qlk_in, ack_in, rcv_in, rcA_in, bk_i, bk_l, bk_v, hS_same, hS_ne, hS_hS, hS_2, am_10, am_01, am_00, if_true, if_false, gf_12_0, pf_12_0, gf_12_1, pf_12_1, gf_12_2, pf_12_2, gf_12_3, pf_12_3, gf_12_4, pf_12_4, gf_12_5, pf_12_5, gf_12_6, pf_12_6, gf_12_7, pf_12_7, gf_12_8, pf_12_8, gf_12_9, pf_12_9, gf_12_10, pf_12_10, gf_12_11, pf_12_11, gf_12_12, pf_12_12, gf_12_13, pf_12_13, gf_12_14, pf_12_14, gf_12_15, pf_12_15, gf_12_16, pf_12_16, gf_12_17, pf_12_17, gf_12_18, pf_12_18, gf_12_19, pf_12_19, gf_12_20, pf_12_20, o, a, b, e, tl_1, r1, tn_1, tn_13, Int.toNat_natCast, hEk, y, hp, eck, en]
        rw [if_pos (by omega)]; rfl
theorem m_passes {h : am_H} {t : Int} {ce ye : Nat → Int} (S : RepM h n c lo t ce so ha ye) (hw : Wf n c ce so ha ye) (hs : Sh h 129 6) : ∃ h', ev mMod_passes [vR 120] h = some (some (vI (pfr n ce so ha ye n)), h') ∧ RepM h' n c lo (t + 1) (pce n ce so ha ye) so ha (pye n ce so ha ye) ∧ Sh h' 129 6 ∧ FE [124, 129] h h' := by
  obtain ⟨E, e⟩ := hs
  obtain ⟨h1, E1, e1, S1, g1, g2, f1⟩ := lm_pass1 hw (x1 := vI 0) n 0 h E (by omega) S e (fun j hj => by omega)
  obtain ⟨h2, e2, S2, f2⟩ := lm_pass2 hw g2 n 0 h1 (by omega) (S1.co (fun j hj => ⟨by unfold ckp; rw [if_neg (by omega)], rfl, rfl, by unfold ykp; rw [if_neg (by omega)]⟩)) g1
  have S20 := S2
  obtain ⟨x0, x2, x7, x11, x12, x13, x14, x15, T, F, o, a, b, r0, r1, r2, r3, r⟩ := S2
  unfold MoA at o
  have S3 := S20.setT (t + 1) b
  have f3 : FE [124, 129] h2 (hS h2 124 (cI 0 19 (fun j => if j = 0 then t + 1 else F j))) := FE.st (by decide)
  have f4 : FE [124] h2 (hS h2 124 (cI 0 19 (fun j => if j = 0 then t + 1 else F j))) := FE.st (by decide)
  refine ⟨_, ?_, S3, ⟨E1, (f2.tr f4).at g1 (by decide)⟩, (f1.tr (f2.wd (by decide))).tr f3⟩
  rw [ev_Mod_passes, e_Mod_passes_0, e_Mod_passes_1, e_Mod_passes_2, e_Mod_passes_3]
  show gv mMod_passes 4 [vR 120, vI 0, vI ((0 : Nat) : Int)] [] h = _
  rw [e1, e_Mod_passes_31, e_Mod_passes_32]
  show gv mMod_passes 33 [vR 120, vI (pfr n ce so ha ye 0), vI ((0 : Nat) : Int)] [] h1 = _
  rw [e2]
  simp (disch := omega) only [e_Mod_passes_119, e_Mod_passes_120, e_Mod_passes_123, e_Mod_passes_124, e_Mod_passes_125, e_Mod_passes_126, e_Mod_passes_127, e_Mod_passes_128, e_Mod_passes_129, e_Mod_passes_130, alk_in, ask_in, blk_in, bsk_in, qlk_in, ack_in, rcv_in, rcA_in, bk_i, bk_l, bk_v, hS_same, hS_ne, hS_hS, hS_2, am_10, am_01, am_00, if_true, if_false, gf_12_0, pf_12_0, gf_12_1, pf_12_1, gf_12_2, pf_12_2, gf_12_3, pf_12_3, gf_12_4, pf_12_4, gf_12_5, pf_12_5, gf_12_6, pf_12_6, gf_12_7, pf_12_7, gf_12_8, pf_12_8, gf_12_9, pf_12_9, gf_12_10, pf_12_10, gf_12_11, pf_12_11, gf_12_12, pf_12_12, gf_12_13, pf_12_13, gf_12_14, pf_12_14, gf_12_15, pf_12_15, gf_12_16, pf_12_16, gf_12_17, pf_12_17, gf_12_18, pf_12_18, gf_12_19, pf_12_19, gf_12_20, pf_12_20, o, b, tl_0, r3]
end Mod2
