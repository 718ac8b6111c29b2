/-! putsOn, carry: the class -/
def candS (G : Gl) (T : Tm) (m : Nat) (j : Nat) : Int := outF G.1 (fun i => if i = m then (j : Int) else T.2.2.1 i) G.2.2.2 m 61 0 T.2.1 T.2.2.2
def candC (G : Gl) (T : Tm) (m : Nat) (j : Nat) : Int := if who G.1 T.2.1 (j : Int) = -9 ∨ who G.1 T.2.1 (j : Int) = (m : Int) then outF G.1 T.2.2.1 G.2.2.2 m 61 0 (fun i => if i = m then (j : Int) else T.2.1 i) T.2.2.2 else -9
theorem outF_r (n : Nat) (so ha : Nat → Int) (m : Nat) : ∀ (d : Nat) (g : Int) (ce ye : Nat → Int), outF n so ha m d g ce ye = -9 ∨ g ≤ outF n so ha m d g ce ye ∧ outF n so ha m d g ce ye < g + d := by
  intro d
  induction d with
  | zero => intro g ce ye; exact Or.inl rfl
  | succ d ih =>
    intro g ce ye
    unfold outF
    by_cases q : ce m = -9
    · rw [if_pos q]; omega
    · rw [if_neg q]
      have := ih (g + 1) (pce n ce so ha ye) (pye n ce so ha ye)
      omega
def CR (c : Nat → Int) : Prop := ∀ j, c j = -9 ∨ 0 ≤ c j ∧ c j ≤ 60
theorem candS_r (G : Gl) (T : Tm) (m : Nat) : CR (candS G T m) := by
  intro j
  have := outF_r G.1 (fun i => if i = m then (j : Int) else T.2.2.1 i) G.2.2.2 m 61 0 T.2.1 T.2.2.2
  unfold candS
  omega
theorem candC_r (G : Gl) (T : Tm) (m : Nat) : CR (candC G T m) := by
  intro j
  have := outF_r G.1 T.2.2.1 G.2.2.2 m 61 0 (fun i => if i = m then (j : Int) else T.2.1 i) T.2.2.2
  unfold candC
  by_cases q : who G.1 T.2.1 (j : Int) = -9 ∨ who G.1 T.2.1 (j : Int) = (m : Int)
  · rw [if_pos q]; omega
  · rw [if_neg q]; exact Or.inl rfl
def sn (c : Nat → Int) (k : Nat) : Int × Int := match k with
  | 0 => (-9, 61)
  | k + 1 => if ¬ c k = -9 ∧ c k < (sn c k).2 then ((k : Int), c k) else sn c k
theorem sn_b {c : Nat → Int} (hc : CR c) (k : Nat) : (sn c k).1 = -9 ∧ (sn c k).2 = 61 ∨ (0 ≤ (sn c k).1 ∧ (sn c k).1 < k) ∧ 0 ≤ (sn c k).2 ∧ (sn c k).2 ≤ 60 := by
  induction k with
  | zero => exact Or.inl ⟨rfl, rfl⟩
  | succ k ih =>
    have := hc k
    have e : sn c (k + 1) = if ¬ c k = -9 ∧ c k < (sn c k).2 then ((k : Int), c k) else sn c k := rfl
    rw [e]
    by_cases q : ¬ c k = -9 ∧ c k < (sn c k).2
    · rw [if_pos q]; simp only; omega
    · rw [if_neg q]; omega
/-- the second, as the class holds it -/
def sn2 (c : Nat → Int) (k : Nat) : Int := if (sn c k).1 = -9 then -9 else (sn c k).2
def aSn (w : Int) (c : Nat → Int) (k : Nat) : Int := if w = 0 then (sn c k).1 else sn2 c k
def aPut (G : Gl) (T : Tm) (m w : Int) : Int := if (0 ≤ m ∧ m < G.1) ∧ (w = 0 ∨ w = 1) then (if T.2.1 m.toNat = -9 then -2 else aSn w (candS G T m.toNat) 5) else -1
def aCar (G : Gl) (T : Tm) (m w : Int) : Int := if (0 ≤ m ∧ m < G.1) ∧ (w = 0 ∨ w = 1) then (if T.2.1 m.toNat = -9 then -2 else aSn w (candC G T m.toNat) G.2.1) else -1
theorem Wf.fei {n c : Nat} {ce so ha ye : Nat → Int} (hw : Wf n c ce so ha ye) (m : Nat) {x : Int} (hx : 0 ≤ x ∧ x ≤ 4) : Wf n c ce (fun i => if i = m then x else so i) ha ye := by
  obtain ⟨a, b, d, e, f⟩ := hw
  refine ⟨a, b, d, fun j hj => ?_, f⟩
  have z := e j hj
  by_cases q : j = m
  · simp only [q, if_true]; rw [q] at z; omega
  · simp only [q, if_false]; exact z
theorem Wf.mov {n c : Nat} {ce so ha ye : Nat → Int} (hw : Wf n c ce so ha ye) (m : Nat) {x : Int} (hx : 0 ≤ x ∧ x < c) (h0 : ∀ j, j < n → ce j = x → j = m) : Wf n c (fun i => if i = m then x else ce i) so ha ye := by
  obtain ⟨a, b, d, e, f⟩ := hw
  refine ⟨a, b, d, fun j hj => ?_, fun i j hi hj q r => ?_⟩
  · have z := e j hj
    by_cases q : j = m
    · simp only [q, if_true]; rw [q] at z; omega
    · simp only [q, if_false]; exact z
  · simp only at q r
    by_cases u : i = m
    · by_cases v : j = m
      · omega
      · rw [if_pos u, if_neg v] at q
        exact absurd (h0 j hj q.symm) v
    · by_cases v : j = m
      · rw [if_neg u, if_pos v] at q
        exact absurd (h0 i hi q) u
      · rw [if_neg u, if_neg v] at q
        rw [if_neg u] at r
        exact f i j hi hj q r
theorem who_free {n : Nat} {ce : Nat → Int} {m : Nat} {x : Int} (hx : 0 ≤ x) (hf : ∀ i j, i < n → j < n → ce i = ce j → ¬ ce i = -9 → i = j) (hq : who n ce x = -9 ∨ who n ce x = (m : Int)) : ∀ j, j < n → ce j = x → j = m := by
  intro j hj e
  rcases who_range n ce x with ⟨-, w⟩ | ⟨i, hi, w, w2⟩
  · exact absurd e (w j hj)
  · have : i = j := hf i j hi hj (by omega) (by omega)
    omega
section Soon
variable {h : am_H} {G : Gl} {T : Tm} {lo pc : Int}
theorem c_isWhich {w : Int} (hw : rg32 w) : ev mCell_isWhichOrMonths [vI w] h = some (some (vI (if w = 0 ∨ w = 1 then 1 else 0)), h) := by
  unfold rg32 at hw
  rw [ev_Cell_isWhichOrMonths]
  simp (disch := omega) only [e_Cell_isWhichOrMonths_0, e_Cell_isWhichOrMonths_1, e_Cell_isWhichOrMonths_1b, e_Cell_isWhichOrMonths_4, e_Cell_isWhichOrMonths_5, e_Cell_isWhichOrMonths_6, e_Cell_isWhichOrMonths_9, e_Cell_isWhichOrMonths_10, e_Cell_isWhichOrMonths_13, e_Cell_isWhichOrMonths_14]
  by_cases a : w = 0
  · rw [if_pos (Or.inl a)]; simp [a]
  · by_cases b : w = 1
    · rw [if_pos (Or.inr b)]; simp [b]
    · rw [if_neg (by omega)]; simp [a, b]
theorem c_isSooner {x y : Int} (hx : rg32 x) (hy : rg32 y) : ev mCell_isSooner [vI x, vI y] h = some (some (vI (if ¬ x = -9 ∧ (y = -9 ∨ x < y) then 1 else 0)), h) := by
  unfold rg32 at hx hy
  rw [ev_Cell_isSooner]
  simp (disch := omega) only [e_Cell_isSooner_0, e_Cell_isSooner_1, e_Cell_isSooner_3, e_Cell_isSooner_6, e_Cell_isSooner_7, e_Cell_isSooner_9, e_Cell_isSooner_12, e_Cell_isSooner_13, e_Cell_isSooner_14, e_Cell_isSooner_17, e_Cell_isSooner_18, e_Cell_isSooner_21, e_Cell_isSooner_22]
  by_cases a : x = -9
  · simp [a]
  · by_cases b : y = -9
    · simp [a, b]
    · by_cases d : x < y
      · simp [a, b, d]
      · simp [a, b, d]
theorem k_ifFeigned (O : CeO h lo pc) (S : RT h 10 G T) (hw : WT G T) (Q : ScSh h 16) {m s : Nat} (hm : m < G.1) (hs : s ≤ 4) : ∃ h', ev mCell_monthsIfFeigned [vR 1, vI (m : Int), vI (s : Int)] h = some (some (vI (candS G T m s)), h') ∧ ScSh h' 16 ∧ Fr 16 22 h h' := by
  unfold CeO at O
  have hn := hw.1
  have ob := S.ob
  obtain ⟨fs, q0⟩ := Q.ob
  obtain ⟨h1, e1, S1, f1⟩ := d_copyFrom (b := 16) (show RepS h 10 G.1 G.2.1 T.1 T.2.1 T.2.2.1 G.2.2.2 T.2.2.2 from S) hw.1 hw.2.2.1 Q (by omega)
  have S1' := S1
  obtain ⟨ce1, so1, ha1, ye1, ic1, ⟨u0, -, u2, -⟩, -⟩ := S1'
  have S2 := RepS.setSo S1 (m := m) (s : Int) u2
  have f2 : Fr 16 22 h1 (hS h1 (16 + 2) (cI 0 6 (fun j => if j = m then (s : Int) else so1 j))) := Fr.st (by omega)
  obtain ⟨h3, e3, S3, f3⟩ := d_months hm S2 (Wf.fei hw m (by omega))
  have o1 := (f1.at (a := 1) (by omega)).trans O
  have o2 := (f2.at (a := 1) (by omega)).trans o1
  refine ⟨h3, ?_, S3, (f1.tr f2).tr f3⟩
  rw [ev_Cell_monthsIfFeigned]
  unfold candS
  simp (disch := omega) only [e_Cell_monthsIfFeigned_0, e_Cell_monthsIfFeigned_1, e_Cell_monthsIfFeigned_4, e_Cell_monthsIfFeigned_5, e_Cell_monthsIfFeigned_8, e_Cell_monthsIfFeigned_11, e_Cell_monthsIfFeigned_12, e_Cell_monthsIfFeigned_15, e_Cell_monthsIfFeigned_18, e_Cell_monthsIfFeigned_19, e_Cell_monthsIfFeigned_20, e_Cell_monthsIfFeigned_21, e_Cell_monthsIfFeigned_22, e_Cell_monthsIfFeigned_25, e_Cell_monthsIfFeigned_26, e_Cell_monthsIfFeigned_29, alk_in, ask_in, blk_in, bsk_in, qlk_in, ack_in, rcv_in, rcA_in, bk_i, bk_l, bk_v, hS_same, hS_ne, hS_hS, hS_2, am_10, am_01, am_00, if_true, if_false, gf_5_0, pf_5_0, gf_5_1, pf_5_1, gf_5_2, pf_5_2, gf_5_3, pf_5_3, gf_5_4, pf_5_4, gf_5_5, pf_5_5, gf_5_6, pf_5_6, gf_5_7, pf_5_7, gf_11_0, pf_11_0, gf_11_1, pf_11_1, gf_11_2, pf_11_2, gf_11_3, pf_11_3, gf_11_4, pf_11_4, gf_11_5, pf_11_5, gf_11_6, pf_11_6, gf_11_7, pf_11_7, gf_11_8, pf_11_8, gf_11_9, pf_11_9, gf_11_10, pf_11_10, gf_11_11, pf_11_11, O, ob, q0, e1, o1, u0, u2, Int.toNat_natCast]
  simp only [show 16 + 2 = 18 from rfl] at e3
  rw [e3, bk_i, e_Cell_monthsIfFeigned_29]
theorem k_ifMoved (O : CeO h lo pc) (S : RT h 10 G T) (hw : WT G T) (Q : ScSh h 16) {m s : Nat} (hm : m < G.1) (hi : ¬ T.2.1 m = -9) (hs : s < G.2.1) : ∃ h', ev mCell_monthsIfMoved [vR 1, vI (m : Int), vI (s : Int)] h = some (some (vI (candC G T m s)), h') ∧ ScSh h' 16 ∧ Fr 16 22 h h' := by
  unfold CeO at O
  have hn := hw.1
  have hc := hw.2.2.1
  have ob := S.ob
  have S' : RepS h 10 G.1 G.2.1 T.1 T.2.1 T.2.2.1 G.2.2.2 T.2.2.2 := S
  obtain ⟨fs, q0⟩ := Q.ob
  have c4 := d_whoIn S' hw (x := (s : Int)) (by omega) (by omega)
  have wb := who_b G.1 T.2.1 (s : Int)
  unfold candC
  by_cases q : who G.1 T.2.1 (s : Int) = -9 ∨ who G.1 T.2.1 (s : Int) = (m : Int)
  · rw [if_pos q]
    obtain ⟨h1, e1, S1, f1⟩ := d_copyFrom (b := 16) S' hw.1 hw.2.2.1 Q (by omega)
    have hno := who_free (by omega) hw.2.2.2.2 q
    obtain ⟨h2, e2, S2, f2⟩ := d_moveTo S1 hw hm hi hs hno
    obtain ⟨h3, e3, S3, f3⟩ := d_months hm S2 (Wf.mov hw m (by omega) hno)
    have o1 := (f1.at (a := 1) (by omega)).trans O
    have o2 := (f2.at (a := 1) (by omega)).trans o1
    have ob1 := RT.ob (show RT h1 16 G T from S1)
    obtain ⟨fs2, ob2⟩ := (RepS.sh S2).ob
    refine ⟨h3, ?_, S3, (f1.tr f2).tr f3⟩
    rw [ev_Cell_monthsIfMoved]
    simp (disch := omega) only [e_Cell_monthsIfMoved_0, e_Cell_monthsIfMoved_1, e_Cell_monthsIfMoved_4, e_Cell_monthsIfMoved_5, e_Cell_monthsIfMoved_8, e_Cell_monthsIfMoved_9, e_Cell_monthsIfMoved_10, e_Cell_monthsIfMoved_12, e_Cell_monthsIfMoved_15, e_Cell_monthsIfMoved_16, e_Cell_monthsIfMoved_17, e_Cell_monthsIfMoved_20, e_Cell_monthsIfMoved_22, e_Cell_monthsIfMoved_23, e_Cell_monthsIfMoved_24, e_Cell_monthsIfMoved_27, e_Cell_monthsIfMoved_28, e_Cell_monthsIfMoved_31, e_Cell_monthsIfMoved_34, e_Cell_monthsIfMoved_35, e_Cell_monthsIfMoved_38, e_Cell_monthsIfMoved_39, e_Cell_monthsIfMoved_40, e_Cell_monthsIfMoved_43, e_Cell_monthsIfMoved_44, e_Cell_monthsIfMoved_47, e_Cell_monthsIfMoved_48, e_Cell_monthsIfMoved_51, alk_in, ask_in, blk_in, bsk_in, qlk_in, ack_in, rcv_in, rcA_in, bk_i, bk_l, bk_v, hS_same, hS_ne, hS_hS, hS_2, am_10, am_01, am_00, if_true, if_false, gf_5_0, pf_5_0, gf_5_1, pf_5_1, gf_5_2, pf_5_2, gf_5_3, pf_5_3, gf_5_4, pf_5_4, gf_5_5, pf_5_5, gf_5_6, pf_5_6, gf_5_7, pf_5_7, gf_11_0, pf_11_0, gf_11_1, pf_11_1, gf_11_2, pf_11_2, gf_11_3, pf_11_3, gf_11_4, pf_11_4, gf_11_5, pf_11_5, gf_11_6, pf_11_6, gf_11_7, pf_11_7, gf_11_8, pf_11_8, gf_11_9, pf_11_9, gf_11_10, pf_11_10, gf_11_11, pf_11_11, O, ob, q0, c4, e1, o1, ob1, e2, o2, ob2, e3]
    by_cases r : who G.1 T.2.1 (s : Int) = -9
    · rw [if_pos r]
    · rw [if_neg r, if_pos (by omega)]
  · rw [if_neg q]
    refine ⟨h, ?_, Q, Fr.rf⟩
    rw [ev_Cell_monthsIfMoved]
    simp (disch := omega) only [e_Cell_monthsIfMoved_0, e_Cell_monthsIfMoved_1, e_Cell_monthsIfMoved_4, e_Cell_monthsIfMoved_5, e_Cell_monthsIfMoved_8, e_Cell_monthsIfMoved_9, e_Cell_monthsIfMoved_10, e_Cell_monthsIfMoved_12, e_Cell_monthsIfMoved_15, e_Cell_monthsIfMoved_16, e_Cell_monthsIfMoved_17, e_Cell_monthsIfMoved_20, e_Cell_monthsIfMoved_22, alk_in, ask_in, blk_in, bsk_in, qlk_in, ack_in, rcv_in, rcA_in, bk_i, bk_l, bk_v, hS_same, hS_ne, hS_hS, hS_2, am_10, am_01, am_00, if_true, if_false, gf_5_0, pf_5_0, gf_5_1, pf_5_1, gf_5_2, pf_5_2, gf_5_3, pf_5_3, gf_5_4, pf_5_4, gf_5_5, pf_5_5, gf_5_6, pf_5_6, gf_5_7, pf_5_7, gf_11_0, pf_11_0, gf_11_1, pf_11_1, gf_11_2, pf_11_2, gf_11_3, pf_11_3, gf_11_4, pf_11_4, gf_11_5, pf_11_5, gf_11_6, pf_11_6, gf_11_7, pf_11_7, gf_11_8, pf_11_8, gf_11_9, pf_11_9, gf_11_10, pf_11_10, gf_11_11, pf_11_11, O, ob, c4]
    rw [if_neg (by omega), if_neg (by omega)]
theorem sn_step {c : Nat → Int} (hc : CR c) (k : Nat) : (¬ c k = -9 ∧ (sn2 c k = -9 ∨ c k < sn2 c k)) ↔ (¬ c k = -9 ∧ c k < (sn c k).2) := by
  have b := sn_b hc k
  have := hc k
  unfold sn2
  by_cases q : (sn c k).1 = -9
  · rw [if_pos q]; omega
  · rw [if_neg q]; omega
theorem sn2_b {c : Nat → Int} (hc : CR c) (k : Nat) : -9 ≤ sn2 c k ∧ sn2 c k ≤ 60 := by
  have b := sn_b hc k
  unfold sn2
  by_cases q : (sn c k).1 = -9
  · rw [if_pos q]; omega
  · rw [if_neg q]; omega
theorem lk_putsOn {m : Nat} {w : Int} (hr : w = 0 ∨ w = 1) (hm : m < G.1) (hw : WT G T) : ∀ (d k : Nat) (h : am_H) (x6 : am_V), k + d = 5 → CeO h lo pc → RT h 10 G T → ScSh h 16 → ∃ h', gv mCell_putsOn 44 [vR 1, vI (m : Int), vI w, vI (sn (candS G T m) k).1, vI (sn2 (candS G T m) k), vI (k : Int), x6] [] h = some (some (vI (aSn w (candS G T m) 5)), h') ∧ ScSh h' 16 ∧ Fr 16 22 h h' := by
  intro d
  induction d with
  | zero =>
    intro k h x6 hk O S Q
    have : k = 5 := by omega
    subst this
    refine ⟨h, ?_, Q, Fr.rf⟩
    rw [e_Cell_putsOn_44]
    unfold aSn
    simp (disch := omega) only [e_Cell_putsOn_0, e_Cell_putsOn_1, e_Cell_putsOn_4, e_Cell_putsOn_5, e_Cell_putsOn_8, e_Cell_putsOn_8b, e_Cell_putsOn_11, e_Cell_putsOn_12, e_Cell_putsOn_15, e_Cell_putsOn_15b, e_Cell_putsOn_18, e_Cell_putsOn_19, e_Cell_putsOn_20, e_Cell_putsOn_21, e_Cell_putsOn_24, e_Cell_putsOn_25, e_Cell_putsOn_28, e_Cell_putsOn_28b, e_Cell_putsOn_31, e_Cell_putsOn_33, e_Cell_putsOn_34, e_Cell_putsOn_36, e_Cell_putsOn_37, e_Cell_putsOn_39, e_Cell_putsOn_41, e_Cell_putsOn_42, e_Cell_putsOn_46, e_Cell_putsOn_47, e_Cell_putsOn_50, e_Cell_putsOn_51, e_Cell_putsOn_52, e_Cell_putsOn_54, e_Cell_putsOn_57, e_Cell_putsOn_59, e_Cell_putsOn_61, e_Cell_putsOn_63, e_Cell_putsOn_66, e_Cell_putsOn_66b, e_Cell_putsOn_69, e_Cell_putsOn_71, e_Cell_putsOn_72, e_Cell_putsOn_74, e_Cell_putsOn_76, e_Cell_putsOn_79, e_Cell_putsOn_82, e_Cell_putsOn_83, e_Cell_putsOn_83b, e_Cell_putsOn_86, e_Cell_putsOn_87, e_Cell_putsOn_90, e_Cell_putsOn_92, alk_in, ask_in, blk_in, bsk_in, qlk_in, ack_in, rcv_in, rcA_in, bk_i, bk_l, bk_v, hS_same, hS_ne, hS_hS, hS_2, am_10, am_01, am_00, if_true, if_false]
    rw [if_neg (by omega)]
    rcases hr with z | z <;> subst z <;> simp
  | succ d ih =>
    intro k h x6 hk O S Q
    obtain ⟨h1, e1, Q1, f1⟩ := k_ifFeigned O S hw Q hm (s := k) (by omega)
    have cr := candS_r G T m
    obtain ⟨h2, e2, Q2, f2⟩ := ih (k + 1) h1 (vI (candS G T m k)) (by omega) ((f1.at (by omega)).trans O) (S.on (fun x hx => f1.at (by omega))) Q1
    refine ⟨h2, ?_, Q2, f1.tr f2⟩
    have hn := hw.1
    have b1 := sn_b cr k
    have b2 := sn2_b cr k
    have b3 := cr k
    have b4 := sn_step cr k
    have c2 := c_isSooner (h := h1) (x := candS G T m k) (y := sn2 (candS G T m) k) (by unfold rg32; omega) (by unfold rg32; omega)
    have es : sn (candS G T m) (k + 1) = if ¬ candS G T m k = -9 ∧ candS G T m k < (sn (candS G T m) k).2 then ((k : Int), candS G T m k) else sn (candS G T m) k := rfl
    have es2 : sn2 (candS G T m) (k + 1) = if ¬ candS G T m k = -9 ∧ candS G T m k < (sn (candS G T m) k).2 then candS G T m k else sn2 (candS G T m) k := by
      unfold sn2
      rw [es]
      by_cases q : ¬ candS G T m k = -9 ∧ candS G T m k < (sn (candS G T m) k).2
      · rw [if_pos q, if_pos q]; simp only; rw [if_neg (by omega)]
      · rw [if_neg q, if_neg q]
    unfold CeO at O
    rw [e_Cell_putsOn_44, ← e2, es, es2]
    by_cases q : ¬ candS G T m k = -9 ∧ candS G T m k < (sn (candS G T m) k).2
    · rw [if_pos (b4.mpr q)] at c2
      rw [if_pos q, if_pos q]
      simp (disch := omega) only [e_Cell_putsOn_0, e_Cell_putsOn_1, e_Cell_putsOn_4, e_Cell_putsOn_5, e_Cell_putsOn_8, e_Cell_putsOn_8b, e_Cell_putsOn_11, e_Cell_putsOn_12, e_Cell_putsOn_15, e_Cell_putsOn_15b, e_Cell_putsOn_18, e_Cell_putsOn_19, e_Cell_putsOn_20, e_Cell_putsOn_21, e_Cell_putsOn_24, e_Cell_putsOn_25, e_Cell_putsOn_28, e_Cell_putsOn_28b, e_Cell_putsOn_31, e_Cell_putsOn_33, e_Cell_putsOn_34, e_Cell_putsOn_36, e_Cell_putsOn_37, e_Cell_putsOn_39, e_Cell_putsOn_41, e_Cell_putsOn_42, e_Cell_putsOn_46, e_Cell_putsOn_47, e_Cell_putsOn_50, e_Cell_putsOn_51, e_Cell_putsOn_52, e_Cell_putsOn_54, e_Cell_putsOn_57, e_Cell_putsOn_59, e_Cell_putsOn_61, e_Cell_putsOn_63, e_Cell_putsOn_66, e_Cell_putsOn_66b, e_Cell_putsOn_69, e_Cell_putsOn_71, e_Cell_putsOn_72, e_Cell_putsOn_74, e_Cell_putsOn_76, e_Cell_putsOn_79, e_Cell_putsOn_82, e_Cell_putsOn_83, e_Cell_putsOn_83b, e_Cell_putsOn_86, e_Cell_putsOn_87, e_Cell_putsOn_90, e_Cell_putsOn_92, alk_in, ask_in, blk_in, bsk_in, qlk_in, ack_in, rcv_in, rcA_in, bk_i, bk_l, bk_v, hS_same, hS_ne, hS_hS, hS_2, am_10, am_01, am_00, if_true, if_false, gf_5_0, pf_5_0, gf_5_1, pf_5_1, gf_5_2, pf_5_2, gf_5_3, pf_5_3, gf_5_4, pf_5_4, gf_5_5, pf_5_5, gf_5_6, pf_5_6, gf_5_7, pf_5_7, gf_11_0, pf_11_0, gf_11_1, pf_11_1, gf_11_2, pf_11_2, gf_11_3, pf_11_3, gf_11_4, pf_11_4, gf_11_5, pf_11_5, gf_11_6, pf_11_6, gf_11_7, pf_11_7, gf_11_8, pf_11_8, gf_11_9, pf_11_9, gf_11_10, pf_11_10, gf_11_11, pf_11_11, O, e1, c2]
      rw [if_pos (by omega)]; rfl
    · rw [if_neg (fun z => q (b4.mp z))] at c2
      rw [if_neg q, if_neg q]
      simp (disch := omega) only [e_Cell_putsOn_0, e_Cell_putsOn_1, e_Cell_putsOn_4, e_Cell_putsOn_5, e_Cell_putsOn_8, e_Cell_putsOn_8b, e_Cell_putsOn_11, e_Cell_putsOn_12, e_Cell_putsOn_15, e_Cell_putsOn_15b, e_Cell_putsOn_18, e_Cell_putsOn_19, e_Cell_putsOn_20, e_Cell_putsOn_21, e_Cell_putsOn_24, e_Cell_putsOn_25, e_Cell_putsOn_28, e_Cell_putsOn_28b, e_Cell_putsOn_31, e_Cell_putsOn_33, e_Cell_putsOn_34, e_Cell_putsOn_36, e_Cell_putsOn_37, e_Cell_putsOn_39, e_Cell_putsOn_41, e_Cell_putsOn_42, e_Cell_putsOn_46, e_Cell_putsOn_47, e_Cell_putsOn_50, e_Cell_putsOn_51, e_Cell_putsOn_52, e_Cell_putsOn_54, e_Cell_putsOn_57, e_Cell_putsOn_59, e_Cell_putsOn_61, e_Cell_putsOn_63, e_Cell_putsOn_66, e_Cell_putsOn_66b, e_Cell_putsOn_69, e_Cell_putsOn_71, e_Cell_putsOn_72, e_Cell_putsOn_74, e_Cell_putsOn_76, e_Cell_putsOn_79, e_Cell_putsOn_82, e_Cell_putsOn_83, e_Cell_putsOn_83b, e_Cell_putsOn_86, e_Cell_putsOn_87, e_Cell_putsOn_90, e_Cell_putsOn_92, alk_in, ask_in, blk_in, bsk_in, qlk_in, ack_in, rcv_in, rcA_in, bk_i, bk_l, bk_v, hS_same, hS_ne, hS_hS, hS_2, am_10, am_01, am_00, if_true, if_false, gf_5_0, pf_5_0, gf_5_1, pf_5_1, gf_5_2, pf_5_2, gf_5_3, pf_5_3, gf_5_4, pf_5_4, gf_5_5, pf_5_5, gf_5_6, pf_5_6, gf_5_7, pf_5_7, gf_11_0, pf_11_0, gf_11_1, pf_11_1, gf_11_2, pf_11_2, gf_11_3, pf_11_3, gf_11_4, pf_11_4, gf_11_5, pf_11_5, gf_11_6, pf_11_6, gf_11_7, pf_11_7, gf_11_8, pf_11_8, gf_11_9, pf_11_9, gf_11_10, pf_11_10, gf_11_11, pf_11_11, O, e1, c2]
      rw [if_pos (by omega)]; rfl
end Soon
