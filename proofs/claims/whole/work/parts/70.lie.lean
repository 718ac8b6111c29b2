/-! how all should lie: the mathematics -/
def EqB (k : Nat) (w u : Nat → Int) : Prop := ∀ j, j < k → w j = u j
theorem EqB.rf {k : Nat} {w : Nat → Int} : EqB k w w := fun _ _ => rfl
theorem EqB.sy {k : Nat} {w u : Nat → Int} (H : EqB k w u) : EqB k u w := fun j hj => (H j hj).symm
theorem EqB.tr {k : Nat} {w u v : Nat → Int} (H : EqB k w u) (K : EqB k u v) : EqB k w v := fun j hj => (H j hj).trans (K j hj)
theorem EqB.oe {k : Nat} {w u : Nat → Int} (H : EqB k w u) : OE k w u := fun a b ha hb => by rw [H a ha, H b hb]
theorem sw_eq {k a b : Nat} {w u : Nat → Int} (H : EqB k w u) (ha : a < k) (hb : b < k) : EqB k (sw w a b) (sw u a b) := by
  intro j hj
  rw [sw_at, sw_at]
  refine H _ ?_
  split
  · exact ha
  · split
    · exact hb
    · exact hj
theorem rv_eq {k : Nat} : ∀ (f a b : Nat) (w u : Nat → Int), EqB k w u → b < k → EqB k (rv w a b f) (rv u a b f) := by
  intro f
  induction f with
  | zero => intro a b w u H _; exact H
  | succ f ih =>
    intro a b w u H hb
    unfold rv
    by_cases q : a < b
    · rw [if_pos q, if_pos q]
      exact ih _ _ _ _ (sw_eq H (by omega) hb) (by omega)
    · rw [if_neg q, if_neg q]
      exact H
theorem nxt_eq {k : Nat} {w u : Nat → Int} (H : EqB k w u) : (nxt k w = none ∧ nxt k u = none) ∨ ∃ g g', nxt k w = some g ∧ nxt k u = some g' ∧ EqB k g g' := by
  unfold nxt
  by_cases z : k = 0
  · subst z
    exact Or.inl ⟨rfl, rfl⟩
  · rw [pv_oe H.oe (k - 1) (by omega)]
    have pl := pv_le u (k - 1)
    cases e : pv u (k - 1) with
    | zero => exact Or.inl ⟨rfl, rfl⟩
    | succ i =>
      rw [e] at pl
      have at' := pv_at u (k - 1) i e
      have pr := pq_r u i at' (k - 1 - (i + 1))
      rw [show i + 1 + (k - 1 - (i + 1)) = k - 1 by omega] at pr
      refine Or.inr ⟨_, _, rfl, rfl, ?_⟩
      rw [pq_oe H.oe (show i < k by omega) (k - 1) (by omega)]
      exact rv_eq _ _ _ _ _ (sw_eq H (by omega) (by omega)) (by omega)
def Prm (k : Nat) (w g : Nat → Int) : Prop := (∀ j, j < k → ∃ i, i < k ∧ g j = w i) ∧ (∀ i, i < k → ∃ j, j < k ∧ g j = w i) ∧ ((∀ i j, i < k → j < k → w i = w j → i = j) → ∀ i j, i < k → j < k → g i = g j → i = j)
theorem Prm.rf {k : Nat} {w : Nat → Int} : Prm k w w := ⟨fun j hj => ⟨j, hj, rfl⟩, fun j hj => ⟨j, hj, rfl⟩, fun h => h⟩
theorem Prm.tr {k : Nat} {w g u : Nat → Int} (a : Prm k w g) (b : Prm k g u) : Prm k w u := by
  refine ⟨fun j hj => ?_, fun i hi => ?_, fun h => b.2.2 (a.2.2 h)⟩
  · obtain ⟨x, hx, e⟩ := b.1 j hj
    obtain ⟨y, hy, e'⟩ := a.1 x hx
    exact ⟨y, hy, e.trans e'⟩
  · obtain ⟨x, hx, e⟩ := a.2.1 i hi
    obtain ⟨y, hy, e'⟩ := b.2.1 x hx
    exact ⟨y, hy, e'.trans e⟩
def tpo (a b j : Nat) : Nat := if j = b then a else if j = a then b else j
theorem tpo_lt {k a b j : Nat} (ha : a < k) (hb : b < k) (hj : j < k) : tpo a b j < k := by
  unfold tpo
  split
  · exact ha
  · split
    · exact hb
    · exact hj
theorem tpo_2 (a b j : Nat) : tpo a b (tpo a b j) = j := by
  unfold tpo
  by_cases h1 : j = b
  · rw [if_pos h1]
    by_cases h2 : a = b
    · rw [if_pos h2]; omega
    · rw [if_neg h2, if_pos rfl]; omega
  · rw [if_neg h1]
    by_cases h2 : j = a
    · rw [if_pos h2, if_pos rfl]; omega
    · rw [if_neg h2, if_neg h1, if_neg h2]
theorem sw_prm {k : Nat} {w : Nat → Int} {a b : Nat} (ha : a < k) (hb : b < k) : Prm k w (sw w a b) := by
  have at' : ∀ j, sw w a b j = w (tpo a b j) := fun j => sw_at w a b j
  refine ⟨fun j hj => ⟨tpo a b j, tpo_lt ha hb hj, at' j⟩, fun i hi => ⟨tpo a b i, tpo_lt ha hb hi, by rw [at', tpo_2]⟩, fun h i j hi hj e => ?_⟩
  rw [at', at'] at e
  have z := h _ _ (tpo_lt ha hb hi) (tpo_lt ha hb hj) e
  rw [← tpo_2 a b i, z, tpo_2]
theorem rv_prm {k : Nat} : ∀ (f a b : Nat) (w : Nat → Int), b < k → Prm k w (rv w a b f) := by
  intro f
  induction f with
  | zero => intro a b w _; exact Prm.rf
  | succ f ih =>
    intro a b w hb
    unfold rv
    by_cases q : a < b
    · rw [if_pos q]
      exact (sw_prm (by omega) hb).tr (ih _ _ _ (by omega))
    · rw [if_neg q]
      exact Prm.rf
theorem nxt_prm {k K : Nat} {w g : Nat → Int} (hk : k ≤ K) (e : nxt k w = some g) : Prm K w g := by
  unfold nxt at e
  have pl := pv_le w (k - 1)
  cases h : pv w (k - 1) with
  | zero => rw [h] at e; exact absurd e (by simp)
  | succ i =>
    rw [h] at e pl
    simp only [Option.some.injEq] at e
    have at' := pv_at w (k - 1) i h
    have pr := pq_r w i at' (k - 1 - (i + 1))
    rw [show i + 1 + (k - 1 - (i + 1)) = k - 1 by omega] at pr
    rw [← e]
    exact (sw_prm (by omega) (by omega)).tr (rv_prm _ _ _ _ (by omega))
def pfw (k : Nat) (w M so ha : Nat → Int) (x : Int) (i : Nat) : Int := if who k w x = -9 then 0 else fig (ha (M (who k w x).toNat).toNat) (so (M i).toNat)
def ybi (k : Nat) (w M so ha ye : Nat → Int) (i : Nat) : Int := cl (ye (M i).toNat - 1 + (pfw k w M so ha (w i - 1) i + pfw k w M so ha (w i + 1) i))
def yb (k : Nat) (M so ha ye w : Nat → Int) : Int := sye (ybi k w M so ha ye) k
def srch (k : Nat) (M so ha ye : Nat → Int) (f : Nat) (w bw : Nat → Int) (b : Int) : Int × (Nat → Int) := match f with
  | 0 => (b, bw)
  | f + 1 => match nxt k w with
    | none => (b, bw)
    | some g => if yb k M so ha ye g < b then srch k M so ha ye f g g (yb k M so ha ye g) else srch k M so ha ye f g bw b
theorem sye_co {g g' : Nat → Int} {k : Nat} (H : ∀ i, i < k → g i = g' i) : sye g k = sye g' k := by
  induction k with
  | zero => rfl
  | succ k ih =>
    unfold sye
    rw [ih (fun i hi => H i (by omega)), H k (by omega)]
theorem sye_b {g : Nat → Int} {k : Nat} (H : ∀ i, i < k → 0 ≤ g i ∧ g i ≤ 60) : 0 ≤ sye g k ∧ sye g k ≤ 60 * (k : Int) := by
  induction k with
  | zero => unfold sye; omega
  | succ k ih =>
    have a := ih (fun i hi => H i (by omega))
    have b := H k (by omega)
    unfold sye
    omega
theorem yb_b (k : Nat) (M so ha ye w : Nat → Int) : 0 ≤ yb k M so ha ye w ∧ yb k M so ha ye w ≤ 60 * (k : Int) := sye_b (fun _ _ => cl_b _)
theorem pfw_co {k : Nat} {w w' M M' so ha : Nat → Int} (hw : EqB k w w') (hM : EqB k M M') {x : Int} {i : Nat} (hi : i < k) : pfw k w M so ha x i = pfw k w' M' so ha x i := by
  unfold pfw
  rw [who_congr (x := x) hw, hM i hi]
  rcases who_range k w' x with ⟨h1, -⟩ | ⟨j, h1, h2, -⟩
  · rw [if_pos h1, if_pos h1]
  · rw [h2, Int.toNat_natCast, hM j h1]
theorem yb_co {k : Nat} {w w' M M' so ha ye : Nat → Int} (hw : EqB k w w') (hM : EqB k M M') : yb k M so ha ye w = yb k M' so ha ye w' := by
  unfold yb
  refine sye_co fun i hi => ?_
  unfold ybi
  rw [hw i hi, hM i hi, pfw_co hw hM hi, pfw_co hw hM hi]
theorem srch_co {k : Nat} {M M' so ha ye : Nat → Int} (hM : EqB k M M') : ∀ (f : Nat) (w w' bw bw' : Nat → Int) (b : Int), EqB k w w' → EqB k bw bw' → (srch k M so ha ye f w bw b).1 = (srch k M' so ha ye f w' bw' b).1 ∧ EqB k (srch k M so ha ye f w bw b).2 (srch k M' so ha ye f w' bw' b).2 := by
  intro f
  induction f with
  | zero => intro w w' bw bw' b _ hb; exact ⟨rfl, hb⟩
  | succ f ih =>
    intro w w' bw bw' b hw hb
    unfold srch
    rcases nxt_eq hw with ⟨e1, e2⟩ | ⟨g, g', e1, e2, hg⟩
    · rw [e1, e2]; exact ⟨rfl, hb⟩
    · rw [e1, e2]
      simp only
      rw [yb_co hg hM]
      by_cases q : yb k M' so ha ye g' < b
      · rw [if_pos q, if_pos q]; exact ih g g' g g' _ hg hg
      · rw [if_neg q, if_neg q]; exact ih g g' bw bw' b hg hb
theorem gm_co (ce A B : Nat → Int) (n : Nat) : (gm ce A n).1 = (gm ce B n).1 ∧ EqB (gm ce A n).1 (gm ce A n).2 (gm ce B n).2 := by
  induction n with
  | zero => exact ⟨rfl, fun j hj => absurd hj (Nat.not_lt_zero _)⟩
  | succ n ih =>
    unfold gm
    by_cases q : ce n = -9
    · rw [if_pos q, if_pos q]; exact ih
    · rw [if_neg q, if_neg q]
      refine ⟨show (gm ce A n).1 + 1 = (gm ce B n).1 + 1 by rw [ih.1], fun j hj => ?_⟩
      simp only at hj ⊢
      rw [← ih.1]
      by_cases r : j = (gm ce A n).1
      · rw [if_pos r, if_pos r]
      · rw [if_neg r, if_neg r]; exact ih.2 j (by omega)
theorem gc_co (n : Nat) (ce A B : Nat → Int) (k : Nat) : (gc n ce A k).1 = (gc n ce B k).1 ∧ EqB (gc n ce A k).1 (gc n ce A k).2 (gc n ce B k).2 := by
  induction k with
  | zero => exact ⟨rfl, fun j hj => absurd hj (Nat.not_lt_zero _)⟩
  | succ k ih =>
    unfold gc
    by_cases q : who n ce (k : Int) = -9
    · rw [if_pos q, if_pos q]; exact ih
    · rw [if_neg q, if_neg q]
      refine ⟨show (gc n ce A k).1 + 1 = (gc n ce B k).1 + 1 by rw [ih.1], fun j hj => ?_⟩
      simp only at hj ⊢
      rw [← ih.1]
      by_cases r : j = (gc n ce A k).1
      · rw [if_pos r, if_pos r]
      · rw [if_neg r, if_neg r]; exact ih.2 j (by omega)
theorem gc_r (n : Nat) (ce A : Nat → Int) {b : Int} (hA : ∀ j, j < 6 → 0 ≤ A j ∧ A j ≤ b) (k : Nat) (hk : (k : Int) ≤ b + 1) : ∀ j, j < 6 → 0 ≤ (gc n ce A k).2 j ∧ (gc n ce A k).2 j ≤ b := by
  induction k with
  | zero => exact hA
  | succ k ih =>
    have ih' := ih (by omega)
    unfold gc
    by_cases q : who n ce (k : Int) = -9
    · rw [if_pos q]; exact ih'
    · rw [if_neg q]
      intro j hj
      simp only
      by_cases r : j = (gc n ce A k).1
      · rw [if_pos r]; omega
      · rw [if_neg r]; exact ih' j hj
theorem gm_sum {ce A g : Nat → Int} : ∀ n, (∀ m, m < n → ce m = -9 → g m = 0) → sye g n = sye (fun i => g ((gm ce A n).2 i).toNat) (gm ce A n).1 := by
  intro n
  induction n with
  | zero => intro _; rfl
  | succ n ih =>
    intro H
    have a := ih (fun m hm => H m (by omega))
    have e1 : sye g (n + 1) = sye g n + g n := rfl
    rw [e1]
    unfold gm
    by_cases q : ce n = -9
    · rw [if_pos q, H n (by omega) q, a]; omega
    · rw [if_neg q]
      have e2 : ∀ f : Nat → Int, sye f ((gm ce A n).1 + 1) = sye f (gm ce A n).1 + f (gm ce A n).1 := fun _ => rfl
      simp only
      rw [e2, if_pos rfl, Int.toNat_natCast, a]
      congr 1
      refine sye_co fun i hi => ?_
      rw [if_neg (by omega)]
/-- a way is how the men lie -/
def Ly (n k : Nat) (M w ce ce1 : Nat → Int) : Prop := (∀ i, i < k → ce1 (M i).toNat = w i) ∧ ∀ m, m < n → (∀ i, i < k → ¬ M i = (m : Int)) → ce1 m = ce m
/-- the men who are IN -/
def MnO (n k : Nat) (M ce : Nat → Int) : Prop := (∀ i, i < k → ∃ m : Nat, m < n ∧ M i = (m : Int) ∧ ¬ ce m = -9) ∧ (∀ i j, i < k → j < k → M i = M j → i = j) ∧ ∀ m : Nat, m < n → ¬ ce m = -9 → ∃ i, i < k ∧ M i = (m : Int)
theorem gm_mno (ce A : Nat → Int) (n : Nat) : MnO n (gm ce A n).1 (gm ce A n).2 ce := by
  refine ⟨gm_ok ce A n, fun i j hi hj e => ?_, gm_all ce A n⟩
  have u := gm_up ce A n
  by_cases a : i < j
  · have := u i j a hj; omega
  · by_cases b : j < i
    · have := u j i b hi; omega
    · omega
theorem ly_out {n k : Nat} {M w ce ce1 : Nat → Int} (hM : MnO n k M ce) (L : Ly n k M w ce ce1) {m : Nat} (hm : m < n) (h : ce m = -9) : ce1 m = -9 := by
  rw [L.2 m hm (fun i hi e => ?_), h]
  obtain ⟨m', a, b, c⟩ := hM.1 i hi
  have : m' = m := by omega
  subst this
  exact c h
theorem ly_wf {n c k : Nat} {M w ce ce1 so ha ye : Nat → Int} (hW : Wf n c ce so ha ye) (hM : MnO n k M ce) (hr : ∀ i, i < k → 0 ≤ w i ∧ w i < c) (hi : ∀ i j, i < k → j < k → w i = w j → i = j) (L : Ly n k M w ce ce1) : Wf n c ce1 so ha ye := by
  refine ⟨hW.1, hW.2.1, hW.2.2.1, fun m hm => ⟨?_, (hW.2.2.2.1 m hm).2⟩, fun a b ha' hb e h9 => ?_⟩
  · by_cases q : ce m = -9
    · refine Or.inl ⟨ly_out hM L hm q, ?_⟩
      have := (hW.2.2.2.1 m hm).1
      omega
    · obtain ⟨i, hi', e⟩ := hM.2.2 m hm q
      have z := L.1 i hi'
      rw [e, Int.toNat_natCast] at z
      have := hr i hi'
      exact Or.inr (by omega)
  · by_cases qa : ce a = -9
    · exact absurd (ly_out hM L ha' qa) h9
    · by_cases qb : ce b = -9
      · exact absurd (e.trans (ly_out hM L hb qb)) h9
      · obtain ⟨i, h1, e1⟩ := hM.2.2 a ha' qa
        obtain ⟨j, h2, e2⟩ := hM.2.2 b hb qb
        have z1 := L.1 i h1
        have z2 := L.1 j h2
        rw [e1, Int.toNat_natCast] at z1
        rw [e2, Int.toNat_natCast] at z2
        have := hi i j h1 h2 (by omega)
        subst this
        omega
theorem ly_who {n c k : Nat} {M w ce ce1 so ha ye : Nat → Int} (hW : Wf n c ce so ha ye) (hM : MnO n k M ce) (hi : ∀ i j, i < k → j < k → w i = w j → i = j) (L : Ly n k M w ce ce1) {x : Int} (hx : ¬ x = -9) : who n ce1 x = if who k w x = -9 then -9 else M (who k w x).toNat := by
  rcases who_range k w x with ⟨h1, h2⟩ | ⟨j, h1, h2, h3⟩
  · rw [if_pos h1]
    refine who_no fun m hm e => ?_
    by_cases q : ce m = -9
    · exact hx (e.symm.trans (ly_out hM L hm q))
    · obtain ⟨i, h4, e1⟩ := hM.2.2 m hm q
      have z := L.1 i h4
      rw [e1, Int.toNat_natCast] at z
      exact h2 i h4 (by omega)
  · rw [if_neg (by omega), h2, Int.toNat_natCast]
    obtain ⟨m, a, b, c'⟩ := hM.1 j h1
    have z := L.1 j h1
    rw [b, Int.toNat_natCast] at z
    rw [b]
    refine who_at a (by omega) (fun i hi' e => ?_)
    by_cases q : ce i = -9
    · exact absurd (e.symm.trans (ly_out hM L hi' q)) hx
    · obtain ⟨i', h4, e1⟩ := hM.2.2 i hi' q
      have z' := L.1 i' h4
      rw [e1, Int.toNat_natCast] at z'
      have := hi i' j h4 h1 (by omega)
      subst this
      omega
theorem ly_sum {n c : Nat} {A w ce ce1 so ha ye : Nat → Int} (hW : Wf n c ce so ha ye) (hr : ∀ i, i < (gm ce A n).1 → 0 ≤ w i ∧ w i < c) (hi : ∀ i j, i < (gm ce A n).1 → j < (gm ce A n).1 → w i = w j → i = j) (L : Ly n (gm ce A n).1 (gm ce A n).2 w ce ce1) : sye (thn n ce1 so ha ye) n = yb (gm ce A n).1 (gm ce A n).2 so ha ye w := by
  have hM := gm_mno ce A n
  rw [gm_sum (ce := ce) (A := A) n (fun m hm q => by unfold thn; rw [if_pos (ly_out hM L hm q)])]
  unfold yb
  refine sye_co fun i h1 => ?_
  have z := L.1 i h1
  have r := hr i h1
  have hf : ∀ x : Int, ¬ x = -9 → ffr n ce1 ha x (so ((gm ce A n).2 i).toNat) = pfw (gm ce A n).1 w (gm ce A n).2 so ha x i := by
    intro x hx
    have e := ly_who hW hM hi L hx
    unfold ffr pfw
    rcases who_range (gm ce A n).1 w x with ⟨h2, -⟩ | ⟨j, h2, h3, -⟩
    · rw [if_pos h2] at e
      rw [if_pos e, if_pos h2]
    · rw [if_neg (by omega)] at e
      obtain ⟨m, a, b, -⟩ := hM.1 j h2
      rw [h3, Int.toNat_natCast, b] at e
      rw [e, h3, Int.toNat_natCast, Int.toNat_natCast, b, Int.toNat_natCast, if_neg (by omega), if_neg (by omega)]
  unfold thn ybi aft
  rw [z, if_neg (by omega), hf _ (by omega), hf _ (by omega), Int.add_assoc]
def trn (n : Nat) (f : Nat → Int) : Nat → Int := fun j => if j < n then f j else 0
theorem trn_eq {n : Nat} {f g : Nat → Int} (H : EqB n f g) : trn n f = trn n g := by
  funext j
  unfold trn
  by_cases q : j < n
  · rw [if_pos q, if_pos q, H j q]
  · rw [if_neg q, if_neg q]
theorem trn_at {n j : Nat} {f : Nat → Int} (h : j < n) : trn n f j = f j := if_pos h
def lK (n : Nat) (ce : Nat → Int) : Nat := (gm ce (fun _ => 0) n).1
def lM (n : Nat) (ce : Nat → Int) : Nat → Int := (gm ce (fun _ => 0) n).2
def lW (n : Nat) (ce : Nat → Int) : Nat → Int := (gc n ce (fun _ => 0) 9).2
def lieR (n : Nat) (ce so ha ye : Nat → Int) : Int × (Nat → Int) := srch (lK n ce) (lM n ce) so ha ye 719 (lW n ce) (lW n ce) (yb (lK n ce) (lM n ce) so ha ye (lW n ce))
/-- whatever lay in the rows before -/
theorem lieR_co {n c : Nat} {ce so ha ye A B : Nat → Int} (hW : Wf n c ce so ha ye) : (gm ce A n).1 = lK n ce ∧ EqB (lK n ce) (gm ce A n).2 (lM n ce) ∧ (srch (gm ce A n).1 (gm ce A n).2 so ha ye 719 (gc n ce B 9).2 (gc n ce B 9).2 (yb (gm ce A n).1 (gm ce A n).2 so ha ye (gc n ce B 9).2)).1 = (lieR n ce so ha ye).1 ∧ EqB (lK n ce) (srch (gm ce A n).1 (gm ce A n).2 so ha ye 719 (gc n ce B 9).2 (gc n ce B 9).2 (yb (gm ce A n).1 (gm ce A n).2 so ha ye (gc n ce B 9).2)).2 (lieR n ce so ha ye).2 := by
  have m1 := gm_co ce A (fun _ => 0) n
  have c1 := gc_co n ce B (fun _ => 0) 9
  have hr : ∀ j, j < n → ce j = -9 ∨ 0 ≤ ce j ∧ ce j < (9 : Nat) := fun j hj => by
    have := (hW.2.2.2.1 j hj).1
    have := hW.2.2.1
    omega
  have g := gc_gm (A := B) (B := A) hr hW.2.2.2.2 n (Nat.le_refl n)
  rw [g] at c1
  have e1 : (gm ce A n).1 = lK n ce := m1.1
  rw [e1] at m1 c1 ⊢
  have hM : EqB (lK n ce) (gm ce A n).2 (lM n ce) := m1.2
  have hW' : EqB (lK n ce) (gc n ce B 9).2 (lW n ce) := c1.2
  refine ⟨rfl, hM, ?_⟩
  rw [yb_co hW' hM]
  exact srch_co hM 719 _ _ _ _ _ hW' hW'
/-- the first way -/
theorem way0 {n c : Nat} {ce so ha ye A B : Nat → Int} (hW : Wf n c ce so ha ye) : (gc n ce B c).1 = (gm ce A n).1 ∧ gc n ce B 9 = gc n ce B c ∧ (∀ i, i < (gm ce A n).1 → 0 ≤ (gc n ce B c).2 i ∧ (gc n ce B c).2 i < c) ∧ (∀ i j, i < j → j < (gm ce A n).1 → (gc n ce B c).2 i < (gc n ce B c).2 j) ∧ (∀ i j, i < (gm ce A n).1 → j < (gm ce A n).1 → (gc n ce B c).2 i = (gc n ce B c).2 j → i = j) := by
  have hr : ∀ j, j < n → ce j = -9 ∨ 0 ≤ ce j ∧ ce j < c := fun j hj => by
    have := (hW.2.2.2.1 j hj).1
    omega
  have g := gc_gm (A := B) (B := A) hr hW.2.2.2.2 n (Nat.le_refl n)
  have x := gc_ext (A := B) hr (9 - c)
  rw [show c + (9 - c) = 9 by have := hW.2.2.1; omega] at x
  have u := gc_up n ce B c
  rw [g] at u
  refine ⟨g, x, fun i hi => ?_, u, fun i j hi hj e => ?_⟩
  · obtain ⟨y, a, b, -⟩ := gc_ok n ce B c i (by omega)
    omega
  · by_cases a : i < j
    · have := u i j a hj; omega
    · by_cases b : j < i
      · have := u j i b hi; omega
      · omega
