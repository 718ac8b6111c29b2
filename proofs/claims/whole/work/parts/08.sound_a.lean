/-! The small machine's steps are the machine's own: what a state of it stands for -/
def am_ad (bs b a : Nat) : Nat := if a = 0 then b else bs + a
def am_cv (bs b : Nat) (v : am_V) : Value := match v with
  | .inl i => .int (Int32.ofInt i)
  | .inr (.inl i) => .long (Int64.ofInt i)
  | .inr (.inr (.inl (some a))) => .ref (am_ad bs b a)
  | .inr (.inr (.inl none)) => .null
  | .inr (.inr (.inr _)) => .null
def am_rv (bs b : Nat) (r : Option Nat) : Value := match r with
  | some a => .ref (am_ad bs b a)
  | none => .null
def am_CR (bs b : Nat) (cA : Nat → ClassId) (D : va_G) (c : am_C) (x : Option Cell) : Prop := match c with
  | .inl (t, n, f) => t < 2 ∧ x = some (arrV (cA t) n (fun j => .int (Int32.ofInt (f j))))
  | .inr (.inl (t, n, f)) => (t = 2 ∨ t = 3) ∧ x = some (arrV (cA t) n (fun j => am_rv bs b (f j)))
  | .inr (.inr (k, fs)) => k < 13 ∧ fs.length = am_nf k ∧ ∃ cell : Cell, x = some cell ∧ cell.cls = D.1 k ∧ cell.vm = .none ∧ ∀ (j : Nat) (v : am_V), fs[j]? = some v → cell.slots[D.2 k j]? = some (am_cv bs b v)
def am_HW (bs b : Nat) (cA : Nat → ClassId) (D : va_G) (scr : Cell) (h : am_H) (H : Heap) : Prop :=
  1 ≤ h.2.1 ∧ H.size = bs + h.2.1 ∧ b ≤ bs ∧ H[b]? = some scr ∧ (∃ f : Nat → Int, h.1 0 = cI 9 scr.slots.size f ∧ ∀ j, j < scr.slots.size → scr.slots[j]? = some (.int (Int32.ofInt (f j)))) ∧ (∀ a, 1 ≤ a → a < h.2.1 → am_CR bs b cA D (h.1 a) H[bs + a]?) ∧ ∀ a, h.2.1 ≤ a → ∃ n f, h.1 a = cI 8 n f
def am_KW (cA : Nat → ClassId) (D : va_G) (scr : Cell) (U : State) : Prop := va_K D vwCl [(cA 0, .int), (cA 1, .boolean), (cA 2, .object RX5), (cA 3, .object RX3)] U ∧ (∀ i ∈ am_NW, ∀ w, lw_tbl[i]? = some w → va_Nw w U) ∧ va_AO RX5 U ∧ va_AO RX3 U ∧ U.isArrayOf scr .int ∧ scr.vm ≠ .unknown
def am_LR (bs b : Nat) (la : List am_V) (ls : Array Slot) (nL : Nat) : Prop := la.length = nL ∧ ls.size = nL ∧ lv_wf ls ∧ ∀ (k : Nat) (v : am_V), la[k]? = some v → am_ir v = true → ls[k]? = some (.val (am_cv bs b v))
def am_CX (p : Program) (R : Room) (s : State) (m : MethodId) (args : Array Value) (meth : Method) (c : Code) (cA : Nat → ClassId) (D : va_G) (scr : Cell) (M : Nat) : Prop :=
  p.tables.exec = Jvm.exec ∧ c.code = am_by M ∧ c.maxLocals = am_ml M ∧ s.vm.findClass (am_cn (am_oc M)) = some m.cls ∧ (∀ w ∈ am_GW, w.before args s = true) ∧ am_KW cA D scr s ∧ am_fr M ≤ R.frames ∧ am_lo M ≤ R.locals ∧ ((am_y M).name = "<init>" → meth.name = "<init>")
def am_I (bs b : Nat) (cA : Nat → ClassId) (D : va_G) (scr : Cell) (M n0 z0 : Nat) (h : am_H) (H : Heap) (locs : List Loc) (la : List am_V) (ls : Array Slot) : Prop :=
  am_LR bs b la ls (am_ml M) ∧ am_HW bs b cA D scr h H ∧ (∀ q ∈ locs, bs < q.base) ∧ n0 ≤ h.2.1 ∧ z0 ≤ h.2.2
def am_SD (ins : Instr) : Prop := ∀ (p : Program) (l : Launch) (e : Env) (R : Room) (s : State) (m : MethodId) (args : Array Value) (below : List Frame) (meth : Method) (c : Code) (Q : State → Prop) (bs b : Nat) (cA : Nat → ClassId) (D : va_G) (scr : Cell) (M n0 z0 pc len : Nat) (la st : List am_V) (h : am_H) (q : Nat × List am_V × List am_V × am_H) (ls : Array Slot) (H : Heap) (locs : List Loc),
  am_CX p R s m args meth c cA D scr M → decode (am_by M) pc = .ok (ins, len) → am_ex M pc ins len la st h = some (.inl q) → am_I bs b cA D scr M n0 z0 h H locs la ls → q.2.2.2.2.1 - n0 ≤ R.cells ∧ q.2.2.2.2.2 - z0 ≤ R.slots →
  (∀ (ls' : Array Slot) (H' : Heap) (locs' : List Loc), am_I bs b cA D scr M n0 z0 q.2.2.2 H' locs' q.2.1 ls' → W p l e R s m args below meth c H' locs' (q.2.2.2.2.1 - n0) (q.2.2.2.2.2 - z0) Q (F0 m q.1 ls' (q.2.2.1.map (am_cv bs b)))) →
  W p l e R s m args below meth c H locs (h.2.1 - n0) (h.2.2 - z0) Q (F0 m pc ls (st.map (am_cv bs b)))
theorem am_eq32 {x y : Int} (hx : am_rg x = true) (hy : am_rg y = true) : Int32.ofInt x = Int32.ofInt y ↔ x = y := by
  simp only [am_rg, Bool.and_eq_true, decide_eq_true_eq] at hx hy
  constructor
  · intro q
    have := congrArg Int32.toInt q
    rwa [am_o32 hx, am_o32 hy] at this
  · intro q; rw [q]
theorem am_lt32 {x y : Int} (hx : am_rg x = true) (hy : am_rg y = true) : Int32.ofInt x < Int32.ofInt y ↔ x < y := by
  simp only [am_rg, Bool.and_eq_true, decide_eq_true_eq] at hx hy
  rw [Int32.lt_iff_toInt_lt, am_o32 hx, am_o32 hy]
theorem am_le32 {x y : Int} (hx : am_rg x = true) (hy : am_rg y = true) : Int32.ofInt x ≤ Int32.ofInt y ↔ x ≤ y := by
  simp only [am_rg, Bool.and_eq_true, decide_eq_true_eq] at hx hy
  rw [Int32.le_iff_toInt_le, am_o32 hx, am_o32 hy]
theorem am_to_spec {pc : Nat} {off : Int} {ls st : List am_V} {h : am_H} {q : Nat × List am_V × List am_V × am_H} (hx : am_to pc off ls st h = some (.inl q)) : q = (q.1, ls, st, h) ∧ (pc : Int) + off = (q.1 : Int) := by
  unfold am_to am_j at hx
  split at hx
  · rename_i t ht
    split at ht
    · have h1 := Option.some.inj ht
      have h2 := Sum.inl.inj (Option.some.inj hx)
      subst h2
      refine ⟨rfl, ?_⟩
      show (pc : Int) + off = (t : Int)
      omega
    · cases ht
  · cases hx
theorem am_cv1 (bs b : Nat) {v : am_V} (h : am_ct v = 1) : (am_cv bs b v).category = 1 := by
  rcases v with v | v | v | v
  · rfl
  · simp [am_ct] at h
  · cases v <;> rfl
  · rfl
theorem am_cvct (bs b : Nat) (v : am_V) : (am_cv bs b v).category = am_ct v := by
  rcases v with v | v | v | v
  · rfl
  · rfl
  · cases v <;> rfl
  · rfl
def am_lp (bs b : Nat) (la : List am_V) : List (Nat × Value) := (List.range la.length).filterMap (fun k => match la[k]? with
  | some v => if am_ir v = true then some (k, am_cv bs b v) else none
  | none => none)
theorem am_lp_mem {bs b : Nat} {la : List am_V} {k : Nat} {x : Value} : (k, x) ∈ am_lp bs b la ↔ ∃ v, la[k]? = some v ∧ am_ir v = true ∧ x = am_cv bs b v := by
  unfold am_lp
  rw [List.mem_filterMap]
  constructor
  · rintro ⟨j, -, hj⟩
    split at hj
    · rename_i v hv
      split at hj
      · rename_i hi
        have := Option.some.inj hj
        cases this
        exact ⟨v, hv, hi, rfl⟩
      · cases hj
    · cases hj
  · rintro ⟨v, hv, hi, rfl⟩
    refine ⟨k, List.mem_range.mpr (List.getElem?_eq_some_iff.mp hv).1, ?_⟩
    rw [hv]
    simp [hi]
theorem am_LR.has {bs b : Nat} {la : List am_V} {ls : Array Slot} {nL : Nat} (h : am_LR bs b la ls nL) : lv_has ls nL (am_lp bs b la) := by
  obtain ⟨-, h2, h3, h4⟩ := h
  refine ⟨h2, h3, fun q hq => ?_⟩
  obtain ⟨k, x⟩ := q
  obtain ⟨v, hv, hi, rfl⟩ := am_lp_mem.mp hq
  exact h4 k v hv hi
theorem am_LR.put {bs b : Nat} {la : List am_V} {ls : Array Slot} {nL i : Nat} {w : am_V} (h : am_LR bs b la ls nL) (hi : i < la.length) {ls' : Array Slot} {x : Value} (hx : x = am_cv bs b w) (h' : lv_has ls' nL ((i, x) :: (am_lp bs b la).filter (fun q => !(q.1 == i) && !(q.1 + 1 == i && q.2.category == 2)))) : am_LR bs b (la.set i w) ls' nL := by
  refine ⟨by rw [List.length_set]; exact h.1, h'.1, h'.2.1, fun k v hk hv => ?_⟩
  by_cases hki : i = k
  · subst hki
    rw [List.getElem?_set_self hi] at hk
    cases hk
    rw [← hx]
    exact h'.2.2 (i, x) List.mem_cons_self
  · rw [List.getElem?_set_ne hki] at hk
    refine h'.2.2 (k, am_cv bs b v) (List.mem_cons_of_mem _ (List.mem_filter.mpr ⟨am_lp_mem.mpr ⟨v, hk, hv, rfl⟩, ?_⟩))
    have hc : (am_cv bs b v).category = 1 := by
      rcases v with v | v | v | v
      · rfl
      · simp [am_ir] at hv
      · cases v <;> rfl
      · simp [am_ir] at hv
    simp [hc, Ne.symm hki]
theorem sd_iconst (i : Int) : am_SD (.iconst i) := by
  intro p l e R s m args below meth c Q bs b cA D scr M n0 z0 pc len la st h q ls H locs CX hd hx hI hR kk
  obtain ⟨hex, hb, hml, hown, hts, hK, hfr, hlo, hin⟩ := CX
  simp only [am_ex] at hx
  split at hx
  · rename_i hq
    have hl : len = 1 := hq
    subst hl
    obtain rfl := (Sum.inl.inj (Option.some.inj hx)).symm
    exact lv_iconst hex hb hd rfl (kk ls H locs hI)
  · cases hx
theorem sd_bipush (i : Int) : am_SD (.bipush i) := by
  intro p l e R s m args below meth c Q bs b cA D scr M n0 z0 pc len la st h q ls H locs CX hd hx hI hR kk
  obtain ⟨hex, hb, hml, hown, hts, hK, hfr, hlo, hin⟩ := CX
  simp only [am_ex] at hx
  split at hx
  · rename_i hq
    have hl : len = 2 := hq.1
    subst hl
    obtain rfl := (Sum.inl.inj (Option.some.inj hx)).symm
    exact lv_bipush hex hb hd hq.2 (kk ls H locs hI)
  · cases hx
theorem sd_sipush (i : Int) : am_SD (.sipush i) := by
  intro p l e R s m args below meth c Q bs b cA D scr M n0 z0 pc len la st h q ls H locs CX hd hx hI hR kk
  obtain ⟨hex, hb, hml, hown, hts, hK, hfr, hlo, hin⟩ := CX
  simp only [am_ex] at hx
  split at hx
  · rename_i hq
    have hl : len = 3 := hq.1
    subst hl
    obtain rfl := (Sum.inl.inj (Option.some.inj hx)).symm
    exact lv_sipush hex hb hd hq.2 (kk ls H locs hI)
  · cases hx
theorem sd_lconst (i : Fin 2) : am_SD (.lconst i) := by
  intro p l e R s m args below meth c Q bs b cA D scr M n0 z0 pc len la st h q ls H locs CX hd hx hI hR kk
  obtain ⟨hex, hb, hml, hown, hts, hK, hfr, hlo, hin⟩ := CX
  simp only [am_ex] at hx
  split at hx
  · rename_i hq
    have hl : len = 1 := hq
    subst hl
    obtain rfl := (Sum.inl.inj (Option.some.inj hx)).symm
    exact lv_lconst hex hb hd (by match i with | 0 => rfl | 1 => rfl) (kk ls H locs hI)
  · cases hx
theorem sd_ldc (i : Nat) : am_SD (.ldc i) := by
  intro p l e R s m args below meth c Q bs b cA D scr M n0 z0 pc len la st h q ls H locs CX hd hx hI hR kk
  obtain ⟨hex, hb, hml, hown, hts, hK, hfr, hlo, hin⟩ := CX
  simp only [am_ex] at hx
  split at hx
  · rename_i v hv
    split at hx
    · rename_i hl
      subst hl
      obtain rfl := (Sum.inl.inj (Option.some.inj hx)).symm
      exact lv_ldc hex hb hown (hts _ (am_ck_ok hv)) hd (kk ls H locs hI)
    · cases hx
  · cases hx
theorem sd_ldc_w (i : Nat) : am_SD (.ldc_w i) := by
  intro p l e R s m args below meth c Q bs b cA D scr M n0 z0 pc len la st h q ls H locs CX hd hx hI hR kk
  obtain ⟨hex, hb, hml, hown, hts, hK, hfr, hlo, hin⟩ := CX
  simp only [am_ex] at hx
  split at hx
  · rename_i v hv
    split at hx
    · rename_i hl
      subst hl
      obtain rfl := (Sum.inl.inj (Option.some.inj hx)).symm
      exact lv_ldcw hex hb hown (hts _ (am_ck_ok hv)) hd (kk ls H locs hI)
    · cases hx
  · cases hx
theorem sd_ldc2_w (i : Nat) : am_SD (.ldc2_w i) := by
  intro p l e R s m args below meth c Q bs b cA D scr M n0 z0 pc len la st h q ls H locs CX hd hx hI hR kk
  obtain ⟨hex, hb, hml, hown, hts, hK, hfr, hlo, hin⟩ := CX
  simp only [am_ex] at hx
  split at hx
  · rename_i v hv
    split at hx
    · rename_i hl
      subst hl
      obtain rfl := (Sum.inl.inj (Option.some.inj hx)).symm
      exact lv_ldc2 hex hb hown (hts _ (am_cl_ok hv)) hd (kk ls H locs hI)
    · cases hx
  · cases hx
theorem sd_iload_n (k : Fin 4) : am_SD (.iload_n k) := by
  intro p l e R s m args below meth c Q bs b cA D scr M n0 z0 pc len la st h q ls H locs CX hd hx hI hR kk
  obtain ⟨hex, hb, hml, hown, hts, hK, hfr, hlo, hin⟩ := CX
  simp only [am_ex] at hx
  split at hx
  · rename_i x hv
    split at hx
    · rename_i hl
      subst hl
      obtain rfl := (Sum.inl.inj (Option.some.inj hx)).symm
      exact lv_iload_n hex hb hd rfl (hI.1.2.2.2 _ _ hv rfl) (kk ls H locs hI)
    · cases hx
  · cases hx
theorem sd_iload (k : Nat) : am_SD (.iload k) := by
  intro p l e R s m args below meth c Q bs b cA D scr M n0 z0 pc len la st h q ls H locs CX hd hx hI hR kk
  obtain ⟨hex, hb, hml, hown, hts, hK, hfr, hlo, hin⟩ := CX
  simp only [am_ex] at hx
  split at hx
  · rename_i x hv
    split at hx
    · rename_i hl
      subst hl
      obtain rfl := (Sum.inl.inj (Option.some.inj hx)).symm
      exact lv_iload hex hb hd (hI.1.2.2.2 _ _ hv rfl) (kk ls H locs hI)
    · cases hx
  · cases hx
theorem sd_aload_n (k : Fin 4) : am_SD (.aload_n k) := by
  intro p l e R s m args below meth c Q bs b cA D scr M n0 z0 pc len la st h q ls H locs CX hd hx hI hR kk
  obtain ⟨hex, hb, hml, hown, hts, hK, hfr, hlo, hin⟩ := CX
  simp only [am_ex] at hx
  split at hx
  · rename_i x hv
    split at hx
    · rename_i hl
      subst hl
      obtain rfl := (Sum.inl.inj (Option.some.inj hx)).symm
      exact lv_aload_n hex hb hd rfl (hI.1.2.2.2 _ _ hv rfl) (kk ls H locs hI)
    · cases hx
  · cases hx
theorem sd_aload (k : Nat) : am_SD (.aload k) := by
  intro p l e R s m args below meth c Q bs b cA D scr M n0 z0 pc len la st h q ls H locs CX hd hx hI hR kk
  obtain ⟨hex, hb, hml, hown, hts, hK, hfr, hlo, hin⟩ := CX
  simp only [am_ex] at hx
  split at hx
  · rename_i x hv
    split at hx
    · rename_i hl
      subst hl
      obtain rfl := (Sum.inl.inj (Option.some.inj hx)).symm
      exact lv_aload hex hb hd (hI.1.2.2.2 _ _ hv rfl) (kk ls H locs hI)
    · cases hx
  · cases hx
theorem sd_istore_n (k : Fin 4) : am_SD (.istore_n k) := by
  intro p l e R s m args below meth c Q bs b cA D scr M n0 z0 pc len la st h q ls H locs CX hd hx hI hR kk
  obtain ⟨hex, hb, hml, hown, hts, hK, hfr, hlo, hin⟩ := CX
  simp only [am_ex] at hx
  split at hx
  · rename_i x r
    split at hx
    · rename_i hq
      obtain ⟨hl, hk⟩ := hq
      subst hl
      obtain rfl := (Sum.inl.inj (Option.some.inj hx)).symm
      refine lv_istore_n hex hb hd rfl hI.1.has (by rw [← hI.1.1]; exact hk) rfl (fun ls' h' => ?_)
      exact kk ls' H locs ⟨hI.1.put (w := vI x) hk rfl h', hI.2⟩
    · cases hx
  · cases hx
theorem sd_istore (k : Nat) : am_SD (.istore k) := by
  intro p l e R s m args below meth c Q bs b cA D scr M n0 z0 pc len la st h q ls H locs CX hd hx hI hR kk
  obtain ⟨hex, hb, hml, hown, hts, hK, hfr, hlo, hin⟩ := CX
  simp only [am_ex] at hx
  split at hx
  · rename_i x r
    split at hx
    · rename_i hq
      obtain ⟨hl, hk⟩ := hq
      subst hl
      obtain rfl := (Sum.inl.inj (Option.some.inj hx)).symm
      refine lv_istore hex hb hd hI.1.has (by rw [← hI.1.1]; exact hk) rfl (fun ls' h' => ?_)
      exact kk ls' H locs ⟨hI.1.put (w := vI x) hk rfl h', hI.2⟩
    · cases hx
  · cases hx
theorem sd_astore_n (k : Fin 4) : am_SD (.astore_n k) := by
  intro p l e R s m args below meth c Q bs b cA D scr M n0 z0 pc len la st h q ls H locs CX hd hx hI hR kk
  obtain ⟨hex, hb, hml, hown, hts, hK, hfr, hlo, hin⟩ := CX
  simp only [am_ex] at hx
  split at hx
  · rename_i x r
    split at hx
    · rename_i hq
      obtain ⟨hl, hk⟩ := hq
      subst hl
      obtain rfl := (Sum.inl.inj (Option.some.inj hx)).symm
      refine lv_astore_n hex hb hd rfl hI.1.has (by rw [← hI.1.1]; exact hk) rfl (fun ls' h' => ?_)
      exact kk ls' H locs ⟨hI.1.put (w := vR x) hk rfl h', hI.2⟩
    · cases hx
  · cases hx
theorem sd_astore (k : Nat) : am_SD (.astore k) := by
  intro p l e R s m args below meth c Q bs b cA D scr M n0 z0 pc len la st h q ls H locs CX hd hx hI hR kk
  obtain ⟨hex, hb, hml, hown, hts, hK, hfr, hlo, hin⟩ := CX
  simp only [am_ex] at hx
  split at hx
  · rename_i x r
    split at hx
    · rename_i hq
      obtain ⟨hl, hk⟩ := hq
      subst hl
      obtain rfl := (Sum.inl.inj (Option.some.inj hx)).symm
      refine lv_astore hex hb hd hI.1.has (by rw [← hI.1.1]; exact hk) rfl (fun ls' h' => ?_)
      exact kk ls' H locs ⟨hI.1.put (w := vR x) hk rfl h', hI.2⟩
    · cases hx
  · cases hx
theorem sd_iinc (k : Nat) (n : Int) : am_SD (.iinc k n) := by
  intro p l e R s m args below meth c Q bs b cA D scr M n0 z0 pc len la st h q ls H locs CX hd hx hI hR kk
  obtain ⟨hex, hb, hml, hown, hts, hK, hfr, hlo, hin⟩ := CX
  simp only [am_ex] at hx
  split at hx
  · rename_i x hv
    split at hx
    · rename_i hl
      subst hl
      obtain rfl := (Sum.inl.inj (Option.some.inj hx)).symm
      have hk : k < la.length := (List.getElem?_eq_some_iff.mp hv).1
      obtain ⟨j, hj⟩ := List.getElem?_of_mem (am_lp_mem.mpr ⟨_, hv, rfl, rfl⟩ : (k, am_cv bs b (vI x)) ∈ am_lp bs b la)
      refine lv_iinc hex hb hd hI.1.has (k := j) (x := Int32.ofInt x) (v := Int32.ofInt (x + n)) hj (by rw [Int32.ofInt_add]) (by rw [← hI.1.1]; exact hk) rfl (fun ls' h' => ?_)
      exact kk ls' H locs ⟨hI.1.put (w := vI (x + n)) hk rfl h', hI.2⟩
    · cases hx
  · cases hx
theorem sd_iadd : am_SD (.iadd) := by
  intro p l e R s m args below meth c Q bs b cA D scr M n0 z0 pc len la st h q ls H locs CX hd hx hI hR kk
  obtain ⟨hex, hb, hml, hown, hts, hK, hfr, hlo, hin⟩ := CX
  simp only [am_ex] at hx
  split at hx
  · rename_i y x r
    split at hx
    · rename_i hq
      have hl : len = 1 := hq
      subst hl
      obtain rfl := (Sum.inl.inj (Option.some.inj hx)).symm
      have k2 := kk ls H locs hI
      simp only [List.map_cons, am_cv, Int32.ofInt_add] at k2 ⊢
      exact lv_iadd hex hb hd k2
    · cases hx
  · cases hx
theorem sd_isub : am_SD (.isub) := by
  intro p l e R s m args below meth c Q bs b cA D scr M n0 z0 pc len la st h q ls H locs CX hd hx hI hR kk
  obtain ⟨hex, hb, hml, hown, hts, hK, hfr, hlo, hin⟩ := CX
  simp only [am_ex] at hx
  split at hx
  · rename_i y x r
    split at hx
    · rename_i hq
      have hl : len = 1 := hq
      subst hl
      obtain rfl := (Sum.inl.inj (Option.some.inj hx)).symm
      have k2 := kk ls H locs hI
      simp only [List.map_cons, am_cv, Int32.ofInt_sub] at k2 ⊢
      exact lv_isub hex hb hd k2
    · cases hx
  · cases hx
theorem sd_imul : am_SD (.imul) := by
  intro p l e R s m args below meth c Q bs b cA D scr M n0 z0 pc len la st h q ls H locs CX hd hx hI hR kk
  obtain ⟨hex, hb, hml, hown, hts, hK, hfr, hlo, hin⟩ := CX
  simp only [am_ex] at hx
  split at hx
  · rename_i y x r
    split at hx
    · rename_i hq
      have hl : len = 1 := hq
      subst hl
      obtain rfl := (Sum.inl.inj (Option.some.inj hx)).symm
      have k2 := kk ls H locs hI
      simp only [List.map_cons, am_cv, Int32.ofInt_mul] at k2 ⊢
      exact lv_imul hex hb hd k2
    · cases hx
  · cases hx
theorem sd_idiv : am_SD (.idiv) := by
  intro p l e R s m args below meth c Q bs b cA D scr M n0 z0 pc len la st h q ls H locs CX hd hx hI hR kk
  obtain ⟨hex, hb, hml, hown, hts, hK, hfr, hlo, hin⟩ := CX
  simp only [am_ex] at hx
  split at hx
  · rename_i y x r
    split at hx
    · rename_i hq
      have hl : len = 1 := hq.1
      subst hl
      obtain rfl := (Sum.inl.inj (Option.some.inj hx)).symm
      have k2 := kk ls H locs hI
      simp only [List.map_cons, am_cv, Int32.ofInt_toInt] at k2 ⊢
      exact lv_idiv hex hb hd hq.2 k2
    · cases hx
  · cases hx
theorem sd_irem : am_SD (.irem) := by
  intro p l e R s m args below meth c Q bs b cA D scr M n0 z0 pc len la st h q ls H locs CX hd hx hI hR kk
  obtain ⟨hex, hb, hml, hown, hts, hK, hfr, hlo, hin⟩ := CX
  simp only [am_ex] at hx
  split at hx
  · rename_i y x r
    split at hx
    · rename_i hq
      have hl : len = 1 := hq.1
      subst hl
      obtain rfl := (Sum.inl.inj (Option.some.inj hx)).symm
      have k2 := kk ls H locs hI
      simp only [List.map_cons, am_cv, Int32.ofInt_toInt] at k2 ⊢
      exact lv_irem hex hb hd hq.2 k2
    · cases hx
  · cases hx
theorem sd_iand : am_SD (.iand) := by
  intro p l e R s m args below meth c Q bs b cA D scr M n0 z0 pc len la st h q ls H locs CX hd hx hI hR kk
  obtain ⟨hex, hb, hml, hown, hts, hK, hfr, hlo, hin⟩ := CX
  simp only [am_ex] at hx
  split at hx
  · rename_i y x r
    split at hx
    · rename_i hq
      have hl : len = 1 := hq
      subst hl
      obtain rfl := (Sum.inl.inj (Option.some.inj hx)).symm
      have k2 := kk ls H locs hI
      simp only [List.map_cons, am_cv, Int32.ofInt_toInt] at k2 ⊢
      exact lv_iand hex hb hd k2
    · cases hx
  · cases hx
theorem sd_ior : am_SD (.ior) := by
  intro p l e R s m args below meth c Q bs b cA D scr M n0 z0 pc len la st h q ls H locs CX hd hx hI hR kk
  obtain ⟨hex, hb, hml, hown, hts, hK, hfr, hlo, hin⟩ := CX
  simp only [am_ex] at hx
  split at hx
  · rename_i y x r
    split at hx
    · rename_i hq
      have hl : len = 1 := hq
      subst hl
      obtain rfl := (Sum.inl.inj (Option.some.inj hx)).symm
      have k2 := kk ls H locs hI
      simp only [List.map_cons, am_cv, Int32.ofInt_toInt] at k2 ⊢
      exact lv_ior hex hb hd k2
    · cases hx
  · cases hx
theorem sd_ishl : am_SD (.ishl) := by
  intro p l e R s m args below meth c Q bs b cA D scr M n0 z0 pc len la st h q ls H locs CX hd hx hI hR kk
  obtain ⟨hex, hb, hml, hown, hts, hK, hfr, hlo, hin⟩ := CX
  simp only [am_ex] at hx
  split at hx
  · rename_i y x r
    split at hx
    · rename_i hq
      have hl : len = 1 := hq
      subst hl
      obtain rfl := (Sum.inl.inj (Option.some.inj hx)).symm
      have k2 := kk ls H locs hI
      simp only [List.map_cons, am_cv, Int32.ofInt_toInt] at k2 ⊢
      exact lv_ishl hex hb hd k2
    · cases hx
  · cases hx
theorem sd_ishr : am_SD (.ishr) := by
  intro p l e R s m args below meth c Q bs b cA D scr M n0 z0 pc len la st h q ls H locs CX hd hx hI hR kk
  obtain ⟨hex, hb, hml, hown, hts, hK, hfr, hlo, hin⟩ := CX
  simp only [am_ex] at hx
  split at hx
  · rename_i y x r
    split at hx
    · rename_i hq
      have hl : len = 1 := hq
      subst hl
      obtain rfl := (Sum.inl.inj (Option.some.inj hx)).symm
      have k2 := kk ls H locs hI
      simp only [List.map_cons, am_cv, Int32.ofInt_toInt] at k2 ⊢
      exact lv_ishr hex hb hd k2
    · cases hx
  · cases hx
theorem sd_iushr : am_SD (.iushr) := by
  intro p l e R s m args below meth c Q bs b cA D scr M n0 z0 pc len la st h q ls H locs CX hd hx hI hR kk
  obtain ⟨hex, hb, hml, hown, hts, hK, hfr, hlo, hin⟩ := CX
  simp only [am_ex] at hx
  split at hx
  · rename_i y x r
    split at hx
    · rename_i hq
      have hl : len = 1 := hq
      subst hl
      obtain rfl := (Sum.inl.inj (Option.some.inj hx)).symm
      have k2 := kk ls H locs hI
      simp only [List.map_cons, am_cv, Int32.ofInt_toInt] at k2 ⊢
      exact lv_iushr hex hb hd rfl k2
    · cases hx
  · cases hx
theorem sd_ladd : am_SD (.ladd) := by
  intro p l e R s m args below meth c Q bs b cA D scr M n0 z0 pc len la st h q ls H locs CX hd hx hI hR kk
  obtain ⟨hex, hb, hml, hown, hts, hK, hfr, hlo, hin⟩ := CX
  simp only [am_ex] at hx
  split at hx
  · rename_i y x r
    split at hx
    · rename_i hq
      have hl : len = 1 := hq
      subst hl
      obtain rfl := (Sum.inl.inj (Option.some.inj hx)).symm
      have k2 := kk ls H locs hI
      simp only [List.map_cons, am_cv, Int64.ofInt_add] at k2 ⊢
      exact lv_ladd hex hb hd k2
    · cases hx
  · cases hx
theorem sd_lcmp : am_SD (.lcmp) := by
  intro p l e R s m args below meth c Q bs b cA D scr M n0 z0 pc len la st h q ls H locs CX hd hx hI hR kk
  obtain ⟨hex, hb, hml, hown, hts, hK, hfr, hlo, hin⟩ := CX
  simp only [am_ex] at hx
  split at hx
  · rename_i y x r
    split at hx
    · rename_i hq
      have hl : len = 1 := hq
      subst hl
      obtain rfl := (Sum.inl.inj (Option.some.inj hx)).symm
      have k2 := kk ls H locs hI
      simp only [List.map_cons, am_cv, Int32.ofInt_toInt] at k2 ⊢
      exact W.lcmp hex hb hd k2
    · cases hx
  · cases hx
theorem sd_ineg : am_SD (.ineg) := by
  intro p l e R s m args below meth c Q bs b cA D scr M n0 z0 pc len la st h q ls H locs CX hd hx hI hR kk
  obtain ⟨hex, hb, hml, hown, hts, hK, hfr, hlo, hin⟩ := CX
  simp only [am_ex] at hx
  split at hx
  · rename_i x r
    split at hx
    · rename_i hq
      subst hq
      obtain rfl := (Sum.inl.inj (Option.some.inj hx)).symm
      have k2 := kk ls H locs hI
      simp only [List.map_cons, am_cv, Int32.ofInt_neg] at k2 ⊢
      exact lv_ineg hex hb hd k2
    · cases hx
  · cases hx
theorem sd_dup : am_SD (.dup) := by
  intro p l e R s m args below meth c Q bs b cA D scr M n0 z0 pc len la st h q ls H locs CX hd hx hI hR kk
  obtain ⟨hex, hb, hml, hown, hts, hK, hfr, hlo, hin⟩ := CX
  simp only [am_ex] at hx
  split at hx
  · rename_i v r
    split at hx
    · rename_i hq
      obtain ⟨hl, hv⟩ := hq
      subst hl
      obtain rfl := (Sum.inl.inj (Option.some.inj hx)).symm
      exact lv_dup hex hb hd (am_cv1 bs b hv) (kk ls H locs hI)
    · cases hx
  · cases hx
theorem sd_pop : am_SD (.pop) := by
  intro p l e R s m args below meth c Q bs b cA D scr M n0 z0 pc len la st h q ls H locs CX hd hx hI hR kk
  obtain ⟨hex, hb, hml, hown, hts, hK, hfr, hlo, hin⟩ := CX
  simp only [am_ex] at hx
  split at hx
  · rename_i v r
    split at hx
    · rename_i hq
      obtain ⟨hl, hv⟩ := hq
      subst hl
      obtain rfl := (Sum.inl.inj (Option.some.inj hx)).symm
      exact lv_pop hex hb hd (am_cv1 bs b hv) (kk ls H locs hI)
    · cases hx
  · cases hx
theorem sd_dup2 : am_SD (.dup2) := by
  intro p l e R s m args below meth c Q bs b cA D scr M n0 z0 pc len la st h q ls H locs CX hd hx hI hR kk
  obtain ⟨hex, hb, hml, hown, hts, hK, hfr, hlo, hin⟩ := CX
  simp only [am_ex] at hx
  split at hx
  · rename_i v w r
    split at hx
    · rename_i hq
      obtain ⟨hl, hv, hw⟩ := hq
      subst hl
      obtain rfl := (Sum.inl.inj (Option.some.inj hx)).symm
      exact lv_dup2_11 hex hb hd (am_cv1 bs b hv) (am_cv1 bs b hw) (kk ls H locs hI)
    · cases hx
  · cases hx
theorem sd_ifCond (cc : Jvm.ClassFile.Cond) (off : Int) : am_SD (.ifCond cc off) := by
  intro p l e R s m args below meth c Q bs b cA D scr M n0 z0 pc len la st h q ls H locs CX hd hx hI hR kk
  obtain ⟨hex, hb, hml, hown, hts, hK, hfr, hlo, hin⟩ := CX
  simp only [am_ex] at hx
  split at hx
  · rename_i x r
    split at hx
    · rename_i hq
      obtain ⟨hl, hq⟩ := id hq
      rename_i hq0
      clear hq
      have hq := hq0
      subst hl
      split at hx
      · rename_i hc
        obtain ⟨e1, ht⟩ := am_to_spec hx
        obtain ⟨q1, q2, q3, q4⟩ := q
        simp only [Prod.mk.injEq, true_and] at e1
        obtain ⟨rfl, rfl, rfl⟩ := e1
        cases cc
        · exact lv_if_eq hex hb hd ht (fun _ => kk ls H locs hI) (fun z => absurd ((am_eq32 hq.2.1 (by rfl : am_rg 0 = true)).mpr (of_decide_eq_true hc)) z)
        · exact lv_if_ne hex hb hd ht (fun _ => kk ls H locs hI) (fun z => absurd ((am_eq32 hq.2.1 (by rfl : am_rg 0 = true)).mp z) (of_decide_eq_true hc))
        · exact lv_if_lt hex hb hd ht (fun _ => kk ls H locs hI) (fun z => absurd ((am_lt32 hq.2.1 (by rfl : am_rg 0 = true)).mpr (of_decide_eq_true hc)) z)
        · exact lv_if_ge hex hb hd ht (fun _ => kk ls H locs hI) (fun z => absurd ((am_le32 (by rfl : am_rg 0 = true) hq.2.1).mpr (of_decide_eq_true hc)) z)
        · exact lv_if_gt hex hb hd ht (fun _ => kk ls H locs hI) (fun z => absurd ((am_lt32 (by rfl : am_rg 0 = true) hq.2.1).mpr (of_decide_eq_true hc)) z)
        · exact lv_if_le hex hb hd ht (fun _ => kk ls H locs hI) (fun z => absurd ((am_le32 hq.2.1 (by rfl : am_rg 0 = true)).mpr (of_decide_eq_true hc)) z)
      · rename_i hc
        obtain rfl := (Sum.inl.inj (Option.some.inj hx)).symm
        have ht0 : (pc : Int) + off = (((pc : Int) + off).toNat : Int) := by have hz := hq.2.2; omega
        cases cc
        · exact lv_if_eq (tgt := ((pc : Int) + off).toNat) hex hb hd ht0 (fun z => absurd (decide_eq_true ((am_eq32 hq.2.1 (by rfl : am_rg 0 = true)).mp z)) hc) (fun _ => kk ls H locs hI)
        · exact lv_if_ne (tgt := ((pc : Int) + off).toNat) hex hb hd ht0 (fun z => absurd (decide_eq_true (p := ¬ x = 0) (fun w => z ((am_eq32 hq.2.1 (by rfl : am_rg 0 = true)).mpr w))) hc) (fun _ => kk ls H locs hI)
        · exact lv_if_lt (tgt := ((pc : Int) + off).toNat) hex hb hd ht0 (fun z => absurd (decide_eq_true ((am_lt32 hq.2.1 (by rfl : am_rg 0 = true)).mp z)) hc) (fun _ => kk ls H locs hI)
        · exact lv_if_ge (tgt := ((pc : Int) + off).toNat) hex hb hd ht0 (fun z => absurd (decide_eq_true ((am_le32 (by rfl : am_rg 0 = true) hq.2.1).mp z)) hc) (fun _ => kk ls H locs hI)
        · exact lv_if_gt (tgt := ((pc : Int) + off).toNat) hex hb hd ht0 (fun z => absurd (decide_eq_true ((am_lt32 (by rfl : am_rg 0 = true) hq.2.1).mp z)) hc) (fun _ => kk ls H locs hI)
        · exact lv_if_le (tgt := ((pc : Int) + off).toNat) hex hb hd ht0 (fun z => absurd (decide_eq_true ((am_le32 hq.2.1 (by rfl : am_rg 0 = true)).mp z)) hc) (fun _ => kk ls H locs hI)
    · cases hx
  · cases hx
theorem sd_if_icmp (cc : Jvm.ClassFile.Cond) (off : Int) : am_SD (.if_icmp cc off) := by
  intro p l e R s m args below meth c Q bs b cA D scr M n0 z0 pc len la st h q ls H locs CX hd hx hI hR kk
  obtain ⟨hex, hb, hml, hown, hts, hK, hfr, hlo, hin⟩ := CX
  simp only [am_ex] at hx
  split at hx
  · rename_i y x r
    split at hx
    · rename_i hq
      obtain ⟨hl, hq⟩ := id hq
      rename_i hq0
      clear hq
      have hq := hq0
      subst hl
      split at hx
      · rename_i hc
        obtain ⟨e1, ht⟩ := am_to_spec hx
        obtain ⟨q1, q2, q3, q4⟩ := q
        simp only [Prod.mk.injEq, true_and] at e1
        obtain ⟨rfl, rfl, rfl⟩ := e1
        cases cc
        · exact lv_icmp_eq hex hb hd ht (fun _ => kk ls H locs hI) (fun z => absurd ((am_eq32 hq.2.1 hq.2.2.1).mpr (of_decide_eq_true hc)) z)
        · exact lv_icmp_ne hex hb hd ht (fun _ => kk ls H locs hI) (fun z => absurd ((am_eq32 hq.2.1 hq.2.2.1).mp z) (of_decide_eq_true hc))
        · exact lv_icmp_lt hex hb hd ht (fun _ => kk ls H locs hI) (fun z => absurd ((am_lt32 hq.2.1 hq.2.2.1).mpr (of_decide_eq_true hc)) z)
        · exact lv_icmp_ge hex hb hd ht (fun _ => kk ls H locs hI) (fun z => absurd ((am_le32 hq.2.2.1 hq.2.1).mpr (of_decide_eq_true hc)) z)
        · exact lv_icmp_gt hex hb hd ht (fun _ => kk ls H locs hI) (fun z => absurd ((am_lt32 hq.2.2.1 hq.2.1).mpr (of_decide_eq_true hc)) z)
        · exact lv_icmp_le hex hb hd ht (fun _ => kk ls H locs hI) (fun z => absurd ((am_le32 hq.2.1 hq.2.2.1).mpr (of_decide_eq_true hc)) z)
      · rename_i hc
        obtain rfl := (Sum.inl.inj (Option.some.inj hx)).symm
        have ht0 : (pc : Int) + off = (((pc : Int) + off).toNat : Int) := by have hz := hq.2.2.2; omega
        cases cc
        · exact lv_icmp_eq (tgt := ((pc : Int) + off).toNat) hex hb hd ht0 (fun z => absurd (decide_eq_true ((am_eq32 hq.2.1 hq.2.2.1).mp z)) hc) (fun _ => kk ls H locs hI)
        · exact lv_icmp_ne (tgt := ((pc : Int) + off).toNat) hex hb hd ht0 (fun z => absurd (decide_eq_true (p := ¬ x = y) (fun w => z ((am_eq32 hq.2.1 hq.2.2.1).mpr w))) hc) (fun _ => kk ls H locs hI)
        · exact lv_icmp_lt (tgt := ((pc : Int) + off).toNat) hex hb hd ht0 (fun z => absurd (decide_eq_true ((am_lt32 hq.2.1 hq.2.2.1).mp z)) hc) (fun _ => kk ls H locs hI)
        · exact lv_icmp_ge (tgt := ((pc : Int) + off).toNat) hex hb hd ht0 (fun z => absurd (decide_eq_true ((am_le32 hq.2.2.1 hq.2.1).mp z)) hc) (fun _ => kk ls H locs hI)
        · exact lv_icmp_gt (tgt := ((pc : Int) + off).toNat) hex hb hd ht0 (fun z => absurd (decide_eq_true ((am_lt32 hq.2.2.1 hq.2.1).mp z)) hc) (fun _ => kk ls H locs hI)
        · exact lv_icmp_le (tgt := ((pc : Int) + off).toNat) hex hb hd ht0 (fun z => absurd (decide_eq_true ((am_le32 hq.2.1 hq.2.2.1).mp z)) hc) (fun _ => kk ls H locs hI)
    · cases hx
  · cases hx
theorem sd_goto (off : Int) : am_SD (.goto off) := by
  intro p l e R s m args below meth c Q bs b cA D scr M n0 z0 pc len la st h q ls H locs CX hd hx hI hR kk
  obtain ⟨hex, hb, hml, hown, hts, hK, hfr, hlo, hin⟩ := CX
  simp only [am_ex] at hx
  split at hx
  · rename_i hl
    subst hl
    obtain ⟨e1, ht⟩ := am_to_spec hx
    obtain ⟨q1, q2, q3, q4⟩ := q
    simp only [Prod.mk.injEq, true_and] at e1
    obtain ⟨rfl, rfl, rfl⟩ := e1
    exact lv_goto hex hb hd ht (kk ls H locs hI)
  · cases hx
theorem sd_tableswitch (d lo hi : Int) (offs : Array Int) : am_SD (.tableswitch d lo hi offs) := by
  intro p l e R s m args below meth c Q bs b cA D scr M n0 z0 pc len la st h q ls H locs CX hd hx hI hR kk
  obtain ⟨hex, hb, hml, hown, hts, hK, hfr, hlo, hin⟩ := CX
  simp only [am_ex] at hx
  split at hx
  · rename_i x r
    split at hx
    · rename_i hq
      have hxi : (Int32.ofInt x).toInt = x := am_o32 (by simpa [am_rg] using hq)
      split at hx
      · rename_i ho
        obtain ⟨e1, ht⟩ := am_to_spec hx
        obtain ⟨q1, q2, q3, q4⟩ := q
        simp only [Prod.mk.injEq, true_and] at e1
        obtain ⟨rfl, rfl, rfl⟩ := e1
        exact lv_tableOut hex hb hd (by rw [hxi]; exact ho) ht (kk ls H locs hI)
      · rename_i ho
        split at hx
        · rename_i off hof
          obtain ⟨e1, ht⟩ := am_to_spec hx
          obtain ⟨q1, q2, q3, q4⟩ := q
          simp only [Prod.mk.injEq, true_and] at e1
          obtain ⟨rfl, rfl, rfl⟩ := e1
          exact lv_tableIn hex hb hd (by rw [hxi]; exact fun z => ho (Or.inl z)) (by rw [hxi]; exact fun z => ho (Or.inr z)) (by rw [hxi]; exact hof) ht (kk ls H locs hI)
        · cases hx
    · cases hx
  · cases hx
theorem sd_lookupswitch (d : Int) (ps : Array (Int × Int)) : am_SD (.lookupswitch d ps) := by
  intro p l e R s m args below meth c Q bs b cA D scr M n0 z0 pc len la st h q ls H locs CX hd hx hI hR kk
  obtain ⟨hex, hb, hml, hown, hts, hK, hfr, hlo, hin⟩ := CX
  simp only [am_ex] at hx
  split at hx
  · rename_i x r
    split at hx
    · rename_i hq
      have hxi : (Int32.ofInt x).toInt = x := am_o32 (by simpa [am_rg] using hq.1)
      obtain ⟨e1, ht⟩ := am_to_spec hx
      obtain ⟨q1, q2, q3, q4⟩ := q
      simp only [Prod.mk.injEq, true_and] at e1
      obtain ⟨rfl, rfl, rfl⟩ := e1
      exact lv_lookup hex hb hd hq.2 (by rw [hxi]) ht (kk ls H locs hI)
    · cases hx
  · cases hx
