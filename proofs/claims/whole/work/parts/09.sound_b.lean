/-! Soundness of the steps on the heap -/
section HWs
variable {bs b : Nat} {cA : Nat → ClassId} {D : va_G} {scr : Cell} {h : am_H} {H : Heap}
theorem am_HW.cell (hw : am_HW bs b cA D scr h H) {a : Nat} (h8 : ∀ n f, h.1 a ≠ cI 8 n f) (h9 : ∀ n f, h.1 a ≠ cI 9 n f) : 1 ≤ a ∧ a < h.2.1 ∧ am_ad bs b a = bs + a ∧ am_CR bs b cA D (h.1 a) H[bs + a]? := by
  obtain ⟨w1, w2, w3, w4, ⟨f, w5, -⟩, w6, w7⟩ := hw
  have ha : a ≠ 0 := fun z => by subst z; exact h9 _ _ w5
  have hn : a < h.2.1 := by
    rcases Nat.lt_or_ge a h.2.1 with q | q
    · exact q
    · obtain ⟨n, f, e⟩ := w7 a q
      exact absurd e (h8 n f)
  exact ⟨by omega, hn, by simp [am_ad, ha], w6 a (by omega) hn⟩
theorem am_HW.put (hw : am_HW bs b cA D scr h H) {a : Nat} (h1 : 1 ≤ a) (h2 : a < h.2.1) {c' : am_C} {H' : Heap} (hz : H'.size = H.size) (ho : ∀ q, q ≠ bs + a → H'[q]? = H[q]?) (hc : am_CR bs b cA D c' H'[bs + a]?) : am_HW bs b cA D scr (hS h a c') H' := by
  obtain ⟨w1, w2, w3, w4, ⟨f, w5, w5'⟩, w6, w7⟩ := hw
  refine ⟨w1, by rw [hz]; exact w2, w3, by rw [ho b (by omega)]; exact w4, ⟨f, by rw [hS_ne (by omega)]; exact w5, w5'⟩, fun x hx1 hx2 => ?_, fun x hx => ?_⟩
  · by_cases hxa : x = a
    · subst hxa; rw [hS_same]; exact hc
    · rw [hS_ne hxa, ho (bs + x) (by omega)]; exact w6 x hx1 hx2
  · have hx' : h.2.1 ≤ x := hx
    rw [hS_ne (by omega)]; exact w7 x hx
theorem am_HW.new (hw : am_HW bs b cA D scr h H) {c' : am_C} {k : Nat} {H' : Heap} (hz : H'.size = H.size + 1) (ho : ∀ q, q < H.size → H'[q]? = H[q]?) (hc : am_CR bs b cA D c' H'[H.size]?) : am_HW bs b cA D scr (hA h c' k) H' := by
  obtain ⟨w1, w2, w3, w4, ⟨f, w5, w5'⟩, w6, w7⟩ := hw
  have e1 : ∀ x, (hA h c' k).1 x = if x = h.2.1 then c' else h.1 x := fun x => rfl
  have e2 : (hA h c' k).2.1 = h.2.1 + 1 := rfl
  refine ⟨by rw [e2]; omega, by rw [hz, e2]; omega, w3, by rw [ho b (by omega)]; exact w4, ⟨f, by rw [e1, if_neg (by omega)]; exact w5, w5'⟩, fun x hx1 hx2 => ?_, fun x hx => ?_⟩
  · rw [e2] at hx2
    rw [e1]
    by_cases hxa : x = h.2.1
    · subst hxa; rw [if_pos rfl, ← w2]; exact hc
    · rw [if_neg hxa, ho (bs + x) (by omega)]; exact w6 x hx1 (by omega)
  · rw [e2] at hx
    rw [e1, if_neg (by omega)]; exact w7 x (by omega)
end HWs
theorem am_ix {i : Int} (h0 : 0 ≤ i) (h1 : i < 2147483648) : ¬ Int32.ofInt i < 0 ∧ (Int32.ofInt i).toNatClampNeg = i.toNat := by
  have e : (Int32.ofInt i).toInt = i := am_o32 (by omega)
  refine ⟨fun z => ?_, ?_⟩
  · have := Int32.lt_iff_toInt_lt.mp z
    rw [e] at this
    have h2 : (0 : Int32).toInt = 0 := rfl
    omega
  · show (Int32.ofInt i).toInt.toNat = i.toNat
    rw [e]
theorem am_ft_spec (bs b : Nat) {ty : FieldType} {v : am_V} (h : am_ft ty v = true) : narrow ty (am_cv bs b v) = am_cv bs b v ∧ fits ty (am_cv bs b v) = true := by
  unfold am_ft at h
  split at h
  · exact ⟨rfl, rfl⟩
  · simp only [Bool.or_eq_true, decide_eq_true_eq] at h
    rcases h with h | h <;> subst h
    · exact ⟨(by decide +kernel : narrow .boolean (.int (Int32.ofInt 0)) = .int (Int32.ofInt 0)), (by decide +kernel : fits .boolean (.int (Int32.ofInt 0)) = true)⟩
    · exact ⟨(by decide +kernel : narrow .boolean (.int (Int32.ofInt 1)) = .int (Int32.ofInt 1)), (by decide +kernel : fits .boolean (.int (Int32.ofInt 1)) = true)⟩
  · exact ⟨rfl, rfl⟩
  · rename_i r
    cases r <;> exact ⟨rfl, rfl⟩
  · rename_i r
    cases r <;> exact ⟨rfl, rfl⟩
  · cases h
theorem am_t5 {cA : Nat → ClassId} {D : va_G} {scr : Cell} {s : State} (hK : am_KW cA D scr s) : (ArrOfT s (cA 0) .int ∧ va_RA s (cA 0) .int) ∧ (ArrOfT s (cA 1) .boolean ∧ va_RA s (cA 1) .boolean) ∧ (ArrOfT s (cA 2) (.object RX5) ∧ va_RA s (cA 2) (.object RX5)) ∧ (ArrOfT s (cA 3) (.object RX3) ∧ va_RA s (cA 3) (.object RX3)) :=
  ⟨hK.1.2 0 _ rfl, hK.1.2 1 _ rfl, hK.1.2 2 _ rfl, hK.1.2 3 _ rfl⟩
theorem sd_getfield (idx : Nat) : am_SD (.getfield idx) := by
  intro p l e R s m args below meth c Q bs b cA D scr M n0 z0 pc len la st h q ls H locs CX hd hx hI hR kk
  obtain ⟨hex, hb, hml, hown, hts, hK, hfr, hlo, hin⟩ := CX
  simp only [am_ex] at hx
  split at hx
  · rename_i ci k a r hfl
    split at hx
    · rename_i c2 fs hc
      split at hx
      · rename_i v hv
        split at hx
        · rename_i hq
          obtain ⟨hl, hci⟩ := hq
          subst hl; subst hci
          obtain rfl := (Sum.inl.inj (Option.some.inj hx)).symm
          obtain ⟨f1, f2, f3⟩ := am_fl_ok hfl
          obtain ⟨a1, a2, a3, a4⟩ := hI.2.1.cell (a := a) (by rw [hc]; intro n f z; cases z) (by rw [hc]; intro n f z; cases z)
          rw [hc] at a4
          obtain ⟨-, g2, cell, g3, g4, g5, g6⟩ := a4
          have hP : va_P D vwCl [(bs + a, .inr (c2, fs.map (am_cv bs b)))] H := by
            intro k' q' hk'
            match k', hk' with
            | 0, hk' =>
              cases hk'
              refine ⟨_, am_cl13 c2 f3, cell, g3, g4, g5, fun j hj => ?_⟩
              have hj' : j < fs.length := by rw [g2]; exact hj
              rw [g6 j fs[j] (List.getElem?_eq_getElem hj')]
              simp [vp_V, hj']
            | n + 1, hk' => simp at hk'
          have k2 := kk ls H locs hI
          simp only [List.map_cons, am_cv, a3] at k2 ⊢
          exact va_get hex hb hts (am_uw f3) hown hK.1 hP 0 rfl (am_cl13 c2 f3) k f2 (hts _ f1) (fun _ z => z) (v := am_cv bs b v) (by rw [List.getElem?_map, hv]; rfl) hd k2
        · cases hx
      · cases hx
    · cases hx
  · cases hx
theorem sd_putfield (idx : Nat) : am_SD (.putfield idx) := by
  intro p l e R s m args below meth c Q bs b cA D scr M n0 z0 pc len la st h q ls H locs CX hd hx hI hR kk
  obtain ⟨hex, hb, hml, hown, hts, hK, hfr, hlo, hin⟩ := CX
  simp only [am_ex] at hx
  split at hx
  · rename_i ci k v a r hfl
    split at hx
    · rename_i c2 fs hc
      split at hx
      · rename_i hq
        obtain ⟨hl, hci, hk, hft, hpu⟩ := hq
        subst hl; subst hci
        obtain rfl := (Sum.inl.inj (Option.some.inj hx)).symm
        obtain ⟨f1, f2, f3⟩ := am_fl_ok hfl
        obtain ⟨a1, a2, a3, a4⟩ := hI.2.1.cell (a := a) (by rw [hc]; intro n f z; cases z) (by rw [hc]; intro n f z; cases z)
        rw [hc] at a4
        obtain ⟨-, g2, cell, g3, g4, g5, g6⟩ := a4
        obtain ⟨n1, n2⟩ := am_ft_spec bs b hft
        have hcl := am_cl13 c2 f3
        have hap := va_apart (own := am_cn (am_oc M)) hts (am_uw f3) (am_ty c2) (am_ty13 c2 f3) (am_nm13 c2 f3) hK.1 hcl
        obtain ⟨hSl, hfc, kC, hkC, hkind⟩ := hK.1.1 c2 _ hcl
        obtain ⟨cf, kf, fi, f, hi, hsl⟩ := hSl k f2
        have hlay := hts _ (am_uw f3 _ (u_in_lay f2))
        have hst := (u_facts hfc hkC (u_lays hts (am_uw f3) f2) hi).1
        have q4 : ∀ j, j < am_nf c2 → cell.slots[D.2 c2 j]? = some (vp_V (fs.map (am_cv bs b)) j) := fun j hj => by
          have hj' : j < fs.length := by rw [g2]; exact hj
          rw [g6 j fs[j] (List.getElem?_eq_getElem hj')]
          simp [vp_V, hj']
        have fin : ∀ H' : Heap, H'[bs + a]? = some (cell.setSlot (D.2 c2 k) (am_cv bs b v)) → H'.size = H.size → (∀ q, q ≠ bs + a → H'[q]? = H[q]?) → W p l e R s m args below meth c H' (locs ++ [⟨bs + a, D.2 c2 k⟩]) (h.2.1 - n0) (h.2.2 - z0) Q (F0 m (pc + 3) ls (r.map (am_cv bs b))) := by
          intro H' e1 e2 e3
          refine kk ls H' _ ⟨hI.1, hI.2.1.put a1 a2 e2 e3 ?_, fun w hw => ?_, hI.2.2.2⟩
          · refine ⟨f3, by rw [List.length_set]; exact g2, _, e1, g4, g5, fun j w hw => ?_⟩
            have hj : j < am_nf c2 := by rw [← g2, ← List.length_set (as := fs) (i := k) (a := v)]; exact (List.getElem?_eq_some_iff.mp hw).1
            rw [t_set q4 hap f2 (am_cv bs b v) j hj]
            unfold updV
            by_cases hjk : j = k
            · subst hjk
              rw [List.getElem?_set_self hk] at hw
              cases hw
              simp
            · rw [List.getElem?_set_ne (Ne.symm hjk)] at hw
              rw [if_neg hjk]
              simp [vp_V, hw]
          · rcases List.mem_append.mp hw with w1 | w1
            · exact hI.2.2.1 w w1
            · rw [List.mem_singleton.mp w1]
              show bs < bs + a
              omega
        simp only [List.map_cons, am_cv, a3] at fin ⊢
        unfold am_pu at hpu
        unfold u_lay at hlay
        by_cases hfinal : (am_T c2 k).2.2.2 = true
        · rw [if_pos hfinal] at hpu hlay
          simp only [Bool.and_eq_true, decide_eq_true_eq] at hpu
          have hcf : m.cls = cf := by
            obtain ⟨_, _, c', _, _, _, -, -, hf', -, -, -, hown2, -⟩ := Cond.laysFinal_spec hlay
            have e1 : c' = cf := by have := hi.symm.trans hf'; simp at this; exact this.1.symm
            rw [hpu.2] at hown2
            rw [← e1]; exact Option.some.inj (hown.symm.trans hown2)
          have h6 := u_fits hfc hkC hkind (Or.inr hlay) hi (am_ty13 c2 f3 k f2) n1 n2
          refine W.putFinK hex hb hown (hts _ f1) hi hst hcf (hin hpu.1) (by rw [g4]; exact h6) g3 g5 (by rw [hsl]; exact k2_hasslot (q4 k f2)) rfl rfl hd fun H' e1 e2 e3 => ?_
          rw [hsl] at e1 ⊢
          exact fin H' e1 e2 e3
        · rw [if_neg hfinal] at hlay
          have h6 := u_store hfc hkC hkind hlay hi (am_ty13 c2 f3 k f2) n1 n2
          refine W.putK hex hb (f := f) ⟨hown, hts _ f1, ⟨_, _, _, hi⟩, hst⟩ (by rw [g4]; exact h6) g3 g5 (by rw [hsl]; exact k2_hasslot (q4 k f2)) rfl rfl hd fun H' e1 e2 e3 => ?_
          rw [hsl] at e1 ⊢
          exact fin H' e1 e2 e3
      · cases hx
    · cases hx
  · cases hx
theorem sd_iaload : am_SD (.iaload) := by
  intro p l e R s m args below meth c Q bs b cA D scr M n0 z0 pc len la st h q ls H locs CX hd hx hI hR kk
  obtain ⟨hex, hb, hml, hown, hts, hK, hfr, hlo, hin⟩ := CX
  simp only [am_ex] at hx
  split at hx
  · rename_i i a r
    split at hx
    · rename_i t n f hc
      split at hx
      · rename_i hq
        obtain ⟨hl, ht, h0, h1, h2⟩ := hq
        subst hl
        obtain rfl := (Sum.inl.inj (Option.some.inj hx)).symm
        obtain ⟨i1, i2⟩ := am_ix h0 h2
        have k2 := kk ls H locs hI
        rcases ht with ht | ht
        · subst ht
          obtain ⟨a1, a2, a3, a4⟩ := hI.2.1.cell (a := a) (by rw [hc]; intro n f z; cases z) (by rw [hc]; intro n f z; cases z)
          rw [hc] at a4
          simp only [List.map_cons, am_cv, a3] at k2 ⊢
          refine W.iald hex hb a4.2 ((am_t5 hK).1.1 n _) (fun z => by cases z) (by rw [arrV_size, i2]; exact fun z => z.elim i1 (fun y => by omega)) (v := .int (Int32.ofInt (f i.toNat))) ?_ rfl rfl hd k2
          rw [i2, arrV_read _ _ (by omega)]
        · subst ht
          have ha : a = 0 := by
            obtain ⟨w1, w2, w3, w4, w5, w6, w7⟩ := hI.2.1
            rcases Nat.eq_zero_or_pos a with z | z
            · exact z
            · rcases Nat.lt_or_ge a h.2.1 with y | y
              · have := w6 a z y
                rw [hc] at this
                have := this.1
                omega
              · obtain ⟨n', f', e'⟩ := w7 a y
                rw [hc] at e'
                cases e'
          subst ha
          obtain ⟨w1, w2, w3, w4, ⟨f', w5, w5'⟩, w6, w7⟩ := hI.2.1
          rw [hc] at w5
          cases w5
          have e0 : am_ad bs b 0 = b := rfl
          simp only [List.map_cons, am_cv, e0] at k2 ⊢
          refine W.iald hex hb w4 hK.2.2.2.2.1 hK.2.2.2.2.2 (by rw [i2]; exact fun z => z.elim i1 (fun y => by omega)) (v := .int (Int32.ofInt (f i.toNat))) ?_ rfl rfl hd k2
          rw [i2, w5' _ (by omega)]
      · cases hx
    · cases hx
  · cases hx
theorem am_upI {f : Nat → Int} {k : Nat} {x : Int} : updV (fun j => Value.int (Int32.ofInt (f j))) k (.int (Int32.ofInt x)) = fun j => Value.int (Int32.ofInt (if j = k then x else f j)) := by
  funext j
  unfold updV
  by_cases q : j = k <;> simp [q]
theorem sd_iastore : am_SD (.iastore) := by
  intro p l e R s m args below meth c Q bs b cA D scr M n0 z0 pc len la st h q ls H locs CX hd hx hI hR kk
  obtain ⟨hex, hb, hml, hown, hts, hK, hfr, hlo, hin⟩ := CX
  simp only [am_ex] at hx
  split at hx
  · rename_i x i a r
    split at hx
    · rename_i t n f hc
      split at hx
      · rename_i hq
        obtain ⟨hl, ht, h0, h1, h2⟩ := hq
        subst hl; subst ht
        obtain rfl := (Sum.inl.inj (Option.some.inj hx)).symm
        obtain ⟨i1, i2⟩ := am_ix h0 h2
        obtain ⟨a1, a2, a3, a4⟩ := hI.2.1.cell (a := a) (by rw [hc]; intro n f z; cases z) (by rw [hc]; intro n f z; cases z)
        rw [hc] at a4
        simp only [List.map_cons, am_cv, a3]
        refine W.iast hex hb a4.2 ((am_t5 hK).1.1 n _) (fun z => by cases z) (by rw [arrV_size, i2]; exact fun z => z.elim i1 (fun y => by omega)) rfl rfl hd fun H' e1 e2 e3 => ?_
        refine kk ls H' _ ⟨hI.1, hI.2.1.put a1 a2 e2 e3 ⟨Nat.le_of_ble_eq_true rfl, ?_⟩, fun w hw => ?_, hI.2.2.2⟩
        · rw [e1, arrV_store, i2, am_upI]
        · rcases List.mem_append.mp hw with w1 | w1
          · exact hI.2.2.1 w w1
          · rw [List.mem_singleton.mp w1]
            show bs < bs + a
            omega
      · cases hx
    · cases hx
  · cases hx
theorem sd_baload : am_SD (.baload) := by
  intro p l e R s m args below meth c Q bs b cA D scr M n0 z0 pc len la st h q ls H locs CX hd hx hI hR kk
  obtain ⟨hex, hb, hml, hown, hts, hK, hfr, hlo, hin⟩ := CX
  simp only [am_ex] at hx
  split at hx
  · rename_i i a r
    split at hx
    · rename_i t n f hc
      split at hx
      · rename_i hq
        obtain ⟨hl, ht, h0, h1, h2⟩ := hq
        subst hl; subst ht
        obtain rfl := (Sum.inl.inj (Option.some.inj hx)).symm
        obtain ⟨i1, i2⟩ := am_ix h0 h2
        have k2 := kk ls H locs hI
        obtain ⟨a1, a2, a3, a4⟩ := hI.2.1.cell (a := a) (by rw [hc]; intro n f z; cases z) (by rw [hc]; intro n f z; cases z)
        rw [hc] at a4
        simp only [List.map_cons, am_cv, a3] at k2 ⊢
        refine W.zald hex hb a4.2 ((am_t5 hK).2.1.1 n _) (fun z => by cases z) (by rw [arrV_size, i2]; exact fun z => z.elim i1 (fun y => by omega)) (v := .int (Int32.ofInt (f i.toNat))) ?_ rfl rfl hd k2
        rw [i2, arrV_read _ _ (by omega)]
      · cases hx
    · cases hx
  · cases hx
theorem sd_bastore : am_SD (.bastore) := by
  intro p l e R s m args below meth c Q bs b cA D scr M n0 z0 pc len la st h q ls H locs CX hd hx hI hR kk
  obtain ⟨hex, hb, hml, hown, hts, hK, hfr, hlo, hin⟩ := CX
  simp only [am_ex] at hx
  split at hx
  · rename_i x i a r
    split at hx
    · rename_i t n f hc
      split at hx
      · rename_i hq
        obtain ⟨hl, ht, hx01, h0, h1, h2⟩ := hq
        subst hl; subst ht
        obtain rfl := (Sum.inl.inj (Option.some.inj hx)).symm
        obtain ⟨i1, i2⟩ := am_ix h0 h2
        obtain ⟨a1, a2, a3, a4⟩ := hI.2.1.cell (a := a) (by rw [hc]; intro n f z; cases z) (by rw [hc]; intro n f z; cases z)
        rw [hc] at a4
        have hnar : narrow .boolean (.int (Int32.ofInt x)) = .int (Int32.ofInt x) := by
          rcases hx01 with z | z <;> subst z <;> decide +kernel
        simp only [List.map_cons, am_cv, a3]
        refine W.zast hex hb a4.2 ((am_t5 hK).2.1.1 n _) (fun z => by cases z) (by rw [arrV_size, i2]; exact fun z => z.elim i1 (fun y => by omega)) rfl rfl hd fun H' e1 e2 e3 => ?_
        refine kk ls H' _ ⟨hI.1, hI.2.1.put a1 a2 e2 e3 ⟨Nat.le_of_ble_eq_true rfl, ?_⟩, fun w hw => ?_, hI.2.2.2⟩
        · rw [e1, hnar, arrV_store, i2, am_upI]
        · rcases List.mem_append.mp hw with w1 | w1
          · exact hI.2.2.1 w w1
          · rw [List.mem_singleton.mp w1]
            show bs < bs + a
            omega
      · cases hx
    · cases hx
  · cases hx
theorem am_cv_r (bs b : Nat) (r : Option Nat) : am_cv bs b (.inr (.inr (.inl r))) = am_rv bs b r := by cases r <;> rfl
theorem sd_aaload : am_SD (.aaload) := by
  intro p l e R s m args below meth c Q bs b cA D scr M n0 z0 pc len la st h q ls H locs CX hd hx hI hR kk
  obtain ⟨hex, hb, hml, hown, hts, hK, hfr, hlo, hin⟩ := CX
  simp only [am_ex] at hx
  split at hx
  · rename_i i a r
    split at hx
    · rename_i t n f hc
      split at hx
      · rename_i hq
        obtain ⟨hl, h0, h1, h2⟩ := hq
        subst hl
        obtain rfl := (Sum.inl.inj (Option.some.inj hx)).symm
        obtain ⟨i1, i2⟩ := am_ix h0 h2
        have k2 := kk ls H locs hI
        obtain ⟨a1, a2, a3, a4⟩ := hI.2.1.cell (a := a) (by rw [hc]; intro n f z; cases z) (by rw [hc]; intro n f z; cases z)
        rw [hc] at a4
        simp only [List.map_cons, am_cv_r] at k2
        simp only [List.map_cons, am_cv, a3]
        obtain ⟨ht, a4⟩ := a4
        rcases ht with ht | ht <;> subst ht
        · refine W.aald hex hb a4 ((am_t5 hK).2.2.1.1 n _) rfl (fun z => by cases z) (by rw [arrV_size, i2]; exact fun z => z.elim i1 (fun y => by omega)) (v := am_rv bs b (f i.toNat)) ?_ rfl rfl hd k2
          rw [i2, arrV_read _ _ (by omega)]
        · refine W.aald hex hb a4 ((am_t5 hK).2.2.2.1 n _) rfl (fun z => by cases z) (by rw [arrV_size, i2]; exact fun z => z.elim i1 (fun y => by omega)) (v := am_rv bs b (f i.toNat)) ?_ rfl rfl hd k2
          rw [i2, arrV_read _ _ (by omega)]
      · cases hx
    · cases hx
  · cases hx
theorem sd_arraylength : am_SD (.arraylength) := by
  intro p l e R s m args below meth c Q bs b cA D scr M n0 z0 pc len la st h q ls H locs CX hd hx hI hR kk
  obtain ⟨hex, hb, hml, hown, hts, hK, hfr, hlo, hin⟩ := CX
  simp only [am_ex] at hx
  split at hx
  · rename_i a r
    split at hx
    · rename_i t n f hc
      split at hx
      · rename_i hq
        obtain ⟨hl, ht⟩ := hq
        subst hl; subst ht
        obtain rfl := (Sum.inl.inj (Option.some.inj hx)).symm
        have k2 := kk ls H locs hI
        have ha : a = 0 := by
          obtain ⟨w1, w2, w3, w4, w5, w6, w7⟩ := hI.2.1
          rcases Nat.eq_zero_or_pos a with z | z
          · exact z
          · rcases Nat.lt_or_ge a h.2.1 with y | y
            · have := w6 a z y
              rw [hc] at this
              have := this.1
              omega
            · obtain ⟨n', f', e'⟩ := w7 a y
              rw [hc] at e'
              cases e'
        subst ha
        obtain ⟨w1, w2, w3, w4, ⟨f', w5, w5'⟩, w6, w7⟩ := hI.2.1
        rw [hc] at w5
        cases w5
        have e0 : am_ad bs b 0 = b := rfl
        simp only [List.map_cons, am_cv, e0] at k2 ⊢
        refine W.alen (n := Int32.ofInt (scr.slots.size : Int)) hex hb w4 hK.2.2.2.2.1 ?_ rfl rfl hd k2
        first | rfl | exact (Int32.ofInt_natCast _).symm | simp
      · cases hx
    · cases hx
  · cases hx
