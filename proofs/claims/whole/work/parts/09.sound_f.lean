/-! Soundness: natives, Object.<init>; then the run as a whole -/
set_option maxHeartbeats 1000000 in
theorem sd_invokestatic (idx : Nat) : am_SD (.invokestatic idx) := by
  intro p l e R s m args below meth c Q bs b cA D scr M n0 z0 pc len la st h q ls H locs CX hd hx hI hR kk
  obtain ⟨hex, hb, hml, hown, hts, hK, hfr, hlo, hin⟩ := CX
  simp only [am_ex] at hx
  split at hx
  · split at hx
    · exact absurd hx (am_call_no (q := .inl q))
    · cases hx
  · split at hx
    · exact absurd hx (am_call_no (q := .inl q))
    · cases hx
  · rename_i y hst
    split at hx
    · rename_i n dp a sp a0
      split at hx
      · rename_i t0 k0 f0 t1 k1 f1 hc0 hc1
        split at hx
        · rename_i hq
          obtain ⟨hl, r0, r1, r2, r3, h0, h1, h2, h3, w1, w2⟩ := hq
          subst hl; subst r0; subst r1; subst r2; subst r3
          obtain rfl := (Sum.inl.inj (Option.some.inj hx)).symm
          obtain ⟨pl, hok⟩ := am_st_ok hst
          simp only [am_okS, am_ok9, Bool.and_eq_true, decide_eq_true_eq] at hok
          obtain ⟨⟨⟨o1, o2⟩, o3⟩, o4⟩ := hok
          obtain ⟨i1, i2⟩ := am_ix h0 h3
          obtain ⟨z1, z2⟩ := am_ix (i := 0) (by omega) (by omega)
          obtain ⟨a1, a2, a3, a4⟩ := hI.2.1.cell (a := a) (by rw [hc1]; intro n f z; cases z) (by rw [hc1]; intro n f z; cases z)
          obtain ⟨b1, b2, b3, b4⟩ := hI.2.1.cell (a := a0) (by rw [hc0]; intro n f z; cases z) (by rw [hc0]; intro n f z; cases z)
          rw [hc1] at a4
          rw [hc0] at b4
          obtain ⟨-, kA, hkA, cm, hkk⟩ := (am_t5 hK).1.1 0 (fun _ => .null)
          simp only [List.map_cons, List.map_nil, am_cv, a3, b3]
          intro T hT X
          have e0 : (Int32.ofInt 0).toInt = 0 := rfl
          have en : (Int32.ofInt n).toInt = n := am_o32 (by omega)
          obtain ⟨vm', X', step⟩ := X.arraycopy hex hown (hts _ (am_pG o1 rfl)) (hts _ (am_pG o2 rfl)) (hts _ (am_pG o3 rfl)) (hts _ (am_pG o4 rfl)) (src := bs + a0) (dst := bs + a) (cs := arrV (cA 0) k0 (fun j => Value.int (Int32.ofInt (f0 j)))) (cd := arrV (cA 0) k1 (fun j => Value.int (Int32.ofInt (f1 j)))) (srcPos := Int32.ofInt 0) (destPos := Int32.ofInt 0) (n := Int32.ofInt n) (by rw [hT]; exact b4.2) (by rw [hT]; exact a4.2)
            (fun _ z => by cases z) (fun _ z => by cases z) (fun z => by cases z) (fun z => by cases z) hkA hkA hkk hkk rfl z1 z1 i1
            (by rw [e0, en, arrV_size]; omega) (by rw [e0, en, arrV_size]; omega)
            (fun vm₁ _ i hi => by
              have ev : (arrV (cA 0) k0 (fun j => Value.int (Int32.ofInt (f0 j)))).slots.getD ((Int32.ofInt 0).toNatClampNeg + i) .null = .int (Int32.ofInt (f0 ((Int32.ofInt 0).toNatClampNeg + i))) := by
                rw [i2] at hi
                rw [Array.getD_eq_getD_getElem?, arrV_read _ _ (by rw [z2]; simp; omega)]
                rfl
              rw [ev]
              exact ⟨rfl, trivial⟩)
            (g := F0 m pc ls [.int (Int32.ofInt n), .int (Int32.ofInt 0), .ref (bs + a), .int (Int32.ofInt 0), .ref (bs + a0)]) rfl (by rw [hml]; exact hI.1.2.1) (rest := []) rfl (by rw [hb]; exact hd) (Nat.le_trans w1 hfr) (by show 2 * 0 + 0 + (nativeFrameWords "java/lang/System" "arraycopy" 5 + 11) ≤ R.locals; have : nativeFrameWords "java/lang/System" "arraycopy" 5 = 7 := (by decide +kernel); omega)
          have e1 : copied (arrV (cA 0) k0 (fun j => Value.int (Int32.ofInt (f0 j)))) (arrV (cA 0) k1 (fun j => Value.int (Int32.ofInt (f1 j)))) (Int32.ofInt 0) (Int32.ofInt 0) (Int32.ofInt n) = arrV (cA 0) k1 (fun j => Value.int (Int32.ofInt (if j < n.toNat then f0 j else f1 j))) := by
            have hv := va_copied (fun z => Value.int z) (cA 0) (cA 0) (n0 := k0) (n1 := k1) (sp := 0) (dp := 0) (n := n.toNat) (fun j => Int32.ofInt (f0 j)) (fun j => Int32.ofInt (f1 j)) (by omega)
            have hv2 : copied (arrV (cA 0) k0 (fun j => Value.int (Int32.ofInt (f0 j)))) (arrV (cA 0) k1 (fun j => Value.int (Int32.ofInt (f1 j)))) (Int32.ofInt 0) (Int32.ofInt 0) (Int32.ofInt n) = (arrV (cA 0) k1 (fun j => Value.int (Int32.ofInt (f1 j)))).storeRun 0 ((arrV (cA 0) k0 (fun j => Value.int (Int32.ofInt (f0 j)))).stretch 0 n.toNat) := by
              show (arrV _ _ _).storeRun (Int32.ofInt 0).toNatClampNeg ((arrV _ _ _).stretch (Int32.ofInt 0).toNatClampNeg (Int32.ofInt n).toNatClampNeg) = _
              rw [i2, z2]; rfl
            rw [hv2, hv]
            congr 1
            funext j
            simp only [va_cpy]
            by_cases hj : j < n.toNat
            · simp [hj]
            · simp [hj]
          rw [e1] at X' step
          have hal : bs + a < T.heap.size := by rw [hT, hI.2.1.2.1]; omega
          obtain ⟨t, y1, y2⟩ := kk ls ((T.setVm vm').setCell (bs + a) (arrV (cA 0) k1 (fun j => Value.int (Int32.ofInt (if j < n.toNat then f0 j else f1 j))))).heap _ ⟨hI.1, hI.2.1.put (c' := cI 0 k1 (fun j => if j < n.toNat then f0 j else f1 j)) a1 a2 (by rw [size_setCell]; show T.heap.size = _; rw [hT]) (fun q hq => by rw [heapAt_setCell_ne _ (Ne.symm hq)]; show T.heap[q]? = _; rw [hT]) ⟨Nat.le_of_ble_eq_true rfl, heapAt_setCell_self _ hal⟩, fun w hw => by
              rcases List.mem_append.mp hw with w1 | w1
              · exact hI.2.2.1 w w1
              · obtain ⟨z, -, hz⟩ := List.mem_map.mp w1
                rw [← hz]
                show bs < bs + a
                omega, hI.2.2.2⟩ _ rfl X'
          exact ⟨t, step t y1, y2⟩
        · cases hx
      · cases hx
    · cases hx
  · rename_i y0 hst
    split at hx
    · rename_i y x r
      split at hx
      · rename_i hq
        obtain ⟨hl, hr, w1, w2, hrx, hry⟩ := hq
        subst hl
        obtain rfl := (Sum.inl.inj (Option.some.inj hx)).symm
        obtain ⟨pl, hok⟩ := am_st_ok hst
        simp only [am_okS, am_ok10, Bool.and_eq_true, decide_eq_true_eq] at hok
        obtain ⟨⟨⟨o1, o2⟩, o3⟩, o4⟩ := hok
        have k2 := kk ls H locs hI
        have hR1 : h.2.1 - n0 ≤ R.cells := hR.1
        have hR2 : h.2.2 - z0 ≤ R.slots := hR.2
        have hsum := am_sum (bs := bs) (b := b) hr
        simp only [List.map_cons, am_cv] at k2 ⊢
        refine va_mmax hex hb (by rw [hml]; exact hI.1.2.1.symm) hown (hts _ (am_pG o1 rfl)) (hts _ (am_pG o2 rfl)) (hts _ (am_pG o3 rfl)) (hts _ (am_pG o4 rfl)) (Nat.le_trans w1 hfr) (by omega) hR1 hR2 hd ?_
        rw [show (if Int32.ofInt x < Int32.ofInt y then Int32.ofInt y else Int32.ofInt x) = Int32.ofInt (if x < y then y else x) by
          by_cases z : x < y
          · rw [if_pos z, if_pos ((am_lt32 hrx hry).mpr z)]
          · rw [if_neg z, if_neg (fun u => z ((am_lt32 hrx hry).mp u))]]
        exact k2
      · cases hx
    · cases hx
  · rename_i y0 hst
    split at hx
    · rename_i y x r
      split at hx
      · rename_i hq
        obtain ⟨hl, hr, w1, w2, hrx, hry⟩ := hq
        subst hl
        obtain rfl := (Sum.inl.inj (Option.some.inj hx)).symm
        obtain ⟨pl, hok⟩ := am_st_ok hst
        simp only [am_okS, am_ok11, Bool.and_eq_true, decide_eq_true_eq] at hok
        obtain ⟨⟨⟨o1, o2⟩, o3⟩, o4⟩ := hok
        have k2 := kk ls H locs hI
        have hR1 : h.2.1 - n0 ≤ R.cells := hR.1
        have hR2 : h.2.2 - z0 ≤ R.slots := hR.2
        have hsum := am_sum (bs := bs) (b := b) hr
        simp only [List.map_cons, am_cv] at k2 ⊢
        refine va_mmin hex hb (by rw [hml]; exact hI.1.2.1.symm) hown (hts _ (am_pG o1 rfl)) (hts _ (am_pG o2 rfl)) (hts _ (am_pG o3 rfl)) (hts _ (am_pG o4 rfl)) (Nat.le_trans w1 hfr) (by omega) hR1 hR2 hd ?_
        rw [show (if Int32.ofInt y < Int32.ofInt x then Int32.ofInt y else Int32.ofInt x) = Int32.ofInt (if y < x then y else x) by
          by_cases z : y < x
          · rw [if_pos z, if_pos ((am_lt32 hry hrx).mpr z)]
          · rw [if_neg z, if_neg (fun u => z ((am_lt32 hry hrx).mp u))]]
        exact k2
      · cases hx
    · cases hx
  · cases hx
theorem sd_invokevirtual (idx : Nat) : am_SD (.invokevirtual idx) := by
  intro p l e R s m args below meth c Q bs b cA D scr M n0 z0 pc len la st h q ls H locs CX hd hx hI hR kk
  simp only [am_ex] at hx
  split at hx
  · split at hx
    · exact absurd hx (am_call_no (q := .inl q))
    · cases hx
  · split at hx
    · split at hx
      · exact absurd hx (am_call_no (q := .inl q))
      · cases hx
    · cases hx
  · cases hx
theorem sd_invokespecial (idx : Nat) : am_SD (.invokespecial idx) := by
  intro p l e R s m args below meth c Q bs b cA D scr M n0 z0 pc len la st h q ls H locs CX hd hx hI hR kk
  obtain ⟨hex, hb, hml, hown, hts, hK, hfr, hlo, hin⟩ := CX
  simp only [am_ex] at hx
  split at hx
  · split at hx
    · exact absurd hx (am_call_no (q := .inl q))
    · cases hx
  · split at hx
    · exact absurd hx (am_call_no (q := .inl q))
    · cases hx
  · split at hx
    · exact absurd hx (am_call_no (q := .inl q))
    · cases hx
  · rename_i y hst
    split at hx
    · rename_i a r
      split at hx
      · rename_i hq
        obtain ⟨hl, hr, w1, w2⟩ := hq
        subst hl
        obtain rfl := (Sum.inl.inj (Option.some.inj hx)).symm
        obtain ⟨pl, hok⟩ := am_st_ok hst
        simp only [am_okS, am_ok8, Bool.and_eq_true, decide_eq_true_eq] at hok
        obtain ⟨⟨o1, o2⟩, o3⟩ := hok
        have hsum := am_sum (bs := bs) (b := b) hr
        simp only [List.map_cons, am_cv]
        exact W.objInit hex hb hown (hts _ (am_pG o1 rfl)) (hts _ (am_pG o2 rfl)) (hts _ (am_pG o3 rfl)) rfl (by rw [hml]; exact hI.1.2.1) rfl hd (Nat.le_trans w1 hfr) (by have e : (F0 m pc ls (Value.ref (am_ad bs b a) :: r.map (am_cv bs b))).monitorRoom = 0 := rfl; rw [e]; omega) (kk ls H locs hI)
      · cases hx
    · cases hx
  · cases hx
