/-! Soundness: references stored, cells made, natives -/
theorem am_upR {bs b : Nat} {f : Nat → Option Nat} {k v : Nat} : updV (fun j => am_rv bs b (f j)) k (.ref (am_ad bs b v)) = fun j => am_rv bs b (if j = k then some v else f j) := by
  funext j
  unfold updV
  by_cases q : j = k <;> simp [q, am_rv]
/-- places of castable words -/
theorem am_cst : (lw_tbl[975]? = some (Cond.castable (am_cn 9) RX3) ∧ lw_tbl[976]? = some (Cond.castable (am_cn 0) RX3)) ∧ lw_tbl[977]? = some (Cond.castable (am_cn 1) RX3) ∧ lw_tbl[978]? = some (Cond.castable (am_cn 4) RX3) ∧ lw_tbl[979]? = some (Cond.castable (am_cn 10) RX3) := by
  refine ⟨⟨?_, ?_⟩, ?_, ?_, ?_⟩ <;> decide +kernel
theorem am_asg {cA : Nat → ClassId} {D : va_G} {scr : Cell} {s : State} (hK : am_KW cA D scr s) {c2 : Nat} (h : c2 = 0 ∨ c2 = 1 ∨ c2 = 3 ∨ c2 = 4 ∨ c2 = 9 ∨ c2 = 10) {comp : ClassId} (hc : s.vm.findClass RX3 = some comp) : s.vm.assignable (D.1 c2) comp = true := by
  have key : ∀ i, i ∈ am_NW → lw_tbl[i]? = some (Cond.castable (am_cn c2) RX3) → c2 < 13 → s.vm.assignable (D.1 c2) comp = true := by
    intro i hi hw h13
    obtain ⟨c0, t1, f1, f2, f3⟩ := Cond.castable_spec (va_Nw.use (A := #[]) rfl (hK.2.1 i hi _ hw))
    have hcl := (hK.1.1 c2 _ (am_cl13 c2 h13)).2.1
    cases hcl.symm.trans f1
    cases hc.symm.trans f2
    exact f3
  rcases h with h | h | h | h | h | h <;> subst h
  · exact key 976 (by decide) am_cst.1.2 (by decide)
  · exact key 977 (by decide) am_cst.2.1 (by decide)
  · have hcl := (hK.1.1 3 _ (am_cl13 3 (by decide))).2
    cases hcl.1.symm.trans hc
    exact va_assign hcl
  · exact key 978 (by decide) am_cst.2.2.1 (by decide)
  · exact key 975 (by decide) am_cst.1.1 (by decide)
  · exact key 979 (by decide) am_cst.2.2.2 (by decide)
theorem sd_aastore : am_SD (.aastore) := by
  intro p l e R s m args below meth c Q bs b cA D scr M n0 z0 pc len la st h q ls H locs CX hd hx hI hR kk
  obtain ⟨hex, hb, hml, hown, hts, hK, hfr, hlo, hin⟩ := CX
  simp only [am_ex] at hx
  split at hx
  · rename_i v i a r
    split at hx
    · rename_i t n f c2 fs hc hcv
      split at hx
      · rename_i hq
        obtain ⟨hl, h0, h1, h2, ht⟩ := hq
        subst hl
        obtain rfl := (Sum.inl.inj (Option.some.inj hx)).symm
        obtain ⟨i1, i2⟩ := am_ix h0 h2
        obtain ⟨a1, a2, a3, a4⟩ := hI.2.1.cell (a := a) (by rw [hc]; intro n f z; cases z) (by rw [hc]; intro n f z; cases z)
        obtain ⟨v1, v2, v3, v4⟩ := hI.2.1.cell (a := v) (by rw [hcv]; intro n f z; cases z) (by rw [hcv]; intro n f z; cases z)
        rw [hc] at a4
        rw [hcv] at v4
        obtain ⟨v5, -, cell, g3, g4, g5, -⟩ := v4
        obtain ⟨hKs, hfc, kC, hkC, hkind⟩ := hK.1.1 c2 _ (am_cl13 c2 v5)
        have e4 : am_cv bs b (vR v) = .ref (bs + v) := by show Value.ref (am_ad bs b v) = _; rw [v3]
        have fin : ∀ H' : Heap, H'[bs + a]? = some ((arrV (cA t) n (fun j => am_rv bs b (f j))).setSlot (Int32.ofInt i).toNatClampNeg (.ref (bs + v))) → H'.size = H.size → (∀ q, q ≠ bs + a → H'[q]? = H[q]?) → W p l e R s m args below meth c H' (locs ++ [⟨bs + a, (Int32.ofInt i).toNatClampNeg⟩]) (h.2.1 - n0) (h.2.2 - z0) Q (F0 m (pc + 1) ls (r.map (am_cv bs b))) := by
          intro H' e1 e2 e3
          refine kk ls H' _ ⟨hI.1, hI.2.1.put a1 a2 e2 e3 ⟨a4.1, ?_⟩, fun w hw => ?_, hI.2.2.2⟩
          · rw [e1, arrV_store, i2, ← v3, am_upR]
          · rcases List.mem_append.mp hw with w1 | w1
            · exact hI.2.2.1 w w1
            · rw [List.mem_singleton.mp w1]
              show bs < bs + a
              omega
        simp only [List.map_cons, am_cv, a3, v3]
        rcases ht with ⟨ht, hc5⟩ | ⟨ht, hc3⟩
        · subst ht; subst hc5
          obtain ⟨kA, comp, k1, k2, k3, -⟩ := (am_t5 hK).2.2.1.2
          have hcomp : comp = D.1 5 := Option.some.inj (k3.symm.trans hfc)
          subst hcomp
          exact W.aast hex hb a4.2 (fun q z => by cases z) (fun z => by cases z) k1 k2 rfl hkC ⟨i1, by rw [arrV_size, i2]; omega⟩ g3 (fun q z => by rw [g5] at z; cases z) (by rw [g4]; exact hkC) (by rw [g4]; exact va_assign ⟨hfc, kC, hkC, hkind⟩) rfl rfl hd fin
        · subst ht
          obtain ⟨kA, comp, k1, k2, k3, -⟩ := (am_t5 hK).2.2.2.2
          obtain ⟨kE, hkE, -⟩ := Vm.findClass_spec k3
          exact W.aast hex hb a4.2 (fun q z => by cases z) (fun z => by cases z) k1 k2 rfl hkE ⟨i1, by rw [arrV_size, i2]; omega⟩ g3 (fun q z => by rw [g5] at z; cases z) (by rw [g4]; exact hkC) (by rw [g4]; exact am_asg hK hc3 k3) rfl rfl hd fin
      · cases hx
    · cases hx
  · cases hx
theorem am_arrG : (Cond.arrayClass .int ∈ am_GW) ∧ (Cond.arrayClass .boolean ∈ am_GW) := ⟨am_inG (i := 124) (by decide +kernel) rfl, am_inG (i := 184) (by decide +kernel) rfl⟩
theorem sd_newarray (ty : ArrayType) : am_SD (.newarray ty) := by
  intro p l e R s m args below meth c Q bs b cA D scr M n0 z0 pc len la st h q ls H locs CX hd hx hI hR kk
  obtain ⟨hex, hb, hml, hown, hts, hK, hfr, hlo, hin⟩ := CX
  simp only [am_ex] at hx
  split at hx
  · rename_i n r
    split at hx
    · rename_i hq
      obtain ⟨hl, h0, h1, hty⟩ := hq
      subst hl
      obtain rfl := (Sum.inl.inj (Option.some.inj hx)).symm
      obtain ⟨i1, i2⟩ := am_ix h0 (show n < 2147483648 by omega)
      have hsz := hI.2.1.2.1
      have hpos := hI.2.1.1
      have hn1 := hI.2.2.2
      have hR1 : h.2.1 + 1 - n0 ≤ R.cells := hR.1
      have hR2 : h.2.2 + n.toNat - z0 ≤ R.slots := hR.2
      have ead : am_ad bs b h.2.1 = H.size := by rw [hsz]; simp [am_ad]; omega
      have c1 : h.2.1 - n0 + 1 = h.2.1 + 1 - n0 := by omega
      have c2 : h.2.2 - z0 + n.toNat = h.2.2 + n.toNat - z0 := by omega
      simp only [List.map_cons, am_cv]
      rcases hty with hty | hty <;> subst hty
      · refine va_newaK (atype := .int) hex hb (hts _ am_arrG.1) rfl hd rfl i1 i2 (by show n.toNat * 4 ≤ _; omega) (by rw [c1]; exact hR1) (by rw [c2]; exact hR2) rfl fun H' cA' e1 e2 e3 e4 e5 => ?_
        have hca : cA' = cA 0 := Option.some.inj (e5.symm.trans (am_t5 hK).1.2)
        subst hca
        have k2 := kk ls H' locs ⟨hI.1, hI.2.1.new e2 e3 ⟨Nat.le_of_ble_eq_true rfl, e1⟩, hI.2.2.1, by show n0 ≤ h.2.1 + 1; omega, by show z0 ≤ h.2.2 + n.toNat; omega⟩
        simp only [List.map_cons, am_cv, ead] at k2
        rw [c1, c2]
        exact k2
      · refine va_newaK (atype := .boolean) hex hb (hts _ am_arrG.2) rfl hd rfl i1 i2 (by show n.toNat * 1 ≤ _; omega) (by rw [c1]; exact hR1) (by rw [c2]; exact hR2) rfl fun H' cA' e1 e2 e3 e4 e5 => ?_
        have hca : cA' = cA 1 := Option.some.inj (e5.symm.trans (am_t5 hK).2.1.2)
        subst hca
        have k2 := kk ls H' locs ⟨hI.1, hI.2.1.new e2 e3 ⟨Nat.le_of_ble_eq_true rfl, e1⟩, hI.2.2.1, by show n0 ≤ h.2.1 + 1; omega, by show z0 ≤ h.2.2 + n.toNat; omega⟩
        simp only [List.map_cons, am_cv, ead] at k2
        rw [c1, c2]
        exact k2
    · cases hx
  · cases hx
theorem sd_anewarray (idx : Nat) : am_SD (.anewarray idx) := by
  intro p l e R s m args below meth c Q bs b cA D scr M n0 z0 pc len la st h q ls H locs CX hd hx hI hR kk
  obtain ⟨hex, hb, hml, hown, hts, hK, hfr, hlo, hin⟩ := CX
  simp only [am_ex] at hx
  split at hx
  · rename_i ci n r hnc
    split at hx
    · rename_i hq
      obtain ⟨hl, h0, h1, hty⟩ := hq
      subst hl
      obtain rfl := (Sum.inl.inj (Option.some.inj hx)).symm
      obtain ⟨i1, i2⟩ := am_ix h0 (show n < 2147483648 by omega)
      obtain ⟨f1, f2⟩ := am_nc_ok hnc
      have hsz := hI.2.1.2.1
      have hpos := hI.2.1.1
      have hn1 := hI.2.2.2
      have hR1 : h.2.1 + 1 - n0 ≤ R.cells := hR.1
      have hR2 : h.2.2 + n.toNat - z0 ≤ R.slots := hR.2
      have ead : am_ad bs b h.2.1 = H.size := by rw [hsz]; simp [am_ad]; omega
      have c1 : h.2.1 - n0 + 1 = h.2.1 + 1 - n0 := by omega
      have c2 : h.2.2 - z0 + n.toNat = h.2.2 + n.toNat - z0 := by omega
      simp only [List.map_cons, am_cv]
      rcases hty with hty | hty <;> subst hty
      · refine W.anew hex hb hown (hts _ f1) (va_AO.use hK.2.2.1) rfl hd rfl i1 (by rw [i2]; omega) (by rw [c1]; exact hR1) (by rw [i2, c2]; exact hR2) fun cA' kA comp g1 g2 g3 g4 => ?_
        obtain ⟨kA', comp', k1, k2', k3, k4⟩ := (am_t5 hK).2.2.1.2
        have hca : cA' = cA 2 := Option.some.inj (g1.symm.trans k4)
        subst hca
        have k2 := kk ls (H.push { cls := cA 2, slots := Array.replicate n.toNat .null, vm := .none }) locs ⟨hI.1, hI.2.1.new (by simp) (fun q hq => by rw [Array.getElem?_push, if_neg (Nat.ne_of_lt hq)]) ⟨Or.inl rfl, by rw [Array.getElem?_push_size, arrV_new]; rfl⟩, hI.2.2.1, by show n0 ≤ h.2.1 + 1; omega, by show z0 ≤ h.2.2 + n.toNat; omega⟩
        simp only [List.map_cons, am_cv, ead] at k2
        rw [i2, c1, c2]
        exact k2
      · refine W.anew hex hb hown (hts _ f1) (va_AO.use hK.2.2.2.1) rfl hd rfl i1 (by rw [i2]; omega) (by rw [c1]; exact hR1) (by rw [i2, c2]; exact hR2) fun cA' kA comp g1 g2 g3 g4 => ?_
        obtain ⟨kA', comp', k1, k2', k3, k4⟩ := (am_t5 hK).2.2.2.2
        have hca : cA' = cA 3 := Option.some.inj (g1.symm.trans k4)
        subst hca
        have k2 := kk ls (H.push { cls := cA 3, slots := Array.replicate n.toNat .null, vm := .none }) locs ⟨hI.1, hI.2.1.new (by simp) (fun q hq => by rw [Array.getElem?_push, if_neg (Nat.ne_of_lt hq)]) ⟨Or.inr rfl, by rw [Array.getElem?_push_size, arrV_new]; rfl⟩, hI.2.2.1, by show n0 ≤ h.2.1 + 1; omega, by show z0 ≤ h.2.2 + n.toNat; omega⟩
        simp only [List.map_cons, am_cv, ead] at k2
        rw [i2, c1, c2]
        exact k2
    · cases hx
  · cases hx
def am_tok (ty : FieldType) : Bool := match ty with
  | .int => true
  | .boolean => true
  | .long => true
  | .object _ => true
  | .array _ => true
  | _ => false
theorem am_tok_ok : (List.range 13).all (fun ci => (List.range (am_nf ci)).all (fun k => am_tok (am_ty ci k))) = true := by decide +kernel
theorem am_df_spec (bs b : Nat) {ty : FieldType} (h : am_tok ty = true) : defaultValue ty = am_cv bs b (am_df ty) := by
  cases ty <;> first | rfl | cases h
theorem sd_new (idx : Nat) : am_SD (.new idx) := by
  intro p l e R s m args below meth c Q bs b cA D scr M n0 z0 pc len la st h q ls H locs CX hd hx hI hR kk
  obtain ⟨hex, hb, hml, hown, hts, hK, hfr, hlo, hin⟩ := CX
  simp only [am_ex] at hx
  split at hx
  · rename_i ci hnc
    split at hx
    · rename_i hq
      obtain ⟨hl, h13⟩ := hq
      subst hl
      obtain rfl := (Sum.inl.inj (Option.some.inj hx)).symm
      obtain ⟨f1, f2⟩ := am_nc_ok hnc
      obtain ⟨f3, f4⟩ := am_ins h13
      have hsz := hI.2.1.2.1
      have hpos := hI.2.1.1
      have hn1 := hI.2.2.2
      have hR1 : h.2.1 + 1 - n0 ≤ R.cells := hR.1
      have hR2 : h.2.2 + am_nf ci - z0 ≤ R.slots := hR.2
      have ead : am_ad bs b h.2.1 = H.size := by rw [hsz]; simp [am_ad]; omega
      have c1 : h.2.1 - n0 + 1 = h.2.1 + 1 - n0 := by omega
      have c2 : h.2.2 - z0 + am_nf ci = h.2.2 + am_nf ci - z0 := by omega
      have hKn := hK.1.1 ci _ (am_cl13 ci h13)
      refine W.newcK hex hb hown (hts _ f1) (hts _ f3) (hts _ f4) rfl hd (by rw [c1]; exact hR1) (by rw [c2]; exact hR2) hKn.2.1 rfl fun H' kC hkC e1 e2 e3 => ?_
      have hob := u_born (am_ty ci) hts (am_uw h13) hKn hkC e1 (am_ty13 ci h13)
      obtain ⟨cell, o1, o2, o3, o4⟩ := hob
      have k2 := kk ls H' locs ⟨hI.1, hI.2.1.new e2 e3 ⟨h13, by simp [am_dfs], cell, o1, o2, o3, fun j w hw => ?_⟩, hI.2.2.1, by show n0 ≤ h.2.1 + 1; omega, by show z0 ≤ h.2.2 + am_nf ci; omega⟩
      · simp only [List.map_cons, am_cv, ead] at k2
        rw [c1, c2]
        exact k2
      · have hj : j < am_nf ci := by
          have := (List.getElem?_eq_some_iff.mp hw).1
          simpa [am_dfs] using this
        have hw2 : w = am_df (am_ty ci j) := by
          simp only [am_dfs, List.getElem?_map, List.getElem?_range hj, Option.map_some, Option.some.injEq] at hw
          exact hw.symm
        have ht := List.all_eq_true.mp (List.all_eq_true.mp am_tok_ok ci (List.mem_range.mpr h13)) j (List.mem_range.mpr hj)
        rw [o4 j hj, hw2]
        exact congrArg some (am_df_spec bs b ht)
    · cases hx
  · cases hx
