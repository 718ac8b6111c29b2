/-! What the tables say of lw_tbl's words -/
def am_GW : List Cond := lw_tbl.filter goodWord
theorem am_inG {i : Nat} {w : Cond} (h : lw_tbl[i]? = some w) (hg : goodWord w = true) : w ∈ am_GW := List.mem_filter.mpr ⟨List.mem_of_getElem? h, hg⟩
set_option maxRecDepth 100000 in
theorem am_FL_ok : am_FL.all (fun e => decide (lw_tbl[e.2.2.2.2]? = some (Cond.fieldLink (am_cn e.1) e.2.1 (am_T e.2.2.1 e.2.2.2.1).1 (am_T e.2.2.1 e.2.2.2.1).2.1 (am_T e.2.2.1 e.2.2.2.1).2.2.1)) && decide (e.2.2.2.1 < am_nf e.2.2.1) && decide (e.2.2.1 < 13)) = true := by decide +kernel
theorem am_fl_ok {oc idx ci k : Nat} (h : am_fl oc idx = some (ci, k)) : Cond.fieldLink (am_cn oc) idx (am_T ci k).1 (am_T ci k).2.1 (am_T ci k).2.2.1 ∈ am_GW ∧ k < am_nf ci ∧ ci < 13 := by
  unfold am_fl at h
  cases hf : am_FL.find? (fun e => e.1 == oc && e.2.1 == idx) with
  | none => rw [hf] at h; simp at h
  | some e =>
    rw [hf] at h
    simp only [Option.map_some, Option.some.injEq, Prod.mk.injEq] at h
    have h1 := List.find?_some hf
    have h2 := List.all_eq_true.mp am_FL_ok e (List.mem_of_find?_eq_some hf)
    simp only [Bool.and_eq_true, beq_iff_eq, decide_eq_true_eq] at h1 h2
    obtain ⟨rfl, rfl⟩ := h1
    obtain ⟨rfl, rfl⟩ := h
    exact ⟨am_inG h2.1.1 rfl, h2.1.2, h2.2⟩
set_option maxRecDepth 100000 in
theorem am_CK_ok : am_CK.all (fun e => decide (lw_tbl[e.2.2.2]? = some (Cond.constant (am_cn e.1) e.2.1 (Int32.ofInt e.2.2.1)))) = true := by decide +kernel
theorem am_ck_ok {oc idx : Nat} {v : Int} (h : am_ck oc idx = some v) : Cond.constant (am_cn oc) idx (Int32.ofInt v) ∈ am_GW := by
  unfold am_ck at h
  cases hf : am_CK.find? (fun e => e.1 == oc && e.2.1 == idx) with
  | none => rw [hf] at h; simp at h
  | some e =>
    rw [hf] at h
    simp only [Option.map_some, Option.some.injEq] at h
    have h1 := List.find?_some hf
    have h2 := List.all_eq_true.mp am_CK_ok e (List.mem_of_find?_eq_some hf)
    simp only [Bool.and_eq_true, beq_iff_eq, decide_eq_true_eq] at h1 h2
    obtain ⟨rfl, rfl⟩ := h1
    subst h
    exact am_inG h2 rfl
set_option maxRecDepth 100000 in
theorem am_CL_ok : am_CL.all (fun e => decide (lw_tbl[e.2.2.2]? = some (Cond.constantLong (am_cn e.1) e.2.1 (Int64.ofInt e.2.2.1)))) = true := by decide +kernel
theorem am_cl_ok {oc idx : Nat} {v : Int} (h : am_cl oc idx = some v) : Cond.constantLong (am_cn oc) idx (Int64.ofInt v) ∈ am_GW := by
  unfold am_cl at h
  cases hf : am_CL.find? (fun e => e.1 == oc && e.2.1 == idx) with
  | none => rw [hf] at h; simp at h
  | some e =>
    rw [hf] at h
    simp only [Option.map_some, Option.some.injEq] at h
    have h1 := List.find?_some hf
    have h2 := List.all_eq_true.mp am_CL_ok e (List.mem_of_find?_eq_some hf)
    simp only [Bool.and_eq_true, beq_iff_eq, decide_eq_true_eq] at h1 h2
    obtain ⟨rfl, rfl⟩ := h1
    subst h
    exact am_inG h2 rfl
set_option maxRecDepth 100000 in
theorem am_NC_ok : am_NC.all (fun e => decide (lw_tbl[e.2.2.2]? = some (Cond.classLink (am_cn e.1) e.2.1 (am_cn e.2.2.1))) && decide (e.2.2.1 < 13)) = true := by decide +kernel
theorem am_nc_ok {oc idx ci : Nat} (h : am_nc oc idx = some ci) : Cond.classLink (am_cn oc) idx (am_cn ci) ∈ am_GW ∧ ci < 13 := by
  unfold am_nc at h
  cases hf : am_NC.find? (fun e => e.1 == oc && e.2.1 == idx) with
  | none => rw [hf] at h; simp at h
  | some e =>
    rw [hf] at h
    simp only [Option.map_some, Option.some.injEq] at h
    have h1 := List.find?_some hf
    have h2 := List.all_eq_true.mp am_NC_ok e (List.mem_of_find?_eq_some hf)
    simp only [Bool.and_eq_true, beq_iff_eq, decide_eq_true_eq] at h1 h2
    obtain ⟨rfl, rfl⟩ := h1
    subst h
    exact ⟨am_inG h2.1 rfl, h2.2⟩
/-! classes -/
theorem am_cl13 : ∀ ci, ci < 13 → vwCl[ci]? = some (am_cn ci, am_T ci, am_nf ci)
  | 0, _ | 1, _ | 2, _ | 3, _ | 4, _ | 5, _ | 6, _ | 7, _ | 8, _ | 9, _ | 10, _ | 11, _ | 12, _ => rfl
  | n + 13, h => by omega
theorem am_nm13 : ∀ ci, ci < 13 → ∀ a, a < am_nf ci → ∀ b, b < am_nf ci → a ≠ b → (am_T ci a).2.1 ≠ (am_T ci b).2.1
  | 0, _ => nmX0 | 1, _ => nmX1 | 2, _ => nmX2 | 3, _ => nmX3 | 4, _ => nmX4 | 5, _ => nmX5 | 6, _ => nmX6 | 7, _ => nmX7 | 8, _ => nmX8 | 9, _ => nmX9 | 10, _ => nmX10 | 11, _ => nmX11 | 12, _ => nmX12
  | n + 13, h => by omega
theorem am_ty13 : ∀ ci, ci < 13 → ∀ k, k < am_nf ci → parseFieldDescriptor (am_T ci k).2.2.1 = some (am_ty ci k)
  | 0, _ => tyX0_ok | 1, _ => tyX1_ok | 2, _ => tyX2_ok | 3, _ => tyX3_ok | 4, _ => tyX4_ok | 5, _ => tyX5_ok | 6, _ => tyX6_ok | 7, _ => tyX7_ok | 8, _ => tyX8_ok | 9, _ => tyX9_ok | 10, _ => tyX10_ok | 11, _ => tyX11_ok | 12, _ => tyX12_ok
  | n + 13, h => by omega
set_option maxRecDepth 100000 in
theorem am_uw_ok : (List.range 13).all (fun ci => (u_ws (am_cn ci) (am_T ci) (am_nf ci)).all (fun w => decide (w ∈ lw_tbl) && goodWord w)) = true := by decide +kernel
theorem am_uw {ci : Nat} (h : ci < 13) : ∀ w ∈ u_ws (am_cn ci) (am_T ci) (am_nf ci), w ∈ am_GW := by
  intro w hw
  have h1 := List.all_eq_true.mp (List.all_eq_true.mp am_uw_ok ci (List.mem_range.mpr h)) w hw
  simp only [Bool.and_eq_true, decide_eq_true_eq] at h1
  exact List.mem_filter.mpr h1
set_option maxRecDepth 100000 in
theorem am_cp_ok : (List.range 13).all (fun ci => decide (Cond.instantiable (am_cn ci) (am_nf ci) ∈ lw_tbl) && decide (Cond.initialized (am_cn ci) ∈ lw_tbl) && goodWord (Cond.instantiable (am_cn ci) (am_nf ci)) && goodWord (Cond.initialized (am_cn ci))) = true := by decide +kernel
theorem am_ins {ci : Nat} (h : ci < 13) : Cond.instantiable (am_cn ci) (am_nf ci) ∈ am_GW ∧ Cond.initialized (am_cn ci) ∈ am_GW := by
  have h1 := List.all_eq_true.mp am_cp_ok ci (List.mem_range.mpr h)
  simp only [Bool.and_eq_true, decide_eq_true_eq] at h1
  exact ⟨List.mem_filter.mpr ⟨h1.1.1.1, h1.1.2⟩, List.mem_filter.mpr ⟨h1.1.1.2, h1.2⟩⟩
