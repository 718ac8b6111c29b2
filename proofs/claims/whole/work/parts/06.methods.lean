/-! methods -/
def am_np (M : Nat) : Nat := ((parseMethodDescriptor (am_y M).desc).map (fun d => d.parameters.length)).getD 99
def am_okM (M : Nat) : Bool := decide (lw_tbl[(am_MP.getD M (0, 0)).1]? = some (Cond.code (am_y M) (am_by M) (am_ml M) (am_rt M))) && decide (lw_tbl[(am_MP.getD M (0, 0)).2]? = some (Cond.initialized (am_y M).cls)) && plainName (am_y M).cls && decide ((am_y M).cls ≠ "java/lang/invoke/MethodHandle") && decide ((am_y M).cls ≠ "java/lang/invoke/VarHandle") && decide ((parseMethodDescriptor (am_y M).desc).map (fun d => d.parameters.length) = some (am_np M)) && decide ((am_y M).cls = am_cn (am_oc M))
set_option maxRecDepth 100000 in
theorem am_okM0 : (List.range' 0 8).all am_okM = true := by decide +kernel
set_option maxRecDepth 100000 in
theorem am_okM8 : (List.range' 8 8).all am_okM = true := by decide +kernel
set_option maxRecDepth 100000 in
theorem am_okM16 : (List.range' 16 8).all am_okM = true := by decide +kernel
set_option maxRecDepth 100000 in
theorem am_okM24 : (List.range' 24 8).all am_okM = true := by decide +kernel
set_option maxRecDepth 100000 in
theorem am_okM32 : (List.range' 32 8).all am_okM = true := by decide +kernel
set_option maxRecDepth 100000 in
theorem am_okM40 : (List.range' 40 8).all am_okM = true := by decide +kernel
set_option maxRecDepth 100000 in
theorem am_okM48 : (List.range' 48 8).all am_okM = true := by decide +kernel
set_option maxRecDepth 100000 in
theorem am_okM56 : (List.range' 56 8).all am_okM = true := by decide +kernel
set_option maxRecDepth 100000 in
theorem am_okM64 : (List.range' 64 8).all am_okM = true := by decide +kernel
set_option maxRecDepth 100000 in
theorem am_okM72 : (List.range' 72 8).all am_okM = true := by decide +kernel
set_option maxRecDepth 100000 in
theorem am_okM80 : (List.range' 80 8).all am_okM = true := by decide +kernel
set_option maxRecDepth 100000 in
theorem am_okM88 : (List.range' 88 8).all am_okM = true := by decide +kernel
set_option maxRecDepth 100000 in
theorem am_okM96 : (List.range' 96 8).all am_okM = true := by decide +kernel
set_option maxRecDepth 100000 in
theorem am_okM104 : (List.range' 104 8).all am_okM = true := by decide +kernel
set_option maxRecDepth 100000 in
theorem am_okM112 : (List.range' 112 8).all am_okM = true := by decide +kernel
set_option maxRecDepth 100000 in
theorem am_okM120 : (List.range' 120 8).all am_okM = true := by decide +kernel
set_option maxRecDepth 100000 in
theorem am_okM128 : (List.range' 128 8).all am_okM = true := by decide +kernel
set_option maxRecDepth 100000 in
theorem am_okM136 : (List.range' 136 8).all am_okM = true := by decide +kernel
set_option maxRecDepth 100000 in
theorem am_okM144 : (List.range' 144 8).all am_okM = true := by decide +kernel
set_option maxRecDepth 100000 in
theorem am_okM152 : (List.range' 152 2).all am_okM = true := by decide +kernel
theorem am_okMs {M : Nat} (h : M < 154) : Cond.code (am_y M) (am_by M) (am_ml M) (am_rt M) ∈ am_GW ∧ Cond.initialized (am_y M).cls ∈ am_GW ∧ plainName (am_y M).cls = true ∧ ((am_y M).cls ≠ "java/lang/invoke/MethodHandle" ∧ (am_y M).cls ≠ "java/lang/invoke/VarHandle") ∧ (parseMethodDescriptor (am_y M).desc).map (fun d => d.parameters.length) = some (am_np M) ∧ (am_y M).cls = am_cn (am_oc M) := by
  have h1 : am_okM M = true := by
    by_cases q0 : M < 8
    · exact List.all_eq_true.mp am_okM0 M (List.mem_range'_1.mpr (by omega))
    by_cases q8 : M < 16
    · exact List.all_eq_true.mp am_okM8 M (List.mem_range'_1.mpr (by omega))
    by_cases q16 : M < 24
    · exact List.all_eq_true.mp am_okM16 M (List.mem_range'_1.mpr (by omega))
    by_cases q24 : M < 32
    · exact List.all_eq_true.mp am_okM24 M (List.mem_range'_1.mpr (by omega))
    by_cases q32 : M < 40
    · exact List.all_eq_true.mp am_okM32 M (List.mem_range'_1.mpr (by omega))
    by_cases q40 : M < 48
    · exact List.all_eq_true.mp am_okM40 M (List.mem_range'_1.mpr (by omega))
    by_cases q48 : M < 56
    · exact List.all_eq_true.mp am_okM48 M (List.mem_range'_1.mpr (by omega))
    by_cases q56 : M < 64
    · exact List.all_eq_true.mp am_okM56 M (List.mem_range'_1.mpr (by omega))
    by_cases q64 : M < 72
    · exact List.all_eq_true.mp am_okM64 M (List.mem_range'_1.mpr (by omega))
    by_cases q72 : M < 80
    · exact List.all_eq_true.mp am_okM72 M (List.mem_range'_1.mpr (by omega))
    by_cases q80 : M < 88
    · exact List.all_eq_true.mp am_okM80 M (List.mem_range'_1.mpr (by omega))
    by_cases q88 : M < 96
    · exact List.all_eq_true.mp am_okM88 M (List.mem_range'_1.mpr (by omega))
    by_cases q96 : M < 104
    · exact List.all_eq_true.mp am_okM96 M (List.mem_range'_1.mpr (by omega))
    by_cases q104 : M < 112
    · exact List.all_eq_true.mp am_okM104 M (List.mem_range'_1.mpr (by omega))
    by_cases q112 : M < 120
    · exact List.all_eq_true.mp am_okM112 M (List.mem_range'_1.mpr (by omega))
    by_cases q120 : M < 128
    · exact List.all_eq_true.mp am_okM120 M (List.mem_range'_1.mpr (by omega))
    by_cases q128 : M < 136
    · exact List.all_eq_true.mp am_okM128 M (List.mem_range'_1.mpr (by omega))
    by_cases q136 : M < 144
    · exact List.all_eq_true.mp am_okM136 M (List.mem_range'_1.mpr (by omega))
    by_cases q144 : M < 152
    · exact List.all_eq_true.mp am_okM144 M (List.mem_range'_1.mpr (by omega))
    by_cases q152 : M < 154
    · exact List.all_eq_true.mp am_okM152 M (List.mem_range'_1.mpr (by omega))
    omega
  simp only [am_okM, Bool.and_eq_true, decide_eq_true_eq] at h1
  obtain ⟨⟨⟨⟨⟨⟨a1, a2⟩, a3⟩, a4⟩, a5⟩, a6⟩, a7⟩ := h1
  exact ⟨am_inG a1 rfl, am_inG a2 rfl, a3, ⟨a4, a5⟩, a6, a7⟩
