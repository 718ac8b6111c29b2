/-! The scene: what it is, and its small methods -/
def ScAt (h : am_H) (b : Nat) (c m t : Int) (ce so ha ye ic : Nat → Int) : Prop :=
  h.1 b = cO 5 [vI c, vI m, vI t, vR (b + 1), vR (b + 2), vR (b + 3), vR (b + 4), vR (b + 5)] ∧ h.1 (b + 1) = cI 0 6 ce ∧ h.1 (b + 2) = cI 0 6 so ∧ h.1 (b + 3) = cI 0 6 ha ∧ h.1 (b + 4) = cI 0 6 ye ∧ h.1 (b + 5) = cI 0 9 ic
section Scene1
variable {h : am_H} {b : Nat} {c m t : Int} {ce so ha ye ic : Nat → Int}
set_option maxHeartbeats 1000000 in
theorem c_hasMan (S : ScAt h b c m t ce so ha ye ic) {x : Int} (hx : -2147483648 ≤ x ∧ x < 2147483648) (hm : 0 ≤ m ∧ m ≤ 6) : ev mScene_hasMan [vR b, vI x] h = some (some (vI (if 0 ≤ x ∧ x < m then 1 else 0)), h) := by
  obtain ⟨s0, -⟩ := S
  rw [ev_Scene_hasMan]
  simp (disch := omega) only [e_Scene_hasMan_0, e_Scene_hasMan_1, e_Scene_hasMan_4, e_Scene_hasMan_5, e_Scene_hasMan_6, e_Scene_hasMan_9, e_Scene_hasMan_12, e_Scene_hasMan_13, e_Scene_hasMan_16, e_Scene_hasMan_17, ald_in, ast_in, bld_in, bst_in, qld_in, acp_in, rcv_in, rcA_in, bd_i, bd_l, bd_v, hS_same, hS_ne, hS_hS, hS_2, gf_5_0, pf_5_0, gf_5_1, pf_5_1, gf_5_2, pf_5_2, gf_5_3, pf_5_3, gf_5_4, pf_5_4, gf_5_5, pf_5_5, gf_5_6, pf_5_6, gf_5_7, pf_5_7, s0]
  by_cases h1 : x < 0 <;> by_cases h2 : x < m <;> simp [h1, h2] <;> omega
set_option maxHeartbeats 1000000 in
theorem c_hasCell (S : ScAt h b c m t ce so ha ye ic) {x : Int} (hx : -2147483648 ≤ x ∧ x < 2147483648) (hc : 0 ≤ c ∧ c ≤ 9) : ev mScene_hasCell [vR b, vI x] h = some (some (vI (if 0 ≤ x ∧ x < c then 1 else 0)), h) := by
  obtain ⟨s0, -⟩ := S
  rw [ev_Scene_hasCell]
  simp (disch := omega) only [e_Scene_hasCell_0, e_Scene_hasCell_1, e_Scene_hasCell_4, e_Scene_hasCell_5, e_Scene_hasCell_6, e_Scene_hasCell_9, e_Scene_hasCell_12, e_Scene_hasCell_13, e_Scene_hasCell_16, e_Scene_hasCell_17, ald_in, ast_in, bld_in, bst_in, qld_in, acp_in, rcv_in, rcA_in, bd_i, bd_l, bd_v, hS_same, hS_ne, hS_hS, hS_2, gf_5_0, pf_5_0, gf_5_1, pf_5_1, gf_5_2, pf_5_2, gf_5_3, pf_5_3, gf_5_4, pf_5_4, gf_5_5, pf_5_5, gf_5_6, pf_5_6, gf_5_7, pf_5_7, s0]
  by_cases h1 : x < 0 <;> by_cases h2 : x < c <;> simp [h1, h2] <;> omega
set_option maxHeartbeats 1000000 in
theorem c_isIn (S : ScAt h b c m t ce so ha ye ic) {x : Nat} (hx : x < 6) (hr : -2147483648 ≤ ce x ∧ ce x < 2147483648) : ev mScene_isIn [vR b, vI (x : Int)] h = some (some (vI (if ce x = -9 then 0 else 1)), h) := by
  obtain ⟨s0, s1, -⟩ := S
  rw [ev_Scene_isIn]
  simp (disch := omega) only [e_Scene_isIn_0, e_Scene_isIn_1, e_Scene_isIn_4, e_Scene_isIn_5, e_Scene_isIn_6, e_Scene_isIn_8, e_Scene_isIn_11, e_Scene_isIn_12, e_Scene_isIn_15, e_Scene_isIn_16, ald_in, ast_in, bld_in, bst_in, qld_in, acp_in, rcv_in, rcA_in, bd_i, bd_l, bd_v, hS_same, hS_ne, hS_hS, hS_2, gf_5_0, pf_5_0, gf_5_1, pf_5_1, gf_5_2, pf_5_2, gf_5_3, pf_5_3, gf_5_4, pf_5_4, gf_5_5, pf_5_5, gf_5_6, pf_5_6, gf_5_7, pf_5_7, s0, s1, Int.toNat_natCast]
  by_cases h1 : ce x = -9 <;> simp [h1]
set_option maxHeartbeats 1000000 in
theorem c_whoIn (S : ScAt h b c m t ce so ha ye ic) {x : Int} (hx : -2147483648 ≤ x ∧ x < 2147483648) (hc : 0 ≤ c ∧ c ≤ 9) : ev mScene_whoIn [vR b, vI x] h = some (some (vI (if 0 ≤ x ∧ x < c then ic x.toNat else -9)), h) := by
  have c1 := c_hasCell S hx hc
  obtain ⟨s0, s1, s2, s3, s4, s5⟩ := S
  rw [ev_Scene_whoIn]
  simp (disch := omega) only [e_Scene_whoIn_0, e_Scene_whoIn_1, e_Scene_whoIn_2, e_Scene_whoIn_5, e_Scene_whoIn_5b, e_Scene_whoIn_8, e_Scene_whoIn_9, e_Scene_whoIn_12, e_Scene_whoIn_13, e_Scene_whoIn_14, e_Scene_whoIn_17, e_Scene_whoIn_19, ald_in, ast_in, bld_in, bst_in, qld_in, acp_in, rcv_in, rcA_in, bd_i, bd_l, bd_v, hS_same, hS_ne, hS_hS, hS_2, gf_5_0, pf_5_0, gf_5_1, pf_5_1, gf_5_2, pf_5_2, gf_5_3, pf_5_3, gf_5_4, pf_5_4, gf_5_5, pf_5_5, gf_5_6, pf_5_6, gf_5_7, pf_5_7, s0, c1]
  by_cases h1 : 0 ≤ x ∧ x < c
  · simp (disch := omega) only [e_Scene_whoIn_0, e_Scene_whoIn_1, e_Scene_whoIn_2, e_Scene_whoIn_5, e_Scene_whoIn_5b, e_Scene_whoIn_8, e_Scene_whoIn_9, e_Scene_whoIn_12, e_Scene_whoIn_13, e_Scene_whoIn_14, e_Scene_whoIn_17, e_Scene_whoIn_19, ald_in, ast_in, bld_in, bst_in, qld_in, acp_in, rcv_in, rcA_in, bd_i, bd_l, bd_v, hS_same, hS_ne, hS_hS, hS_2, gf_5_0, pf_5_0, gf_5_1, pf_5_1, gf_5_2, pf_5_2, gf_5_3, pf_5_3, gf_5_4, pf_5_4, gf_5_5, pf_5_5, gf_5_6, pf_5_6, gf_5_7, pf_5_7, s0, s5, h1, if_true]
  · simp (disch := omega) only [h1, if_false]
end Scene1
