/-! Soundness: the calls, kind by kind -/
section CallK
variable {p : Program} {l : Launch} {e : Env} {R : Room} {s : State} {m : MethodId} {args : Array Value} {below : List Frame} {meth : Method} {c : Code} {Q : State → Prop} {bs b : Nat} {cA : Nat → ClassId} {D : va_G} {scr : Cell} {M n0 z0 pc : Nat} {la : List am_V} {h : am_H} {ls : Array Slot} {H : Heap} {locs : List Loc}
theorem am_hp (hI : am_I bs b cA D scr M n0 z0 h H locs la ls) (hK : am_KW cA D scr s) (as : List am_V) : PreS s H (am_Pc bs b cA D scr as h) (as.map (am_cv bs b)) := ⟨am_blind, fun U hU hW => ⟨rfl, by rw [hU]; exact hI.2.1, hK.moved hW⟩⟩
theorem am_mwe (Y : Nat) : am_mw Y = Cond.code (am_y Y) (am_by Y) (am_ml Y) (am_rt Y) :: am_GW := rfl
theorem am_recvS {Y : Nat} {st : List am_V} {ci : Nat} (hr : am_rcv Y st h = some ci) {as rest : List am_V} (hst : st = as.reverse ++ rest) (hn : as.length = am_na Y) (h1 : 1 ≤ am_na Y) : ∃ a as' fs, as = vR a :: as' ∧ h.1 a = cO ci fs := by
  unfold am_rcv at hr
  split at hr
  · rename_i a ha
    split at hr
    · rename_i c2 fs hc
      cases hr
      cases as with
      | nil => simp at hn; omega
      | cons v as' =>
        refine ⟨a, as', fs, ?_, hc⟩
        have e1 : st[am_na Y - 1]? = some v := by
          rw [hst, ← hn, List.reverse_cons, List.append_assoc]
          simp
        rw [e1] at ha
        cases ha
        rfl
    · cases hr
  · cases hr
theorem am_obj (hI : am_I bs b cA D scr M n0 z0 h H locs la ls) (hK : am_KW cA D scr s) {a ci : Nat} {fs : List am_V} (hc : h.1 a = cO ci fs) : ci < 13 ∧ am_ad bs b a = bs + a ∧ (∃ cellB : Cell, H[am_ad bs b a]? = some cellB ∧ cellB.vm.isStatics = false ∧ s.vm.findClass (am_cn ci) = some cellB.cls) ∧ ClassAt s (am_cn ci) (D.1 ci) := by
  obtain ⟨a1, a2, a3, a4⟩ := hI.2.1.cell (a := a) (by rw [hc]; intro n f z; cases z) (by rw [hc]; intro n f z; cases z)
  rw [hc] at a4
  obtain ⟨g1, g2, cell, g3, g4, g5, g6⟩ := a4
  have hcl := hK.1.1 ci _ (am_cl13 ci g1)
  exact ⟨g1, a3, ⟨cell, by rw [a3]; exact g3, by rw [g5]; rfl, by rw [g4]; exact hcl.2.1⟩, hcl.2⟩
end CallK
set_option maxHeartbeats 1000000 in
theorem sc_invokestatic (idx : Nat) : am_SC (.invokestatic idx) := by
  intro p l e R s m args below meth c Q bs b cA D scr M n0 z0 pc len la st h q r h' ls H locs CX hd hx hI g1 g2 hR hM kk
  obtain ⟨hex, hb, hml, hown, hts, hK, hfr, hlo, hin⟩ := CX
  simp only [am_ex] at hx
  have hn1 := hI.2.2.2
  split at hx
  · rename_i y hst
    split at hx
    · rename_i hl
      subst hl
      obtain ⟨q1, q2, q3⟩ := q
      obtain ⟨rfl, c1, rfl, c3, c4, c5, c6, c7, c8, c9⟩ := am_call_spec hx
      obtain ⟨pl, hok⟩ := am_st_ok hst
      obtain ⟨o1, o2, o3, o4, o5, o6⟩ := am_okMs c8
      simp only [am_okS, am_ok1, Bool.and_eq_true, decide_eq_true_eq] at hok
      obtain ⟨⟨k1, k2⟩, k3⟩ := hok
      refine am_after (as := q2) (rest := q3) (r := r) g1 g2 hI ?_ kk
      refine va_runS (As := q2.map (am_cv bs b)) (n := am_na q1) (bytes := am_by q1) (maxL := am_ml q1) (ret := am_rt q1) ⟨hex, hb, hml, hown, hts⟩ hM ⟨callB_of (am_na q1) hts (am_GGW c8) (am_mwe q1) rfl rfl (hts _ o2) (hts _ (am_pG k1 rfl)) ⟨o4.1, o4.2, by rw [o5, k3]⟩ ⟨?_, ?_⟩, hts _ (am_pG k2 rfl)⟩ (am_hp hI hK q2) rfl (by rw [List.length_map]; exact c1) ?_ ?_ (lv_room (am_sum c3)) hd ?_
      · exact Nat.le_trans c6 hfr
      · exact Nat.le_trans c7 hlo
      · exact hI.1.2.1
      · show List.map (am_cv bs b) _ = _
        rw [List.map_append, List.map_reverse]
      · have := hR; constructor <;> omega
    · cases hx
  · rename_i y hst
    split at hx
    · rename_i hl
      subst hl
      obtain ⟨q1, q2, q3⟩ := q
      obtain ⟨rfl, c1, rfl, c3, c4, c5, c6, c7, c8, c9⟩ := am_call_spec hx
      obtain ⟨pl, hok⟩ := am_st_ok hst
      obtain ⟨o1, o2, o3, o4, o5, o6⟩ := am_okMs c8
      simp only [am_okS, am_ok2, Bool.and_eq_true, decide_eq_true_eq] at hok
      obtain ⟨⟨⟨k1, k0⟩, k2⟩, k3⟩ := hok
      refine am_after (as := q2) (rest := q3) (r := r) g1 g2 hI ?_ kk
      refine va_runSN (As := q2.map (am_cv bs b)) (n := am_na q1) (bytes := am_by q1) (maxL := am_ml q1) (ret := am_rt q1) ⟨hex, hb, hml, hown, hts⟩ hM ⟨va_cnB (am_na q1) hts (am_GGW c8) (am_mwe q1) rfl rfl (hK.2.1 _ k0 _ k1) (hts _ o2) ⟨o4.1, o4.2, by rw [o5, k3]⟩ ⟨?_, ?_⟩, hts _ (am_pG k2 rfl), trivial⟩ (am_hp hI hK q2) rfl (by rw [List.length_map]; exact c1) ?_ ?_ (lv_room (am_sum c3)) hd ?_
      · exact Nat.le_trans c6 hfr
      · exact Nat.le_trans c7 hlo
      · exact hI.1.2.1
      · show List.map (am_cv bs b) _ = _
        rw [List.map_append, List.map_reverse]
      · have := hR; constructor <;> omega
    · cases hx
  · split at hx
    · split at hx
      · split at hx
        · cases hx
        · cases hx
      · cases hx
    · cases hx
  · split at hx
    · split at hx
      · cases hx
      · cases hx
    · cases hx
  · split at hx
    · split at hx
      · cases hx
      · cases hx
    · cases hx
  · cases hx
set_option maxHeartbeats 1000000 in
theorem sc_invokevirtual (idx : Nat) : am_SC (.invokevirtual idx) := by
  intro p l e R s m args below meth c Q bs b cA D scr M n0 z0 pc len la st h q r h' ls H locs CX hd hx hI g1 g2 hR hM kk
  obtain ⟨hex, hb, hml, hown, hts, hK, hfr, hlo, hin⟩ := CX
  simp only [am_ex] at hx
  have hn1 := hI.2.2.2
  split at hx
  · rename_i y hst
    split at hx
    · rename_i hq
      obtain ⟨hl, hrc⟩ := hq
      subst hl
      obtain ⟨q1, q2, q3⟩ := q
      obtain ⟨rfl, c1, c2, c3, c4, c5, c6, c7, c8, c9⟩ := am_call_spec hx
      obtain ⟨a, as', fs, e1, hc⟩ := am_recvS hrc c2 c1 c9
      simp only at e1 c1 c2
      subst e1; subst c2
      obtain ⟨pl, hok⟩ := am_st_ok hst
      obtain ⟨o1, o2, o3, o4, o5, o6⟩ := am_okMs c8
      simp only [am_okS, am_ok0, Bool.and_eq_true, decide_eq_true_eq] at hok
      obtain ⟨⟨⟨k1, k2⟩, k3⟩, k4⟩ := hok
      obtain ⟨-, -, hcell, -⟩ := am_obj hI hK hc
      have hp := am_hp hI hK (vR a :: as')
      refine am_after (as := vR a :: as') (rest := q3) (r := r) g1 g2 hI ?_ kk
      refine va_runV (C := am_cn (am_oc q1)) (b := am_ad bs b a) (As := as'.map (am_cv bs b)) (n := am_np q1) (bytes := am_by q1) (maxL := am_ml q1) (ret := am_rt q1) ⟨hex, hb, hml, hown, hts⟩ hM ⟨callB_of (am_np q1) hts (am_GGW c8) (am_mwe q1) rfl rfl (hts _ o2) (hts _ (am_pG k1 rfl)) ⟨o4.1, o4.2, o5⟩ ⟨?_, ?_⟩, hts _ (am_pG k2 rfl), by rw [← o6]; exact hts _ (am_pG k3 rfl)⟩ ⟨hp.1, hcell, hp.2⟩ rfl ?_ ?_ ?_ (lv_room (am_sum c3)) hd ?_
      · exact Nat.le_trans c6 hfr
      · exact Nat.le_trans c7 hlo
      · rw [List.length_map]; simp at c1; omega
      · exact hI.1.2.1
      · show List.map (am_cv bs b) _ = _
        rw [List.map_append, List.map_reverse, List.map_cons, List.reverse_cons, List.append_assoc]
        rfl
      · have := hR; constructor <;> omega
    · cases hx
  · rename_i y hst
    split at hx
    · rename_i ci hrc
      split at hx
      · rename_i hq
        obtain ⟨hl, hws⟩ := hq
        subst hl
        obtain ⟨q1, q2, q3⟩ := q
        obtain ⟨e0, c1, c2, c3, c4, c5, c6, c7, c8, c9⟩ := am_call_spec hx
        simp only at e0 c1 c2 hM kk
        subst e0
        obtain ⟨pl, hok⟩ := am_st_ok hst
        obtain ⟨o1, o2, o3, o4, o5, o6⟩ := am_okMs c8
        simp only [am_okS, am_ok6, Bool.and_eq_true, decide_eq_true_eq] at hok
        obtain ⟨⟨⟨⟨⟨k1, k2⟩, k3⟩, k4⟩, k5⟩, k6⟩ := hok
        obtain ⟨y1, y2, y3, y4, y5, y6⟩ := am_okMs k5
        have key : ∃ i, am_p pl i = some (.selects (am_cn ci) (am_y y) (am_y (am_wo ci))) ∧ am_p pl (i + 1) = some (.instanceMethod (am_y (am_wo ci))) ∧ am_na (am_wo ci) = am_na y := by
          have hm : ci ∈ am_ws := by simpa using hws
          have hcs : ∃ j, (ci, j) ∈ ([(0, 3), (1, 5), (3, 7), (4, 9), (9, 11), (10, 13)] : List (Nat × Nat)) := by
            have : ci = 0 ∨ ci = 1 ∨ ci = 3 ∨ ci = 4 ∨ ci = 9 ∨ ci = 10 := by simpa [am_ws] using hm
            rcases this with z | z | z | z | z | z <;> subst z
            · exact ⟨3, by decide⟩
            · exact ⟨5, by decide⟩
            · exact ⟨7, by decide⟩
            · exact ⟨9, by decide⟩
            · exact ⟨11, by decide⟩
            · exact ⟨13, by decide⟩
          obtain ⟨j, hj⟩ := hcs
          have h1 := List.all_eq_true.mp k6 (ci, j) hj
          simp only [Bool.and_eq_true, decide_eq_true_eq] at h1
          exact ⟨j, h1.1.1, h1.1.2, h1.2⟩
        obtain ⟨j, j1, j2, j3⟩ := key
        obtain ⟨a, as', fs, e1, hc⟩ := am_recvS hrc c2 (c1.trans j3) (by rw [← j3]; exact c9)
        subst e1; subst c2
        obtain ⟨-, -, hcell, -⟩ := am_obj hI hK hc
        have hp := am_hp hI hK (vR a :: as')
        have hyx : (⟨(am_y y).cls, (am_y y).name, (am_y y).desc⟩ : MethodName) = am_y y := rfl
        have hcU : va_CU R s args (am_cn (am_oc M)) (am_cn ci) (am_y y).cls idx (am_y y) (am_y (am_wo ci)) (am_by (am_wo ci)) (am_ml (am_wo ci)) (am_rt (am_wo ci)) (am_mw (am_wo ci)) (am_ro (am_wo ci) (h'.2.1 - h.2.1) (h'.2.2 - h.2.2)) (h'.2.1 - h.2.1) (h'.2.2 - h.2.2) (am_np y) := by
          refine ⟨⟨rfl, rfl, Nat.le_trans c6 hfr, Nat.le_trans c7 hlo, pay_in hts (am_GGW c8), List.mem_cons_self⟩, hts _ o1, hts _ o2, y4, fun sig hsig => ?_, hts _ (am_pG k1 rfl), hts _ (am_pG k2 rfl), va_Decl.of (hts _ (am_pG k3 rfl)) (hts _ y1), hts _ (am_pG j1 rfl), hts _ (am_pG j2 rfl)⟩
          rw [hsig] at y5
          exact (Option.some.inj y5).symm
        refine am_after (as := vR a :: as') (rest := q3) (r := r) g1 g2 hI ?_ kk
        refine va_runU (C := am_cn ci) (owner := (am_y y).cls) (b := am_ad bs b a) (As := as'.map (am_cv bs b)) (n := am_np y) (bytes := am_by (am_wo ci)) (maxL := am_ml (am_wo ci)) (ret := am_rt (am_wo ci)) ⟨hex, hb, hml, hown, hts⟩ hM hcU ⟨hp.1, hcell, hp.2⟩ rfl ?_ ?_ ?_ (lv_room (am_sum c3)) hd ?_
        · rw [List.length_map]; simp at c1; omega
        · exact hI.1.2.1
        · show List.map (am_cv bs b) _ = _
          rw [List.map_append, List.map_reverse, List.map_cons, List.reverse_cons, List.append_assoc]
          rfl
        · have := hR; constructor <;> omega
      · cases hx
    · cases hx
  · cases hx
set_option maxHeartbeats 1000000 in
theorem sc_invokespecial (idx : Nat) : am_SC (.invokespecial idx) := by
  intro p l e R s m args below meth c Q bs b cA D scr M n0 z0 pc len la st h q r h' ls H locs CX hd hx hI g1 g2 hR hM kk
  obtain ⟨hex, hb, hml, hown, hts, hK, hfr, hlo, hin⟩ := CX
  simp only [am_ex] at hx
  have hn1 := hI.2.2.2
  split at hx
  · rename_i y hst
    split at hx
    · rename_i hq
      obtain ⟨hl, hrc⟩ := hq
      obtain ⟨ci, hrc⟩ := Option.isSome_iff_exists.mp hrc
      subst hl
      obtain ⟨q1, q2, q3⟩ := q
      obtain ⟨rfl, c1, c2, c3, c4, c5, c6, c7, c8, c9⟩ := am_call_spec hx
      obtain ⟨a, as', fs, e1, hc⟩ := am_recvS hrc c2 c1 c9
      simp only at e1 c1 c2
      subst e1; subst c2
      obtain ⟨pl, hok⟩ := am_st_ok hst
      obtain ⟨o1, o2, o3, o4, o5, o6⟩ := am_okMs c8
      simp only [am_okS, am_ok3, Bool.and_eq_true, decide_eq_true_eq] at hok
      obtain ⟨⟨⟨⟨k1, k2⟩, k3⟩, k4⟩, k5⟩ := hok
      have hp := am_hp hI hK (vR a :: as')
      refine am_after (as := vR a :: as') (rest := q3) (r := r) g1 g2 hI ?_ kk
      have hG : am_mw q1 = Cond.code (am_y q1) (am_by q1) (am_ml q1) none :: am_GW := by rw [am_mwe, k5]
      refine va_runI (b := am_ad bs b a) (As := as'.map (am_cv bs b)) (n := am_np q1) (bytes := am_by q1) (maxL := am_ml q1) ⟨hex, hb, hml, hown, hts⟩ hM ⟨callB_of (am_np q1) hts (am_GGW c8) hG rfl rfl (hts _ o2) (hts _ (am_pG k1 rfl)) ⟨o4.1, o4.2, o5⟩ ⟨?_, ?_⟩, k3, hts _ (am_pG k2 rfl)⟩ hp rfl ?_ ?_ ?_ (lv_room (am_sum c3)) hd ?_
      · exact Nat.le_trans c6 hfr
      · exact Nat.le_trans c7 hlo
      · rw [List.length_map]; simp at c1; omega
      · exact hI.1.2.1
      · show List.map (am_cv bs b) _ = _
        rw [List.map_append, List.map_reverse, List.map_cons, List.reverse_cons, List.append_assoc]
        rfl
      · have := hR; constructor <;> omega
    · cases hx
  · rename_i y hst
    split at hx
    · rename_i hq
      obtain ⟨hl, hrc⟩ := hq
      obtain ⟨ci, hrc⟩ := Option.isSome_iff_exists.mp hrc
      subst hl
      obtain ⟨q1, q2, q3⟩ := q
      obtain ⟨rfl, c1, c2, c3, c4, c5, c6, c7, c8, c9⟩ := am_call_spec hx
      obtain ⟨a, as', fs, e1, hc⟩ := am_recvS hrc c2 c1 c9
      simp only at e1 c1 c2
      subst e1; subst c2
      obtain ⟨pl, hok⟩ := am_st_ok hst
      obtain ⟨o1, o2, o3, o4, o5, o6⟩ := am_okMs c8
      simp only [am_okS, am_ok4, Bool.and_eq_true, decide_eq_true_eq] at hok
      obtain ⟨⟨⟨⟨⟨k1, k0⟩, k2⟩, k3⟩, k4⟩, k5⟩ := hok
      have hp := am_hp hI hK (vR a :: as')
      refine am_after (as := vR a :: as') (rest := q3) (r := r) g1 g2 hI ?_ kk
      have hG : am_mw q1 = Cond.code (am_y q1) (am_by q1) (am_ml q1) none :: am_GW := by rw [am_mwe, k5]
      refine va_runIN (b := am_ad bs b a) (As := as'.map (am_cv bs b)) (n := am_np q1) (bytes := am_by q1) (maxL := am_ml q1) ⟨hex, hb, hml, hown, hts⟩ hM ⟨va_cnB (am_np q1) hts (am_GGW c8) hG rfl rfl (hK.2.1 _ k0 _ k1) (hts _ o2) ⟨o4.1, o4.2, o5⟩ ⟨?_, ?_⟩, k3, hts _ (am_pG k2 rfl)⟩ hp rfl ?_ ?_ ?_ (lv_room (am_sum c3)) hd ?_
      · exact Nat.le_trans c6 hfr
      · exact Nat.le_trans c7 hlo
      · rw [List.length_map]; simp at c1; omega
      · exact hI.1.2.1
      · show List.map (am_cv bs b) _ = _
        rw [List.map_append, List.map_reverse, List.map_cons, List.reverse_cons, List.append_assoc]
        rfl
      · have := hR; constructor <;> omega
    · cases hx
  · rename_i y hst
    split at hx
    · rename_i hq
      obtain ⟨hl, hrc⟩ := hq
      obtain ⟨ci, hrc⟩ := Option.isSome_iff_exists.mp hrc
      subst hl
      obtain ⟨q1, q2, q3⟩ := q
      obtain ⟨rfl, c1, c2, c3, c4, c5, c6, c7, c8, c9⟩ := am_call_spec hx
      obtain ⟨a, as', fs, e1, hc⟩ := am_recvS hrc c2 c1 c9
      simp only at e1 c1 c2
      subst e1; subst c2
      obtain ⟨pl, hok⟩ := am_st_ok hst
      obtain ⟨o1, o2, o3, o4, o5, o6⟩ := am_okMs c8
      simp only [am_okS, am_ok5, Bool.and_eq_true, decide_eq_true_eq] at hok
      obtain ⟨⟨⟨⟨⟨k1, k2⟩, k3⟩, k4⟩, k5⟩, k6⟩ := hok
      obtain ⟨-, -, hcell, hat⟩ := am_obj hI hK hc
      have hp := am_hp hI hK (vR a :: as')
      refine am_after (as := vR a :: as') (rest := q3) (r := r) g1 g2 hI ?_ kk
      have hcS : va_CS R s args (am_cn (am_oc M)) idx (am_y q1) (am_by q1) (am_ml q1) (am_rt q1) (am_mw q1) (am_ro q1 (h'.2.1 - h.2.1) (h'.2.2 - h.2.2)) (h'.2.1 - h.2.1) (h'.2.2 - h.2.2) (am_np q1) := by
        refine ⟨⟨rfl, rfl, Nat.le_trans c6 hfr, Nat.le_trans c7 hlo, pay_in hts (am_GGW c8), List.mem_cons_self⟩, hts _ (am_pG k1 rfl), hts _ (am_pG k2 rfl), hts _ (am_pG k3 rfl), hts _ (am_pG k4 rfl), hts _ o2, hts _ o1, k5, fun sig hsig => ?_⟩
        rw [hsig] at o5
        exact (Option.some.inj o5).symm
      refine va_runSU (C := am_cn ci) hat (b := am_ad bs b a) (As := as'.map (am_cv bs b)) (n := am_np q1) (bytes := am_by q1) (maxL := am_ml q1) (ret := am_rt q1) ⟨hex, hb, hml, hown, hts⟩ hM hcS ⟨hp.1, hcell, hp.2⟩ rfl ?_ ?_ ?_ (lv_room (am_sum c3)) hd ?_
      · rw [List.length_map]; simp at c1; omega
      · exact hI.1.2.1
      · show List.map (am_cv bs b) _ = _
        rw [List.map_append, List.map_reverse, List.map_cons, List.reverse_cons, List.append_assoc]
        rfl
      · have := hR; constructor <;> omega
    · cases hx
  · split at hx
    · split at hx
      · cases hx
      · cases hx
    · cases hx
  · cases hx
