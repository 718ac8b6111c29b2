/-! Soundness: calls. What a call asks of the tables, and what it brings -/
theorem am_NW_ok : am_NW.all (fun i => match lw_tbl[i]? with
  | some (.methodLinkNest _ _ _ _) => true
  | some (.castable _ _) => true
  | _ => false) = true := by decide +kernel
theorem am_KW.moved {cA : Nat → ClassId} {D : va_G} {scr : Cell} {s U : State} (hW : s.WarmedH U.vm) (h : am_KW cA D scr s) : am_KW cA D scr U := by
  obtain ⟨h1, h2, h3, h4, h5, h6⟩ := h
  refine ⟨va_K.moved hW.alike h1, fun i hi w hw => ?_, h3.moved hW.alike, h4.moved hW.alike, State.isArrayOf_alike hW.alike h5, h6⟩
  have hk := List.all_eq_true.mp am_NW_ok i hi
  rw [hw] at hk
  have hz := h2 i hi w hw
  cases w with
  | methodLinkNest a j y q => exact va_Nw.warmM hW hz
  | castable a q => exact va_Nw.warmC hW hz
  | _ => simp at hk
theorem am_KW.same {cA : Nat → ClassId} {D : va_G} {scr : Cell} {u U : State} (hv : u.vm = U.vm) (h : am_KW cA D scr u) : am_KW cA D scr U := by
  obtain ⟨h1, h2, h3, h4, h5, h6⟩ := h
  have hal : u.vm.Alike U.vm := by rw [hv]; exact Vm.Alike.refl _
  refine ⟨va_K.moved hal h1, fun i hi w hw => ?_, h3.moved hal, h4.moved hal, State.isArrayOf_alike hal h5, h6⟩
  have hk := List.all_eq_true.mp am_NW_ok i hi
  rw [hw] at hk
  have hz := h2 i hi w hw
  cases w with
  | methodLinkNest a j y q => exact va_Nw.same rfl hv hz
  | castable a q => exact va_Nw.same rfl hv hz
  | _ => simp at hk
/-- a method's words -/
def am_mw (M : Nat) : List Cond := Cond.code (am_y M) (am_by M) (am_ml M) (am_rt M) :: am_GW
def am_ro (M k n : Nat) : Room := { frames := am_fr M, cells := k, slots := n, locals := am_lo M }
def am_Pc (bs b : Nat) (cA : Nat → ClassId) (D : va_G) (scr : Cell) (as : List am_V) (h : am_H) : Array Value → State → Prop := fun v U => v = (as.map (am_cv bs b)).toArray ∧ am_HW bs b cA D scr h U.heap ∧ am_KW cA D scr U
def am_Qc (bs b : Nat) (cA : Nat → ClassId) (D : va_G) (scr : Cell) (r : Option am_V) (h : am_H) : Array Value → State → Outcome → State → Prop := fun _ _ oc t => oc = .returned (r.map (am_cv bs b)) ∧ am_HW bs b cA D scr h t.heap
/-- the contract of a run of the small machine -/
def am_Met (l : Launch) (bs b : Nat) (cA : Nat → ClassId) (D : va_G) (scr : Cell) (Y : Nat) (as : List am_V) (h : am_H) (r : Option am_V) (h' : am_H) : Prop :=
  Met l (am_y Y) (am_mw Y) (am_ro Y (h'.2.1 - h.2.1) (h'.2.2 - h.2.2)) (am_Pc bs b cA D scr as h) (am_Qc bs b cA D scr r h') (h'.2.1 - h.2.1) (h'.2.2 - h.2.2) (fun q => bs < q)
theorem am_blind {bs b : Nat} {cA : Nat → ClassId} {D : va_G} {scr : Cell} {as : List am_V} {h : am_H} : FrameBlind (am_Pc bs b cA D scr as h) := fun a U g mk q => ⟨q.1, q.2.1, am_KW.same (u := U) rfl q.2.2⟩
theorem am_GGW {Y : Nat} (h : Y < 154) : GoodIn am_GW (am_mw Y) := by
  intro w hw
  rcases List.mem_cons.mp hw with rfl | hw
  · exact ⟨(am_okMs h).1, good_of_word (List.mem_filter.mp (am_okMs h).1).2⟩
  · exact ⟨hw, good_of_word (List.mem_filter.mp hw).2⟩
section Calls
variable {p : Program} {l : Launch} {e : Env} {R : Room} {s : State} {m : MethodId} {args : Array Value} {below : List Frame} {meth : Method} {c : Code} {Q : State → Prop} {bs b : Nat} {cA : Nat → ClassId} {D : va_G} {scr : Cell} {M n0 z0 pc : Nat} {la : List am_V} {h : am_H} {ls : Array Slot} {H : Heap} {locs : List Loc}
/-- from the run of a callee to what follows -/
theorem am_after {st0 rest : List am_V} {as : List am_V} {r : Option am_V} {h' : am_H} (hr1 : h.2.1 ≤ h'.2.1) (hr2 : h.2.2 ≤ h'.2.2) (hI : am_I bs b cA D scr M n0 z0 h H locs la ls)
    (hrun : va_Run p l e R s m args below meth c H locs (h.2.1 - n0) (h.2.2 - z0) (h'.2.1 - h.2.1) (h'.2.2 - h.2.2) (F0 m pc ls (st0.map (am_cv bs b))) (rest.map (am_cv bs b)) (am_Qc bs b cA D scr r h' (as.map (am_cv bs b)).toArray) (fun q => bs < q))
    (kk : ∀ (H' : Heap) (locs' : List Loc), am_I bs b cA D scr M n0 z0 h' H' locs' la ls → W p l e R s m args below meth c H' locs' (h'.2.1 - n0) (h'.2.2 - z0) Q (F0 m (pc + 3) ls ((r.toList ++ rest).map (am_cv bs b)))) :
    W p l e R s m args below meth c H locs (h.2.1 - n0) (h.2.2 - z0) Q (F0 m pc ls (st0.map (am_cv bs b))) := by
  intro T hT X
  obtain ⟨v, st₀, t, T', L, e0, X', hL, e1, e2, ⟨hv, hw⟩, st⟩ := hrun T hT X
  cases hv
  have hn1 := hI.2.2.2
  have c1 : h.2.1 - n0 + (h'.2.1 - h.2.1) = h'.2.1 - n0 := by omega
  have c2 : h.2.2 - z0 + (h'.2.2 - h.2.2) = h'.2.2 - z0 := by omega
  rw [c1, c2] at X'
  have k2 := kk T'.heap (locs ++ L) ⟨hI.1, by rw [e1]; exact hw, fun q hq => by
    rcases List.mem_append.mp hq with z | z
    · exact hI.2.2.1 q z
    · exact hL q z, by omega, by omega⟩
  obtain ⟨t2, a1, b1⟩ := k2 T' rfl X'
  refine ⟨t2, st t2 ?_, b1⟩
  have e3 : (r.map (am_cv bs b)).toList ++ rest.map (am_cv bs b) = (r.toList ++ rest).map (am_cv bs b) := by cases r <;> rfl
  rw [e3]
  exact a1
theorem am_sum {rest : List am_V} (h : (rest.map am_ct).sum ≤ 8) : ((rest.map (am_cv bs b)).map fun v => v.category).sum ≤ 8 := by
  rw [List.map_map]
  have e : ((fun v => Value.category v) ∘ am_cv bs b) = am_ct := funext fun v => am_cvct bs b v
  rw [e]; exact h
/-- what am_call says -/
theorem am_call_spec {Y : Nat} {st : List am_V} {q : Nat × List am_V × List am_V} (hx : am_call M Y st = some (.inr (.inr q))) : q.1 = Y ∧ q.2.1.length = am_na Y ∧ st = q.2.1.reverse ++ q.2.2 ∧ (q.2.2.map am_ct).sum ≤ 8 ∧ q.2.1.all am_ir = true ∧ am_na Y ≤ am_ml Y ∧ am_fr Y + 1 ≤ am_fr M ∧ 8 + (am_ml Y + 11) + am_lo Y ≤ am_lo M ∧ Y < 154 ∧ 1 ≤ am_na Y := by
  unfold am_call at hx
  split at hx
  · rename_i hq
    obtain ⟨h1, h2, h3, h4⟩ := hq
    have := Sum.inr.inj (Sum.inr.inj (Option.some.inj hx))
    subst this
    simp only [am_fit, Bool.and_eq_true, decide_eq_true_eq] at h4
    refine ⟨rfl, by simp [h1], by simp, h3, by rw [List.all_reverse]; exact h2, h4.1.1.1.1, h4.1.1.1.2, h4.1.1.2, h4.1.2, h4.2⟩
  · cases hx
theorem am_call_no {Y : Nat} {st : List am_V} {q : (Nat × List am_V × List am_V × am_H) ⊕ Option am_V} : am_call M Y st ≠ some (match q with | .inl a => .inl a | .inr r => .inr (.inl r)) := by
  unfold am_call
  split
  · intro z; cases q <;> cases z
  · intro z; cases q <;> cases z
end Calls
/-- a step that calls -/
def am_SC (ins : Instr) : Prop := ∀ (p : Program) (l : Launch) (e : Env) (R : Room) (s : State) (m : MethodId) (args : Array Value) (below : List Frame) (meth : Method) (c : Code) (Q : State → Prop) (bs b : Nat) (cA : Nat → ClassId) (D : va_G) (scr : Cell) (M n0 z0 pc len : Nat) (la st : List am_V) (h : am_H) (q : Nat × List am_V × List am_V) (r : Option am_V) (h' : am_H) (ls : Array Slot) (H : Heap) (locs : List Loc),
  am_CX p R s m args meth c cA D scr M → decode (am_by M) pc = .ok (ins, len) → am_ex M pc ins len la st h = some (.inr (.inr q)) → am_I bs b cA D scr M n0 z0 h H locs la ls → h.2.1 ≤ h'.2.1 → h.2.2 ≤ h'.2.2 → h'.2.1 - n0 ≤ R.cells ∧ h'.2.2 - z0 ≤ R.slots →
  am_Met l bs b cA D scr q.1 q.2.1 h r h' →
  (∀ (H' : Heap) (locs' : List Loc), am_I bs b cA D scr M n0 z0 h' H' locs' la ls → W p l e R s m args below meth c H' locs' (h'.2.1 - n0) (h'.2.2 - z0) Q (F0 m (pc + 3) ls ((r.toList ++ q.2.2).map (am_cv bs b)))) →
  W p l e R s m args below meth c H locs (h.2.1 - n0) (h.2.2 - z0) Q (F0 m pc ls (st.map (am_cv bs b)))
