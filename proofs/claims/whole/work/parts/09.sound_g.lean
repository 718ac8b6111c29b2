/-! Soundness of a run -/
theorem am_to_h {pc : Nat} {off : Int} {ls st : List am_V} {h : am_H} {q : Nat × List am_V × List am_V × am_H} (hx : am_to pc off ls st h = some (.inl q)) : q.2.2.2 = h := by
  have := (am_to_spec hx).1
  rw [this]
theorem am_to_no {pc : Nat} {off : Int} {ls st : List am_V} {h : am_H} {q : Option am_V ⊕ (Nat × List am_V × List am_V)} : am_to pc off ls st h ≠ some (.inr q) := by
  unfold am_to
  split <;> intro z <;> cases z
set_option maxHeartbeats 4000000 in
theorem am_ex_mono {M pc len : Nat} {ins : Instr} {ls st : List am_V} {h : am_H} {q : Nat × List am_V × List am_V × am_H} (hx : am_ex M pc ins len ls st h = some (.inl q)) : h.2.1 ≤ q.2.2.2.2.1 ∧ h.2.2 ≤ q.2.2.2.2.2 := by
  unfold am_ex at hx
  split at hx
  all_goals (repeat' split at hx)
  all_goals first
    | (cases hx; done)
    | exact absurd hx (am_call_no (q := .inl q))
    | (have e := am_to_h hx; rw [e]; exact ⟨Nat.le_refl _, Nat.le_refl _⟩)
    | (obtain rfl := (Sum.inl.inj (Option.some.inj hx)).symm; exact ⟨Nat.le_refl _, Nat.le_refl _⟩)
    | (obtain rfl := (Sum.inl.inj (Option.some.inj hx)).symm; exact ⟨Nat.le_succ _, Nat.le_add_right _ _⟩)
theorem am_nx_of {M pc : Nat} {ls st : List am_V} {h : am_H} {x : am_N} (hx : am_nx M pc ls st h = some x) : ∃ ins len, decode (am_by M) pc = .ok (ins, len) ∧ am_ex M pc ins len ls st h = some x := by
  unfold am_nx at hx
  split at hx
  · rename_i ins len hd
    exact ⟨ins, len, hd, hx⟩
  · cases hx
theorem am_run_up : ∀ (f M pc : Nat) (ls st : List am_V) (h : am_H) (r : Option am_V) (h' : am_H), am_run f M pc ls st h = some (r, h') → h.2.1 ≤ h'.2.1 ∧ h.2.2 ≤ h'.2.2 := by
  intro f
  induction f with
  | zero => intro M pc ls st h r h' hr; simp [am_run] at hr
  | succ f ih =>
    intro M pc ls st h r h' hr
    rw [am_run] at hr
    cases hn : am_nx M pc ls st h with
    | none => rw [hn] at hr; simp at hr
    | some q =>
      rw [hn] at hr
      rcases q with q | q | q
      · simp only at hr
        obtain ⟨ins, len, hd, hx⟩ := am_nx_of hn
        have h1 := am_ex_mono hx
        have h2 := ih _ _ _ _ _ _ _ hr
        omega
      · simp only [Option.some.injEq, Prod.mk.injEq] at hr
        rw [hr.2]
        exact ⟨Nat.le_refl _, Nat.le_refl _⟩
      · simp only at hr
        cases hc : am_run f q.1 0 (am_il q.1 q.2.1) [] h with
        | none => rw [hc] at hr; simp at hr
        | some S =>
          rw [hc] at hr
          simp only at hr
          have h1 := ih _ _ _ _ _ S.1 S.2 hc
          have h2 := ih _ _ _ _ _ _ _ hr
          omega
set_option maxHeartbeats 4000000 in
theorem am_sd_all {M pc len : Nat} {ins : Instr} {ls st : List am_V} {h : am_H} {q : Nat × List am_V × List am_V × am_H} (hx : am_ex M pc ins len ls st h = some (.inl q)) : am_SD ins := by
  cases ins with
  | iconst i => exact sd_iconst i
  | bipush i => exact sd_bipush i
  | sipush i => exact sd_sipush i
  | lconst i => exact sd_lconst i
  | ldc i => exact sd_ldc i
  | ldc_w i => exact sd_ldc_w i
  | ldc2_w i => exact sd_ldc2_w i
  | iload_n i => exact sd_iload_n i
  | iload i => exact sd_iload i
  | aload_n i => exact sd_aload_n i
  | aload i => exact sd_aload i
  | istore_n i => exact sd_istore_n i
  | istore i => exact sd_istore i
  | astore_n i => exact sd_astore_n i
  | astore i => exact sd_astore i
  | iinc i n => exact sd_iinc i n
  | iadd => exact sd_iadd
  | isub => exact sd_isub
  | imul => exact sd_imul
  | idiv => exact sd_idiv
  | irem => exact sd_irem
  | ineg => exact sd_ineg
  | iand => exact sd_iand
  | ior => exact sd_ior
  | ishl => exact sd_ishl
  | ishr => exact sd_ishr
  | iushr => exact sd_iushr
  | ladd => exact sd_ladd
  | lcmp => exact sd_lcmp
  | dup => exact sd_dup
  | pop => exact sd_pop
  | dup2 => exact sd_dup2
  | ifCond c off => exact sd_ifCond c off
  | if_icmp c off => exact sd_if_icmp c off
  | goto off => exact sd_goto off
  | tableswitch d lo hi offs => exact sd_tableswitch d lo hi offs
  | lookupswitch d ps => exact sd_lookupswitch d ps
  | getfield i => exact sd_getfield i
  | putfield i => exact sd_putfield i
  | iaload => exact sd_iaload
  | iastore => exact sd_iastore
  | baload => exact sd_baload
  | bastore => exact sd_bastore
  | aaload => exact sd_aaload
  | aastore => exact sd_aastore
  | arraylength => exact sd_arraylength
  | newarray t => exact sd_newarray t
  | anewarray i => exact sd_anewarray i
  | new i => exact sd_new i
  | invokestatic i => exact sd_invokestatic i
  | invokevirtual i => exact sd_invokevirtual i
  | invokespecial i => exact sd_invokespecial i
  | ireturn =>
    exfalso
    simp only [am_ex] at hx
    (repeat' split at hx) <;> cases hx
  | lreturn =>
    exfalso
    simp only [am_ex] at hx
    (repeat' split at hx) <;> cases hx
  | return_ =>
    exfalso
    simp only [am_ex] at hx
    (repeat' split at hx) <;> cases hx
  | _ => simp [am_ex] at hx
set_option maxHeartbeats 4000000 in
theorem am_sc_all {M pc len : Nat} {ins : Instr} {ls st : List am_V} {h : am_H} {q : Nat × List am_V × List am_V} (hx : am_ex M pc ins len ls st h = some (.inr (.inr q))) : am_SC ins ∧ am_call M q.1 st = some (.inr (.inr q)) := by
  have key : ∀ {Y : Nat}, am_call M Y st = some (.inr (.inr q)) → am_call M q.1 st = some (.inr (.inr q)) := fun {Y} hc => by
    rw [(am_call_spec hc).1]; exact hc
  unfold am_ex at hx
  split at hx
  all_goals (repeat' split at hx)
  all_goals first
    | (cases hx; done)
    | exact absurd hx am_to_no
    | exact ⟨sc_invokestatic _, key hx⟩
    | exact ⟨sc_invokevirtual _, key hx⟩
    | exact ⟨sc_invokespecial _, key hx⟩
/-- the frame with which a method begins -/
theorem am_sl1 (bs b : Nat) : ∀ (as : List am_V), as.all am_ir = true → lg_sl (as.map (am_cv bs b)) = as.map (fun v => Slot.val (am_cv bs b v))
  | [], _ => rfl
  | v :: as, h => by
    simp only [List.all_cons, Bool.and_eq_true] at h
    have hc : ¬ (am_cv bs b v).category = 2 := by
      rcases v with v | v | v | v
      · simp [am_cv, Value.category]
      · simp [am_ir] at h
      · cases v <;> simp [am_cv, Value.category]
      · simp [am_ir] at h
    have ih := am_sl1 bs b as h.2
    simp only [lg_sl, List.map_cons, List.flatMap_cons] at ih ⊢
    rw [if_neg hc, ih]
    rfl
theorem am_entry (bs b : Nat) {Y : Nat} {as : List am_V} (ha : as.all am_ir = true) (hn : as.length ≤ am_ml Y) : am_LR bs b (am_il Y as) ((lg_sl (as.map (am_cv bs b)) ++ List.replicate (am_ml Y - (lg_sl (as.map (am_cv bs b))).length) Slot.unset).toArray) (am_ml Y) := by
  have e1 := am_sl1 bs b as ha
  have e2 : (lg_sl (as.map (am_cv bs b))).length = as.length := by rw [e1, List.length_map]
  obtain ⟨h1, h2, -⟩ := lv_entry (as.map (am_cv bs b)) (n := am_ml Y) (by rw [e2]; exact hn)
  refine ⟨by simp [am_il]; omega, h1, h2, fun k v hk hv => ?_⟩
  have hlt : k < as.length := by
    rcases Nat.lt_or_ge k as.length with z | z
    · exact z
    · unfold am_il at hk
      rw [List.getElem?_append_right z] at hk
      have := List.eq_of_mem_replicate (List.mem_of_getElem? hk)
      rw [this] at hv
      cases hv
  unfold am_il at hk
  rw [List.getElem?_append_left hlt] at hk
  rw [List.getElem?_toArray, List.getElem?_append_left (by rw [e2]; exact hlt), e1, List.getElem?_map, hk]
  rfl
/-- what stands at a return, so that the run goes on to the end -/
def am_RT (p : Program) (l : Launch) (e : Env) (R : Room) (s : State) (m : MethodId) (args : Array Value) (below : List Frame) (meth : Method) (c : Code) (Q : State → Prop) (bs b : Nat) (cA : Nat → ClassId) (D : va_G) (scr : Cell) (M n0 z0 : Nat) (r : Option am_V) (h : am_H) : Prop :=
  ∀ (pc len : Nat) (ins : Instr) (la st : List am_V) (ls : Array Slot) (H : Heap) (locs : List Loc), decode (am_by M) pc = .ok (ins, len) → am_ex M pc ins len la st h = some (.inr (.inl r)) → am_I bs b cA D scr M n0 z0 h H locs la ls → W p l e R s m args below meth c H locs (h.2.1 - n0) (h.2.2 - z0) Q (F0 m pc ls (st.map (am_cv bs b)))
set_option maxHeartbeats 4000000 in
theorem am_rt_met {p : Program} {l : Launch} {e : Env} {R : Room} {s : State} {m : MethodId} {args : Array Value} {below : List Frame} {meth : Method} {c : Code} {bs b : Nat} {cA : Nat → ClassId} {D : va_G} {scr : Cell} {M n0 z0 : Nat} {r : Option am_V} {h : am_H} (hex : p.tables.exec = Jvm.exec) (hb : c.code = am_by M) (hr : meth.sig.returnType = am_rt M) (hlocks : meth.locks = false) :
    am_RT p l e R s m args below meth c (MQ below (am_Qc bs b cA D scr r h) args s (h.2.1 - n0) (h.2.2 - z0) (fun q => bs < q)) bs b cA D scr M n0 z0 r h := by
  intro pc len ins la st ls H locs hd hx hI
  have hq : ∀ t : State, t.heap = H → s.WarmedH t.vm → am_Qc bs b cA D scr r h args s (.returned (r.map (am_cv bs b))) t := fun t ht _ => ⟨rfl, by rw [ht]; exact hI.2.1⟩
  unfold am_ex at hx
  split at hx
  all_goals (repeat' split at hx)
  all_goals first
    | (cases hx; done)
    | exact absurd hx am_to_no
    | exact absurd hx (am_call_no (q := .inr r))
    | skip
  · rename_i x hz
    obtain rfl := (Sum.inl.inj (Sum.inr.inj (Option.some.inj hx))).symm
    obtain ⟨hl, hz⟩ := hz
    subst hl
    rcases hz with hz | ⟨hz, hx01⟩
    · exact W.zret (ty := .int) hex hb (by rw [hr]; exact hz) rfl hq hI.2.2.1 hd hlocks
    · refine W.zret (ty := .boolean) hex hb (by rw [hr]; exact hz) ?_ hq hI.2.2.1 hd hlocks
      rcases hx01 with z | z <;> subst z <;> decide +kernel
  · rename_i x hz
    obtain rfl := (Sum.inl.inj (Sum.inr.inj (Option.some.inj hx))).symm
    obtain ⟨hl, hz⟩ := hz
    subst hl
    exact W.lret hex hb (by rw [hr]; exact hz) hq hI.2.2.1 hd hlocks
  · rename_i hz
    obtain rfl := (Sum.inl.inj (Sum.inr.inj (Option.some.inj hx))).symm
    obtain ⟨hl, hz⟩ := hz
    subst hl
    exact W.vret hex hb (by rw [hr]; exact hz) hq hI.2.2.1 hd hlocks
set_option maxHeartbeats 4000000 in
/-- THE RUN: what the small machine comes to, the machine comes to -/
theorem am_sound (l : Launch) (bs b : Nat) (cA : Nat → ClassId) (D : va_G) (scr : Cell) : ∀ (f M pc : Nat) (la st : List am_V) (h : am_H) (r : Option am_V) (h' : am_H), am_run f M pc la st h = some (r, h') →
    ∀ (p : Program) (e : Env) (R : Room) (s : State) (m : MethodId) (args : Array Value) (below : List Frame) (meth : Method) (c : Code) (Q : State → Prop) (n0 z0 : Nat) (ls : Array Slot) (H : Heap) (locs : List Loc),
      am_CX p R s m args meth c cA D scr M → am_I bs b cA D scr M n0 z0 h H locs la ls → h'.2.1 - n0 ≤ R.cells ∧ h'.2.2 - z0 ≤ R.slots → am_RT p l e R s m args below meth c Q bs b cA D scr M n0 z0 r h' →
      W p l e R s m args below meth c H locs (h.2.1 - n0) (h.2.2 - z0) Q (F0 m pc ls (st.map (am_cv bs b))) := by
  intro f
  induction f with
  | zero => intro M pc la st h r h' hr; simp [am_run] at hr
  | succ f ih =>
    intro M pc la st h r h' hr p e R s m args below meth c Q n0 z0 ls H locs CX hI hR hT
    rw [am_run] at hr
    cases hn : am_nx M pc la st h with
    | none => rw [hn] at hr; simp at hr
    | some q =>
      rw [hn] at hr
      obtain ⟨ins, len, hd, hx⟩ := am_nx_of hn
      rcases q with q | q | q
      · simp only at hr
        have hup := am_run_up _ _ _ _ _ _ _ _ hr
        refine am_sd_all hx p l e R s m args below meth c Q bs b cA D scr M n0 z0 pc len la st h q ls H locs CX hd hx hI (by omega) (fun ls' H' locs' hI' => ?_)
        exact ih _ _ _ _ _ _ _ hr p e R s m args below meth c Q n0 z0 ls' H' locs' CX hI' hR hT
      · simp only [Option.some.injEq, Prod.mk.injEq] at hr
        obtain ⟨rfl, rfl⟩ := hr
        exact hT pc len ins la st ls H locs hd hx hI
      · simp only at hr
        cases hc : am_run f q.1 0 (am_il q.1 q.2.1) [] h with
        | none => rw [hc] at hr; simp at hr
        | some S =>
          rw [hc] at hr
          simp only at hr
          obtain ⟨r1, h1⟩ := S
          have hup1 := am_run_up _ _ _ _ _ _ _ _ hc
          have hup2 := am_run_up _ _ _ _ _ _ _ _ hr
          simp only at hr hup1 hup2
          obtain ⟨hsc, hcall⟩ := am_sc_all hx
          obtain ⟨-, c1, c2, c3, c4, c5, c6, c7, c8, c9⟩ := am_call_spec hcall
          have hmet : am_Met l bs b cA D scr q.1 q.2.1 h r1 h1 := by
            refine Met.ofW (cc := am_by q.1) (maxL := am_ml q.1) (ret := am_rt q.1) (am_okMs c8).2.2.1 rfl ?_
            intro p e s m args below meth c s₁ B hml hv
            obtain ⟨rfl, hw, hk⟩ := hv
            have hts := atoms_spec (ws := am_mw q.1) B.pre
            have hown : s.vm.findClass (am_y q.1).cls = some m.cls := findClass_of_methodNamed B.named
            rw [(am_okMs c8).2.2.2.2.2] at hown
            have hnm : meth.name = (am_y q.1).name := (name_of_methodNamed B.named B.method).1
            have key := ih _ _ _ _ _ _ _ hc p e (headSpec (am_mw q.1) (am_ro q.1 (h1.2.1 - h.2.1) (h1.2.2 - h.2.2))).room s m (q.2.1.map (am_cv bs b)).toArray below meth c (MQ below (am_Qc bs b cA D scr r1 h1) (q.2.1.map (am_cv bs b)).toArray s (h1.2.1 - h.2.1) (h1.2.2 - h.2.2) (fun q => bs < q)) h.2.1 h.2.2 _ s.heap []
              ⟨B.exec, B.bytes, hml, hown, fun w hw => hts w (List.mem_cons_of_mem _ hw), hk, Nat.le_refl _, Nat.le_refl _, fun z => by rw [hnm]; exact z⟩
              ⟨am_entry bs b c4 (by rw [c1]; exact c5), hw, fun q hq => (by cases hq), Nat.le_refl _, Nat.le_refl _⟩ ⟨Nat.le_refl _, Nat.le_refl _⟩
              (am_rt_met B.exec B.bytes B.returns B.notSynchronized)
            rw [lg_entry_eq]
            simpa only [Nat.sub_self, List.map_nil] using key
          refine hsc p l e R s m args below meth c Q bs b cA D scr M n0 z0 pc len la st h q r1 h1 ls H locs CX hd hx hI hup1.1 hup1.2 (by omega) hmet (fun H' locs' hI' => ?_)
          exact ih _ _ _ _ _ _ _ hr p e R s m args below meth c Q n0 z0 ls H' locs' CX hI' hR hT
