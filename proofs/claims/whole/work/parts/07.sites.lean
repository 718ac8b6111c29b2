/-! call sites -/
def am_okS (e : Nat × Nat × Nat × Nat × List Nat) : Bool := match e with
  | (oc, idx, 0, t, [a, b, c]) => decide (lw_tbl[a]? = some (.methodLink (am_cn oc) idx (am_y t))) && decide (lw_tbl[b]? = some (.instanceMethod (am_y t))) && decide (lw_tbl[c]? = some (.selects (am_y t).cls (am_y t) (am_y t))) && decide (am_np t + 1 = am_na t)
  | (oc, idx, 1, t, [a, b]) => decide (lw_tbl[a]? = some (.methodLink (am_cn oc) idx (am_y t))) && decide (lw_tbl[b]? = some (.static (am_y t))) && decide (am_np t = am_na t)
  | (oc, idx, 2, t, [a, b]) => decide (lw_tbl[a]? = some (.methodLinkNest (am_cn oc) idx (am_y t) "CellNeighbours")) && decide (a ∈ am_NW) && decide (lw_tbl[b]? = some (.static (am_y t))) && decide (am_np t = am_na t)
  | (oc, idx, 3, t, [a, b]) => decide (lw_tbl[a]? = some (.methodLink (am_cn oc) idx (am_y t))) && decide (lw_tbl[b]? = some (.instanceMethod (am_y t))) && decide ((am_y t).name = "<init>") && decide (am_np t + 1 = am_na t) && decide (am_rt t = none)
  | (oc, idx, 4, t, [a, b]) => decide (lw_tbl[a]? = some (.methodLinkNest (am_cn oc) idx (am_y t) "CellNeighbours")) && decide (a ∈ am_NW) && decide (lw_tbl[b]? = some (.instanceMethod (am_y t))) && decide ((am_y t).name = "<init>") && decide (am_np t + 1 = am_na t) && decide (am_rt t = none)
  | (oc, idx, 5, t, [a, b, c, d]) => decide (lw_tbl[a]? = some (.methodLink (am_cn oc) idx (am_y t))) && decide (lw_tbl[b]? = some (.sameMethod (am_y t).cls (am_y t).cls (am_y t).name (am_y t).desc)) && decide (lw_tbl[c]? = some (.superclass (am_cn oc) (am_y t).cls)) && decide (lw_tbl[d]? = some (.instanceMethod (am_y t))) && decide ((am_y t).name ≠ "<init>") && decide (am_np t + 1 = am_na t)
  | (oc, idx, 6, t, [a, b, c, d0, e0, d1, e1, d2, e2, d3, e3, d4, e4, d5, e5]) => decide (lw_tbl[a]? = some (.methodLink (am_cn oc) idx (am_y t))) && decide (lw_tbl[b]? = some (.sameMethod (am_y t).cls (am_y t).cls (am_y t).name (am_y t).desc)) && decide (lw_tbl[c]? = some (.instanceMethod (am_y t))) && decide (am_np t + 1 = am_na t) && decide (t < 154) &&
      ([(0, d0, e0), (1, d1, e1), (3, d2, e2), (4, d3, e3), (9, d4, e4), (10, d5, e5)] : List (Nat × Nat × Nat)).all (fun q => decide (lw_tbl[q.2.1]? = some (.selects (am_cn q.1) (am_y t) (am_y (am_wo q.1)))) && decide (lw_tbl[q.2.2]? = some (.instanceMethod (am_y (am_wo q.1)))) && decide (am_na (am_wo q.1) = am_na t))
  | (oc, idx, 8, _, [a, b, c]) => decide (lw_tbl[a]? = some (.methodLink (am_cn oc) idx Lib.objectInit)) && decide (lw_tbl[b]? = some (.instanceMethod Lib.objectInit)) && decide (lw_tbl[c]? = some (.code Lib.objectInit ⟨#[0xb1]⟩ 1 none))
  | (oc, idx, 9, _, [a, b, c, d]) => decide (lw_tbl[a]? = some (.methodLink (am_cn oc) idx arraycopyName)) && decide (lw_tbl[b]? = some (.native arraycopyName)) && decide (lw_tbl[c]? = some (.static arraycopyName)) && decide (lw_tbl[d]? = some (.initialized "java/lang/System"))
  | (oc, idx, 10, _, [a, b, c, d]) => decide (lw_tbl[a]? = some (.methodLink (am_cn oc) idx Lib.Math.max.name)) && decide (lw_tbl[b]? = some (.static Lib.Math.max.name)) && decide (lw_tbl[c]? = some (.initialized "java/lang/Math")) && decide (lw_tbl[d]? = some (.code Lib.Math.max.name Lib.Math.max.code 2 (some .int)))
  | (oc, idx, 11, _, [a, b, c, d]) => decide (lw_tbl[a]? = some (.methodLink (am_cn oc) idx Lib.Math.min.name)) && decide (lw_tbl[b]? = some (.static Lib.Math.min.name)) && decide (lw_tbl[c]? = some (.initialized "java/lang/Math")) && decide (lw_tbl[d]? = some (.code Lib.Math.min.name Lib.Math.min.code 2 (some .int)))
  | _ => false
set_option maxRecDepth 100000 in
theorem am_ST_ok0 : (am_ST.take 100).all am_okS = true := by decide +kernel
set_option maxRecDepth 100000 in
theorem am_ST_ok1 : (am_ST.drop 100).all am_okS = true := by decide +kernel
theorem am_st_ok {oc idx kd t : Nat} (h : am_st oc idx = some (kd, t)) : ∃ pl, am_okS (oc, idx, kd, t, pl) = true := by
  unfold am_st at h
  cases hf : am_ST.find? (fun e => e.1 == oc && e.2.1 == idx) with
  | none => rw [hf] at h; simp at h
  | some e =>
    rw [hf] at h
    simp only [Option.map_some, Option.some.injEq, Prod.mk.injEq] at h
    have h1 := List.find?_some hf
    have h3 : am_ST.all am_okS = true := by
      rw [← List.take_append_drop 100 am_ST, List.all_append, am_ST_ok0, am_ST_ok1]; rfl
    have h2 := List.all_eq_true.mp h3 e (List.mem_of_find?_eq_some hf)
    obtain ⟨a1, a2, a3, a4, a5⟩ := e
    simp only [Bool.and_eq_true, beq_iff_eq] at h1
    obtain ⟨rfl, rfl⟩ := h1
    obtain ⟨rfl, rfl⟩ := h
    exact ⟨a5, h2⟩
