/-! call sites -/
def am_p (pl : List Nat) (i : Nat) : Option Cond := lw_tbl[pl.getD i 0]?
def am_ok0 (oc idx t : Nat) (pl : List Nat) : Bool := decide (am_p pl 0 = some (.methodLink (am_cn oc) idx (am_y t))) && decide (am_p pl 1 = some (.instanceMethod (am_y t))) && decide (am_p pl 2 = some (.selects (am_y t).cls (am_y t) (am_y t))) && decide (am_np t + 1 = am_na t)
def am_ok1 (oc idx t : Nat) (pl : List Nat) : Bool := decide (am_p pl 0 = some (.methodLink (am_cn oc) idx (am_y t))) && decide (am_p pl 1 = some (.static (am_y t))) && decide (am_np t = am_na t)
def am_ok2 (oc idx t : Nat) (pl : List Nat) : Bool := decide (am_p pl 0 = some (.methodLinkNest (am_cn oc) idx (am_y t) "CellNeighbours")) && decide (pl.getD 0 0 ∈ am_NW) && decide (am_p pl 1 = some (.static (am_y t))) && decide (am_np t = am_na t)
def am_ok3 (oc idx t : Nat) (pl : List Nat) : Bool := decide (am_p pl 0 = some (.methodLink (am_cn oc) idx (am_y t))) && decide (am_p pl 1 = some (.instanceMethod (am_y t))) && decide ((am_y t).name = "<init>") && decide (am_np t + 1 = am_na t) && decide (am_rt t = none)
def am_ok4 (oc idx t : Nat) (pl : List Nat) : Bool := decide (am_p pl 0 = some (.methodLinkNest (am_cn oc) idx (am_y t) "CellNeighbours")) && decide (pl.getD 0 0 ∈ am_NW) && decide (am_p pl 1 = some (.instanceMethod (am_y t))) && decide ((am_y t).name = "<init>") && decide (am_np t + 1 = am_na t) && decide (am_rt t = none)
def am_ok5 (oc idx t : Nat) (pl : List Nat) : Bool := decide (am_p pl 0 = some (.methodLink (am_cn oc) idx (am_y t))) && decide (am_p pl 1 = some (.sameMethod (am_y t).cls (am_y t).cls (am_y t).name (am_y t).desc)) && decide (am_p pl 2 = some (.superclass (am_cn oc) (am_y t).cls)) && decide (am_p pl 3 = some (.instanceMethod (am_y t))) && decide ((am_y t).name ≠ "<init>") && decide (am_np t + 1 = am_na t)
def am_ok6 (oc idx t : Nat) (pl : List Nat) : Bool := decide (am_p pl 0 = some (.methodLink (am_cn oc) idx (am_y t))) && decide (am_p pl 1 = some (.sameMethod (am_y t).cls (am_y t).cls (am_y t).name (am_y t).desc)) && decide (am_p pl 2 = some (.instanceMethod (am_y t))) && decide (am_np t + 1 = am_na t) && decide (t < 154) &&
  ([(0, 3), (1, 5), (3, 7), (4, 9), (9, 11), (10, 13)] : List (Nat × Nat)).all (fun q => decide (am_p pl q.2 = some (.selects (am_cn q.1) (am_y t) (am_y (am_wo q.1)))) && decide (am_p pl (q.2 + 1) = some (.instanceMethod (am_y (am_wo q.1)))) && decide (am_na (am_wo q.1) = am_na t))
def am_ok8 (oc idx : Nat) (pl : List Nat) : Bool := decide (am_p pl 0 = some (.methodLink (am_cn oc) idx Lib.objectInit)) && decide (am_p pl 1 = some (.instanceMethod Lib.objectInit)) && decide (am_p pl 2 = some (.code Lib.objectInit ⟨#[0xb1]⟩ 1 none))
def am_ok9 (oc idx : Nat) (pl : List Nat) : Bool := decide (am_p pl 0 = some (.methodLink (am_cn oc) idx arraycopyName)) && decide (am_p pl 1 = some (.native arraycopyName)) && decide (am_p pl 2 = some (.static arraycopyName)) && decide (am_p pl 3 = some (.initialized "java/lang/System"))
def am_ok10 (oc idx : Nat) (pl : List Nat) : Bool := decide (am_p pl 0 = some (.methodLink (am_cn oc) idx Lib.Math.max.name)) && decide (am_p pl 1 = some (.static Lib.Math.max.name)) && decide (am_p pl 2 = some (.initialized "java/lang/Math")) && decide (am_p pl 3 = some (.code Lib.Math.max.name Lib.Math.max.code 2 (some .int)))
def am_ok11 (oc idx : Nat) (pl : List Nat) : Bool := decide (am_p pl 0 = some (.methodLink (am_cn oc) idx Lib.Math.min.name)) && decide (am_p pl 1 = some (.static Lib.Math.min.name)) && decide (am_p pl 2 = some (.initialized "java/lang/Math")) && decide (am_p pl 3 = some (.code Lib.Math.min.name Lib.Math.min.code 2 (some .int)))
def am_okS (e : Nat × Nat × Nat × Nat × List Nat) : Bool := match e.2.2.1 with
  | 0 => am_ok0 e.1 e.2.1 e.2.2.2.1 e.2.2.2.2
  | 1 => am_ok1 e.1 e.2.1 e.2.2.2.1 e.2.2.2.2
  | 2 => am_ok2 e.1 e.2.1 e.2.2.2.1 e.2.2.2.2
  | 3 => am_ok3 e.1 e.2.1 e.2.2.2.1 e.2.2.2.2
  | 4 => am_ok4 e.1 e.2.1 e.2.2.2.1 e.2.2.2.2
  | 5 => am_ok5 e.1 e.2.1 e.2.2.2.1 e.2.2.2.2
  | 6 => am_ok6 e.1 e.2.1 e.2.2.2.1 e.2.2.2.2
  | 8 => am_ok8 e.1 e.2.1 e.2.2.2.2
  | 9 => am_ok9 e.1 e.2.1 e.2.2.2.2
  | 10 => am_ok10 e.1 e.2.1 e.2.2.2.2
  | 11 => am_ok11 e.1 e.2.1 e.2.2.2.2
  | _ => false
set_option maxRecDepth 100000 in
theorem am_ST_ok0 : (am_ST.take 100).all am_okS = true := by decide +kernel
set_option maxRecDepth 100000 in
theorem am_ST_ok1 : (am_ST.drop 100).all am_okS = true := by decide +kernel
theorem am_st_ok {oc idx kd t : Nat} (h : am_st oc idx = some (kd, t)) : ∃ pl, am_okS (oc, idx, kd, t, pl) = true := by
  unfold am_st at h
  cases hf : am_ST.find? (fun e => e.1 == oc && e.2.1 == idx) with
  | none => rw [hf] at h; simp at h
  | some e =>
    rw [hf] at h
    simp only [Option.map_some, Option.some.injEq, Prod.mk.injEq] at h
    have h1 := List.find?_some hf
    have h3 : am_ST.all am_okS = true := by
      rw [← List.take_append_drop 100 am_ST, List.all_append, am_ST_ok0, am_ST_ok1]; rfl
    have h2 := List.all_eq_true.mp h3 e (List.mem_of_find?_eq_some hf)
    obtain ⟨a1, a2, a3, a4, a5⟩ := e
    simp only [Bool.and_eq_true, beq_iff_eq] at h1
    obtain ⟨rfl, rfl⟩ := h1
    obtain ⟨rfl, rfl⟩ := h
    exact ⟨a5, h2⟩
theorem am_pG {pl : List Nat} {i : Nat} {w : Cond} (h : am_p pl i = some w) (hg : goodWord w = true) : w ∈ am_GW := am_inG h hg
