/-! The small machine: values, cells, one step, and what its tables say of the words of lw_tbl -/
abbrev am_V : Type := Int ⊕ (Int ⊕ (Option Nat ⊕ Unit))
abbrev vI (i : Int) : am_V := .inl i
abbrev vL (i : Int) : am_V := .inr (.inl i)
abbrev vR (a : Nat) : am_V := .inr (.inr (.inl (some a)))
abbrev vN : am_V := .inr (.inr (.inl none))
abbrev vU : am_V := .inr (.inr (.inr ()))
abbrev am_C : Type := (Nat × Nat × (Nat → Int)) ⊕ ((Nat × Nat × (Nat → Option Nat)) ⊕ (Nat × List am_V))
abbrev cI (t n : Nat) (f : Nat → Int) : am_C := .inl (t, n, f)
abbrev cQ (t n : Nat) (f : Nat → Option Nat) : am_C := .inr (.inl (t, n, f))
abbrev cO (k : Nat) (fs : List am_V) : am_C := .inr (.inr (k, fs))
abbrev am_H : Type := (Nat → am_C) × Nat × Nat
def hS (h : am_H) (a : Nat) (c : am_C) : am_H := (fun x => if x = a then c else h.1 x, h.2)
def hA (h : am_H) (c : am_C) (k : Nat) : am_H := (fun x => if x = h.2.1 then c else h.1 x, h.2.1 + 1, h.2.2 + k)
abbrev am_N : Type := (Nat × List am_V × List am_V × am_H) ⊕ (Option am_V ⊕ (Nat × List am_V × List am_V))
def am_rg (x : Int) : Bool := decide (-2147483648 ≤ x) && decide (x < 2147483648)
def am_cmp (c : Jvm.ClassFile.Cond) (x y : Int) : Bool := match c with
  | .eq => decide (x = y)
  | .ne => decide (¬ x = y)
  | .lt => decide (x < y)
  | .ge => decide (y ≤ x)
  | .gt => decide (y < x)
  | .le => decide (x ≤ y)
def am_j (pc : Nat) (off : Int) : Option Nat := if 0 ≤ (pc : Int) + off then some ((pc : Int) + off).toNat else none
def am_to (pc : Nat) (off : Int) (ls st : List am_V) (h : am_H) : Option am_N := match am_j pc off with
  | some t => some (.inl (t, ls, st, h))
  | none => none
def am_fl (oc idx : Nat) : Option (Nat × Nat) := (am_FL.find? (fun e => e.1 == oc && e.2.1 == idx)).map (fun e => (e.2.2.1, e.2.2.2.1))
def am_st (oc idx : Nat) : Option (Nat × Nat) := (am_ST.find? (fun e => e.1 == oc && e.2.1 == idx)).map (fun e => (e.2.2.1, e.2.2.2.1))
def am_ck (oc idx : Nat) : Option Int := (am_CK.find? (fun e => e.1 == oc && e.2.1 == idx)).map (fun e => e.2.2.1)
def am_cl (oc idx : Nat) : Option Int := (am_CL.find? (fun e => e.1 == oc && e.2.1 == idx)).map (fun e => e.2.2.1)
def am_nc (oc idx : Nat) : Option Nat := (am_NC.find? (fun e => e.1 == oc && e.2.1 == idx)).map (fun e => e.2.2.1)
def am_ct (v : am_V) : Nat := match v with
  | .inr (.inl _) => 2
  | _ => 1
def am_ir (v : am_V) : Bool := match v with
  | .inl _ => true
  | .inr (.inr (.inl _)) => true
  | _ => false
/-- does a value fit a field of that type -/
def am_ft (ty : FieldType) (v : am_V) : Bool := match ty, v with
  | .int, .inl _ => true
  | .boolean, .inl x => decide (x = 0) || decide (x = 1)
  | .long, .inr (.inl _) => true
  | .object _, .inr (.inr (.inl _)) => true
  | .array _, .inr (.inr (.inl _)) => true
  | _, _ => false
def am_df (ty : FieldType) : am_V := match ty with
  | .int => vI 0
  | .boolean => vI 0
  | .long => vL 0
  | _ => vN
def am_dfs (ci : Nat) : List am_V := (List.range (am_nf ci)).map (fun k => am_df (am_ty ci k))
/-- a field that is no final one, or the class's own in its constructor -/
def am_pu (M ci k : Nat) : Bool := if (am_T ci k).2.2.2 then decide ((am_y M).name = "<init>") && decide ((am_T ci k).1 = am_cn (am_oc M)) else true
def am_fit (M Y : Nat) : Bool := decide (am_na Y ≤ am_ml Y) && decide (am_fr Y + 1 ≤ am_fr M) && decide (8 + (am_ml Y + 11) + am_lo Y ≤ am_lo M) && decide (Y < 154) && decide (1 ≤ am_na Y)
def am_call (M Y : Nat) (st : List am_V) : Option am_N :=
  if am_na Y ≤ st.length ∧ (st.take (am_na Y)).all am_ir = true ∧ ((st.drop (am_na Y)).map am_ct).sum ≤ 8 ∧ am_fit M Y = true then some (.inr (.inr (Y, (st.take (am_na Y)).reverse, st.drop (am_na Y)))) else none
def am_rcv (Y : Nat) (st : List am_V) (h : am_H) : Option Nat := match st[am_na Y - 1]? with
  | some (.inr (.inr (.inl (some a)))) => (match h.1 a with
    | .inr (.inr (ci, _)) => some ci
    | _ => none)
  | _ => none
def am_sw (ps : List (Int × Int)) (d x : Int) : Int := match ps with
  | [] => d
  | q :: r => if q.1 = x then q.2 else am_sw r d x
def am_ex (M pc : Nat) (ins : Instr) (len : Nat) (ls st : List am_V) (h : am_H) : Option am_N := match ins with
  | .iconst i => if len = 1 then some (.inl (pc + 1, ls, vI i :: st, h)) else none
  | .bipush i => if len = 2 ∧ (Int8.ofInt i).toInt32 = Int32.ofInt i then some (.inl (pc + 2, ls, vI i :: st, h)) else none
  | .sipush i => if len = 3 ∧ (Int16.ofInt i).toInt32 = Int32.ofInt i then some (.inl (pc + 3, ls, vI i :: st, h)) else none
  | .lconst i => if len = 1 then some (.inl (pc + 1, ls, vL (i.val : Int) :: st, h)) else none
  | .ldc idx => (match am_ck (am_oc M) idx with
    | some v => if len = 2 then some (.inl (pc + 2, ls, vI v :: st, h)) else none
    | none => none)
  | .ldc_w idx => (match am_ck (am_oc M) idx with
    | some v => if len = 3 then some (.inl (pc + 3, ls, vI v :: st, h)) else none
    | none => none)
  | .ldc2_w idx => (match am_cl (am_oc M) idx with
    | some v => if len = 3 then some (.inl (pc + 3, ls, vL v :: st, h)) else none
    | none => none)
  | .iload_n k => (match ls[k.val]? with
    | some (.inl x) => if len = 1 then some (.inl (pc + 1, ls, vI x :: st, h)) else none
    | _ => none)
  | .iload k => (match ls[k]? with
    | some (.inl x) => if len = 2 then some (.inl (pc + 2, ls, vI x :: st, h)) else none
    | _ => none)
  | .aload_n k => (match ls[k.val]? with
    | some (.inr (.inr (.inl (some a)))) => if len = 1 then some (.inl (pc + 1, ls, vR a :: st, h)) else none
    | _ => none)
  | .aload k => (match ls[k]? with
    | some (.inr (.inr (.inl (some a)))) => if len = 2 then some (.inl (pc + 2, ls, vR a :: st, h)) else none
    | _ => none)
  | .istore_n k => (match st with
    | .inl x :: r => if len = 1 ∧ k.val < ls.length then some (.inl (pc + 1, ls.set k.val (vI x), r, h)) else none
    | _ => none)
  | .istore k => (match st with
    | .inl x :: r => if len = 2 ∧ k < ls.length then some (.inl (pc + 2, ls.set k (vI x), r, h)) else none
    | _ => none)
  | .astore_n k => (match st with
    | .inr (.inr (.inl (some a))) :: r => if len = 1 ∧ k.val < ls.length then some (.inl (pc + 1, ls.set k.val (vR a), r, h)) else none
    | _ => none)
  | .astore k => (match st with
    | .inr (.inr (.inl (some a))) :: r => if len = 2 ∧ k < ls.length then some (.inl (pc + 2, ls.set k (vR a), r, h)) else none
    | _ => none)
  | .iinc k n => (match ls[k]? with
    | some (.inl x) => if len = 3 then some (.inl (pc + 3, ls.set k (vI (x + n)), st, h)) else none
    | _ => none)
  | .iadd => (match st with
    | .inl y :: .inl x :: r => if len = 1 then some (.inl (pc + 1, ls, vI (x + y) :: r, h)) else none
    | _ => none)
  | .isub => (match st with
    | .inl y :: .inl x :: r => if len = 1 then some (.inl (pc + 1, ls, vI (x - y) :: r, h)) else none
    | _ => none)
  | .imul => (match st with
    | .inl y :: .inl x :: r => if len = 1 then some (.inl (pc + 1, ls, vI (x * y) :: r, h)) else none
    | _ => none)
  | .idiv => (match st with
    | .inl y :: .inl x :: r => if len = 1 ∧ ¬ Int32.ofInt y = 0 then some (.inl (pc + 1, ls, vI (Int32.ofInt x / Int32.ofInt y).toInt :: r, h)) else none
    | _ => none)
  | .irem => (match st with
    | .inl y :: .inl x :: r => if len = 1 ∧ ¬ Int32.ofInt y = 0 then some (.inl (pc + 1, ls, vI (Int32.ofInt x - Int32.ofInt x / Int32.ofInt y * Int32.ofInt y).toInt :: r, h)) else none
    | _ => none)
  | .ineg => (match st with
    | .inl x :: r => if len = 1 then some (.inl (pc + 1, ls, vI (-x) :: r, h)) else none
    | _ => none)
  | .iand => (match st with
    | .inl y :: .inl x :: r => if len = 1 then some (.inl (pc + 1, ls, vI (Int32.ofInt x &&& Int32.ofInt y).toInt :: r, h)) else none
    | _ => none)
  | .ior => (match st with
    | .inl y :: .inl x :: r => if len = 1 then some (.inl (pc + 1, ls, vI (Int32.ofInt x ||| Int32.ofInt y).toInt :: r, h)) else none
    | _ => none)
  | .ishl => (match st with
    | .inl y :: .inl x :: r => if len = 1 then some (.inl (pc + 1, ls, vI (Int32.ofInt x <<< (Int32.ofInt y &&& 31)).toInt :: r, h)) else none
    | _ => none)
  | .ishr => (match st with
    | .inl y :: .inl x :: r => if len = 1 then some (.inl (pc + 1, ls, vI (Int32.ofInt x >>> (Int32.ofInt y &&& 31)).toInt :: r, h)) else none
    | _ => none)
  | .iushr => (match st with
    | .inl y :: .inl x :: r => if len = 1 then some (.inl (pc + 1, ls, vI ((Int32.ofInt x).toUInt32 >>> ((Int32.ofInt y).toUInt32 &&& Int32.toUInt32 31)).toInt32.toInt :: r, h)) else none
    | _ => none)
  | .ladd => (match st with
    | .inr (.inl y) :: .inr (.inl x) :: r => if len = 1 then some (.inl (pc + 1, ls, vL (x + y) :: r, h)) else none
    | _ => none)
  | .lcmp => (match st with
    | .inr (.inl y) :: .inr (.inl x) :: r => if len = 1 then some (.inl (pc + 1, ls, vI (lg_cmp (Int64.ofInt x) (Int64.ofInt y)).toInt :: r, h)) else none
    | _ => none)
  | .dup => (match st with
    | v :: r => if len = 1 ∧ am_ct v = 1 then some (.inl (pc + 1, ls, v :: v :: r, h)) else none
    | _ => none)
  | .pop => (match st with
    | v :: r => if len = 1 ∧ am_ct v = 1 then some (.inl (pc + 1, ls, r, h)) else none
    | _ => none)
  | .dup2 => (match st with
    | v :: w :: r => if len = 1 ∧ am_ct v = 1 ∧ am_ct w = 1 then some (.inl (pc + 1, ls, v :: w :: v :: w :: r, h)) else none
    | _ => none)
  | .ifCond c off => (match st with
    | .inl x :: r => if len = 3 ∧ am_rg x = true ∧ 0 ≤ (pc : Int) + off then (if am_cmp c x 0 = true then am_to pc off ls r h else some (.inl (pc + 3, ls, r, h))) else none
    | _ => none)
  | .if_icmp c off => (match st with
    | .inl y :: .inl x :: r => if len = 3 ∧ am_rg x = true ∧ am_rg y = true ∧ 0 ≤ (pc : Int) + off then (if am_cmp c x y = true then am_to pc off ls r h else some (.inl (pc + 3, ls, r, h))) else none
    | _ => none)
  | .goto off => if len = 3 then am_to pc off ls st h else none
  | .tableswitch d lo hi offs => (match st with
    | .inl x :: r => if am_rg x = true then (if x < lo ∨ hi < x then am_to pc d ls r h else (match offs[(x - lo).toNat]? with
      | some off => am_to pc off ls r h
      | none => none)) else none
    | _ => none)
  | .lookupswitch d ps => (match st with
    | .inl x :: r => if am_rg x = true ∧ (ps.toList.zip (ps.toList.drop 1)).all (fun (a, next) => a.1 < next.1) = true then am_to pc (Op.lookupswitch.offset ps.toList d x) ls r h else none
    | _ => none)
  | .getfield idx => (match am_fl (am_oc M) idx, st with
    | some (ci, k), .inr (.inr (.inl (some a))) :: r => (match h.1 a with
      | .inr (.inr (c2, fs)) => (match fs[k]? with
        | some v => if len = 3 ∧ c2 = ci then some (.inl (pc + 3, ls, v :: r, h)) else none
        | none => none)
      | _ => none)
    | _, _ => none)
  | .putfield idx => (match am_fl (am_oc M) idx, st with
    | some (ci, k), v :: .inr (.inr (.inl (some a))) :: r => (match h.1 a with
      | .inr (.inr (c2, fs)) => if len = 3 ∧ c2 = ci ∧ k < fs.length ∧ am_ft (am_ty ci k) v = true ∧ am_pu M ci k = true then some (.inl (pc + 3, ls, r, hS h a (cO ci (fs.set k v)))) else none
      | _ => none)
    | _, _ => none)
  | .iaload => (match st with
    | .inl i :: .inr (.inr (.inl (some a))) :: r => (match h.1 a with
      | .inl (t, n, f) => if len = 1 ∧ (t = 0 ∨ t = 9) ∧ 0 ≤ i ∧ i < (n : Int) ∧ i < 2147483648 then some (.inl (pc + 1, ls, vI (f i.toNat) :: r, h)) else none
      | _ => none)
    | _ => none)
  | .iastore => (match st with
    | .inl x :: .inl i :: .inr (.inr (.inl (some a))) :: r => (match h.1 a with
      | .inl (t, n, f) => if len = 1 ∧ t = 0 ∧ 0 ≤ i ∧ i < (n : Int) ∧ i < 2147483648 then some (.inl (pc + 1, ls, r, hS h a (cI 0 n (fun j => if j = i.toNat then x else f j)))) else none
      | _ => none)
    | _ => none)
  | .baload => (match st with
    | .inl i :: .inr (.inr (.inl (some a))) :: r => (match h.1 a with
      | .inl (t, n, f) => if len = 1 ∧ t = 1 ∧ 0 ≤ i ∧ i < (n : Int) ∧ i < 2147483648 then some (.inl (pc + 1, ls, vI (f i.toNat) :: r, h)) else none
      | _ => none)
    | _ => none)
  | .bastore => (match st with
    | .inl x :: .inl i :: .inr (.inr (.inl (some a))) :: r => (match h.1 a with
      | .inl (t, n, f) => if len = 1 ∧ t = 1 ∧ (x = 0 ∨ x = 1) ∧ 0 ≤ i ∧ i < (n : Int) ∧ i < 2147483648 then some (.inl (pc + 1, ls, r, hS h a (cI 1 n (fun j => if j = i.toNat then x else f j)))) else none
      | _ => none)
    | _ => none)
  | .aaload => (match st with
    | .inl i :: .inr (.inr (.inl (some a))) :: r => (match h.1 a with
      | .inr (.inl (_, n, f)) => if len = 1 ∧ 0 ≤ i ∧ i < (n : Int) ∧ i < 2147483648 then some (.inl (pc + 1, ls, (.inr (.inr (.inl (f i.toNat)))) :: r, h)) else none
      | _ => none)
    | _ => none)
  | .aastore => (match st with
    | .inr (.inr (.inl (some v))) :: .inl i :: .inr (.inr (.inl (some a))) :: r => (match h.1 a, h.1 v with
      | .inr (.inl (t, n, f)), .inr (.inr (c2, _)) => if len = 1 ∧ 0 ≤ i ∧ i < (n : Int) ∧ i < 2147483648 ∧ ((t = 2 ∧ c2 = 5) ∨ (t = 3 ∧ (c2 = 0 ∨ c2 = 1 ∨ c2 = 3 ∨ c2 = 4 ∨ c2 = 9 ∨ c2 = 10))) then some (.inl (pc + 1, ls, r, hS h a (cQ t n (fun j => if j = i.toNat then some v else f j)))) else none
      | _, _ => none)
    | _ => none)
  | .arraylength => (match st with
    | .inr (.inr (.inl (some a))) :: r => (match h.1 a with
      | .inl (t, n, _) => if len = 1 ∧ t = 9 then some (.inl (pc + 1, ls, vI (n : Int) :: r, h)) else none
      | _ => none)
    | _ => none)
  | .newarray ty => (match st with
    | .inl n :: r => if len = 2 ∧ 0 ≤ n ∧ n ≤ 1000 ∧ (ty = .int ∨ ty = .boolean) then some (.inl (pc + 2, ls, vR h.2.1 :: r, hA h (cI (if ty = .int then 0 else 1) n.toNat (fun _ => 0)) n.toNat)) else none
    | _ => none)
  | .anewarray idx => (match am_nc (am_oc M) idx, st with
    | some ci, .inl n :: r => if len = 3 ∧ 0 ≤ n ∧ n ≤ 1000 ∧ (ci = 5 ∨ ci = 3) then some (.inl (pc + 3, ls, vR h.2.1 :: r, hA h (cQ (if ci = 5 then 2 else 3) n.toNat (fun _ => none)) n.toNat)) else none
    | _, _ => none)
  | .new idx => (match am_nc (am_oc M) idx with
    | some ci => if len = 3 ∧ ci < 13 then some (.inl (pc + 3, ls, vR h.2.1 :: st, hA h (cO ci (am_dfs ci)) (am_nf ci))) else none
    | none => none)
  | .invokestatic idx => (match am_st (am_oc M) idx with
    | some (1, y) => if len = 3 then am_call M y st else none
    | some (2, y) => if len = 3 then am_call M y st else none
    | some (9, _) => (match st with
      | [.inl n, .inl dp, .inr (.inr (.inl (some a))), .inl sp, .inr (.inr (.inl (some a0)))] => (match h.1 a0, h.1 a with
        | .inl (t0, n0, f0), .inl (t1, n1, f1) => if len = 3 ∧ t0 = 0 ∧ t1 = 0 ∧ sp = 0 ∧ dp = 0 ∧ 0 ≤ n ∧ n ≤ (n0 : Int) ∧ n ≤ (n1 : Int) ∧ n < 2147483648 ∧ 1 ≤ am_fr M ∧ 40 ≤ am_lo M then some (.inl (pc + 3, ls, [], hS h a (cI 0 n1 (fun j => if j < n.toNat then f0 j else f1 j)))) else none
        | _, _ => none)
      | _ => none)
    | some (10, _) => (match st with
      | .inl y :: .inl x :: r => if len = 3 ∧ (r.map am_ct).sum ≤ 8 ∧ 1 ≤ am_fr M ∧ 40 ≤ am_lo M ∧ am_rg x = true ∧ am_rg y = true then some (.inl (pc + 3, ls, vI (if x < y then y else x) :: r, h)) else none
      | _ => none)
    | some (11, _) => (match st with
      | .inl y :: .inl x :: r => if len = 3 ∧ (r.map am_ct).sum ≤ 8 ∧ 1 ≤ am_fr M ∧ 40 ≤ am_lo M ∧ am_rg x = true ∧ am_rg y = true then some (.inl (pc + 3, ls, vI (if y < x then y else x) :: r, h)) else none
      | _ => none)
    | _ => none)
  | .invokevirtual idx => (match am_st (am_oc M) idx with
    | some (0, y) => if len = 3 ∧ am_rcv y st h = some (am_oc y) then am_call M y st else none
    | some (6, y) => (match am_rcv y st h with
      | some ci => if len = 3 ∧ am_ws.contains ci = true then am_call M (am_wo ci) st else none
      | none => none)
    | _ => none)
  | .invokespecial idx => (match am_st (am_oc M) idx with
    | some (3, y) => if len = 3 ∧ (am_rcv y st h).isSome = true then am_call M y st else none
    | some (4, y) => if len = 3 ∧ (am_rcv y st h).isSome = true then am_call M y st else none
    | some (5, y) => if len = 3 ∧ (am_rcv y st h).isSome = true then am_call M y st else none
    | some (8, _) => (match st with
      | .inr (.inr (.inl (some _))) :: r => if len = 3 ∧ (r.map am_ct).sum ≤ 8 ∧ 1 ≤ am_fr M ∧ 20 ≤ am_lo M then some (.inl (pc + 3, ls, r, h)) else none
      | _ => none)
    | _ => none)
  | .ireturn => (match st with
    | [.inl x] => if len = 1 ∧ (am_rt M = some .int ∨ (am_rt M = some .boolean ∧ (x = 0 ∨ x = 1))) then some (.inr (.inl (some (vI x)))) else none
    | _ => none)
  | .lreturn => (match st with
    | [.inr (.inl x)] => if len = 1 ∧ am_rt M = some .long then some (.inr (.inl (some (vL x)))) else none
    | _ => none)
  | .return_ => (match st with
    | [] => if len = 1 ∧ am_rt M = none then some (.inr (.inl none)) else none
    | _ => none)
  | _ => none
def am_nx (M pc : Nat) (ls st : List am_V) (h : am_H) : Option am_N := match decode (am_by M) pc with
  | .ok (ins, len) => am_ex M pc ins len ls st h
  | _ => none
def am_il (Y : Nat) (as : List am_V) : List am_V := as ++ List.replicate (am_ml Y - as.length) vU
abbrev am_R : Type := Option am_V × am_H
def am_run : Nat → Nat → Nat → List am_V → List am_V → am_H → Option am_R
  | 0, _, _, _, _, _ => none
  | f + 1, M, pc, ls, st, h => match am_nx M pc ls st h with
    | none => none
    | some (.inl q) => am_run f M q.1 q.2.1 q.2.2.1 q.2.2.2
    | some (.inr (.inl r)) => some (r, h)
    | some (.inr (.inr q)) => (match am_run f q.1 0 (am_il q.1 q.2.1) [] h with
      | none => none
      | some R => am_run f M (pc + 3) ls (R.1.toList ++ q.2.2) R.2)
