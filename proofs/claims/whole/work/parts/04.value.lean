/-! What the small machine comes to from a state, without fuel -/
theorem am_run_mono : ∀ (f M pc : Nat) (ls st : List am_V) (h : am_H) (R : am_R), am_run f M pc ls st h = some R → am_run (f + 1) M pc ls st h = some R := by
  intro f
  induction f with
  | zero => intro M pc ls st h R hr; simp [am_run] at hr
  | succ f ih =>
    intro M pc ls st h R hr
    rw [am_run] at hr ⊢
    cases hn : am_nx M pc ls st h with
    | none => rw [hn] at hr; simp at hr
    | some q =>
      rw [hn] at hr
      rcases q with q | q | q
      · simp only at hr ⊢
        exact ih _ _ _ _ _ _ hr
      · simpa using hr
      · simp only at hr ⊢
        cases hc : am_run f q.1 0 (am_il q.1 q.2.1) [] h with
        | none => rw [hc] at hr; simp at hr
        | some S =>
          rw [hc] at hr
          rw [ih _ _ _ _ _ _ hc]
          simp only at hr ⊢
          exact ih _ _ _ _ _ _ hr
theorem am_run_le {f g M pc : Nat} {ls st : List am_V} {h : am_H} {R : am_R} (hfg : f ≤ g) (hr : am_run f M pc ls st h = some R) : am_run g M pc ls st h = some R := by
  induction hfg with
  | refl => exact hr
  | step _ ih => exact am_run_mono _ _ _ _ _ _ _ ih
theorem am_run_det {f g M pc : Nat} {ls st : List am_V} {h : am_H} {R S : am_R} (hr : am_run f M pc ls st h = some R) (hs : am_run g M pc ls st h = some S) : R = S := by
  have h1 := am_run_le (Nat.le_max_left f g) hr
  have h2 := am_run_le (Nat.le_max_right f g) hs
  exact Option.some.inj (h1.symm.trans h2)
noncomputable def gv (M pc : Nat) (ls st : List am_V) (h : am_H) : Option am_R :=
  @dite (Option am_R) (∃ R f, am_run f M pc ls st h = some R) (Classical.propDecidable _) (fun q => some q.choose) (fun _ => none)
theorem gv_some {M pc : Nat} {ls st : List am_V} {h : am_H} {R : am_R} : gv M pc ls st h = some R ↔ ∃ f, am_run f M pc ls st h = some R := by
  unfold gv
  constructor
  · intro hq
    split at hq
    · rename_i q
      obtain ⟨f, hf⟩ := q.choose_spec
      exact ⟨f, by rw [hf]; exact hq⟩
    · cases hq
  · rintro ⟨f, hf⟩
    have q : ∃ R f, am_run f M pc ls st h = some R := ⟨R, f, hf⟩
    rw [dif_pos q]
    obtain ⟨g, hg⟩ := q.choose_spec
    rw [am_run_det hg hf]
theorem gv_ext {A B : Option am_R} (h : ∀ R, A = some R ↔ B = some R) : A = B := by
  cases A with
  | none =>
    cases B with
    | none => rfl
    | some R => exact absurd ((h R).mpr rfl) (by simp)
  | some R => exact ((h R).mp rfl).symm
theorem gv_go {M pc : Nat} {ls st : List am_V} {h : am_H} {q : Nat × List am_V × List am_V × am_H} (hn : am_nx M pc ls st h = some (.inl q)) : gv M pc ls st h = gv M q.1 q.2.1 q.2.2.1 q.2.2.2 := by
  refine gv_ext fun R => ?_
  rw [gv_some, gv_some]
  constructor
  · rintro ⟨f, hf⟩
    cases f with
    | zero => simp [am_run] at hf
    | succ f => rw [am_run, hn] at hf; exact ⟨f, hf⟩
  · rintro ⟨f, hf⟩
    exact ⟨f + 1, by rw [am_run, hn]; exact hf⟩
theorem gv_ret {M pc : Nat} {ls st : List am_V} {h : am_H} {r : Option am_V} (hn : am_nx M pc ls st h = some (.inr (.inl r))) : gv M pc ls st h = some (r, h) := by
  rw [gv_some]
  exact ⟨1, by rw [am_run, hn]⟩
/-- a method's answer and heap -/
noncomputable def ev (Y : Nat) (as : List am_V) (h : am_H) : Option am_R := gv Y 0 (am_il Y as) [] h
theorem gv_call {M pc : Nat} {ls st : List am_V} {h : am_H} {Y : Nat} {as r : List am_V} (hn : am_nx M pc ls st h = some (.inr (.inr (Y, as, r)))) : gv M pc ls st h = (ev Y as h).bind (fun R => gv M (pc + 3) ls (R.1.toList ++ r) R.2) := by
  refine gv_ext fun R => ?_
  rw [gv_some]
  constructor
  · rintro ⟨f, hf⟩
    cases f with
    | zero => simp [am_run] at hf
    | succ f =>
      rw [am_run, hn] at hf
      simp only at hf
      cases hc : am_run f Y 0 (am_il Y as) [] h with
      | none => rw [hc] at hf; simp at hf
      | some S =>
        rw [hc] at hf
        have e1 : ev Y as h = some S := gv_some.mpr ⟨f, hc⟩
        rw [e1, Option.bind_some]
        exact gv_some.mpr ⟨f, hf⟩
  · intro hb
    cases hc : ev Y as h with
    | none => rw [hc] at hb; simp at hb
    | some S =>
      rw [hc, Option.bind_some] at hb
      obtain ⟨f, hf⟩ := gv_some.mp hc
      obtain ⟨g, hg⟩ := gv_some.mp hb
      refine ⟨max f g + 1, ?_⟩
      rw [am_run, hn]
      simp only
      rw [am_run_le (Nat.le_max_left f g) hf]
      exact am_run_le (Nat.le_max_right f g) hg
/-! one instruction, as an equation -/
section GV
variable {M pc : Nat} {ls st r : List am_V} {h : am_H}
theorem gv_ex {ins : Instr} {len : Nat} (hd : decode (am_by M) pc = .ok (ins, len)) : am_nx M pc ls st h = am_ex M pc ins len ls st h := by
  unfold am_nx; rw [hd]
theorem gq_iconst {i : Int} (hd : decode (am_by M) pc = .ok (.iconst i, 1)) : gv M pc ls st h = gv M (pc + 1) ls (vI i :: st) h := gv_go (q := (pc + 1, ls, vI i :: st, h)) (by rw [gv_ex hd]; rfl)
theorem gq_bipush {i : Int} (hd : decode (am_by M) pc = .ok (.bipush i, 2)) (hi : (Int8.ofInt i).toInt32 = Int32.ofInt i) : gv M pc ls st h = gv M (pc + 2) ls (vI i :: st) h := gv_go (q := (pc + 2, ls, vI i :: st, h)) (by rw [gv_ex hd]; simp [am_ex, hi])
theorem gq_sipush {i : Int} (hd : decode (am_by M) pc = .ok (.sipush i, 3)) (hi : (Int16.ofInt i).toInt32 = Int32.ofInt i) : gv M pc ls st h = gv M (pc + 3) ls (vI i :: st) h := gv_go (q := (pc + 3, ls, vI i :: st, h)) (by rw [gv_ex hd]; simp [am_ex, hi])
theorem gq_lconst {i : Fin 2} (hd : decode (am_by M) pc = .ok (.lconst i, 1)) : gv M pc ls st h = gv M (pc + 1) ls (vL (i.val : Int) :: st) h := gv_go (q := (pc + 1, ls, vL (i.val : Int) :: st, h)) (by rw [gv_ex hd]; rfl)
theorem gq_ldc {idx : Nat} {v : Int} (hd : decode (am_by M) pc = .ok (.ldc idx, 2)) (hv : am_ck (am_oc M) idx = some v) : gv M pc ls st h = gv M (pc + 2) ls (vI v :: st) h := gv_go (q := (pc + 2, ls, vI v :: st, h)) (by rw [gv_ex hd]; simp [am_ex, hv])
theorem gq_ldcw {idx : Nat} {v : Int} (hd : decode (am_by M) pc = .ok (.ldc_w idx, 3)) (hv : am_ck (am_oc M) idx = some v) : gv M pc ls st h = gv M (pc + 3) ls (vI v :: st) h := gv_go (q := (pc + 3, ls, vI v :: st, h)) (by rw [gv_ex hd]; simp [am_ex, hv])
theorem gq_ldc2 {idx : Nat} {v : Int} (hd : decode (am_by M) pc = .ok (.ldc2_w idx, 3)) (hv : am_cl (am_oc M) idx = some v) : gv M pc ls st h = gv M (pc + 3) ls (vL v :: st) h := gv_go (q := (pc + 3, ls, vL v :: st, h)) (by rw [gv_ex hd]; simp [am_ex, hv])
theorem gq_iload_n {k : Fin 4} {x : Int} (hd : decode (am_by M) pc = .ok (.iload_n k, 1)) (hl : ls[k.val]? = some (vI x)) : gv M pc ls st h = gv M (pc + 1) ls (vI x :: st) h := gv_go (q := (pc + 1, ls, vI x :: st, h)) (by rw [gv_ex hd]; simp [am_ex, hl])
theorem gq_iload {k : Nat} {x : Int} (hd : decode (am_by M) pc = .ok (.iload k, 2)) (hl : ls[k]? = some (vI x)) : gv M pc ls st h = gv M (pc + 2) ls (vI x :: st) h := gv_go (q := (pc + 2, ls, vI x :: st, h)) (by rw [gv_ex hd]; simp [am_ex, hl])
theorem gq_aload_n {k : Fin 4} {a : Nat} (hd : decode (am_by M) pc = .ok (.aload_n k, 1)) (hl : ls[k.val]? = some (vR a)) : gv M pc ls st h = gv M (pc + 1) ls (vR a :: st) h := gv_go (q := (pc + 1, ls, vR a :: st, h)) (by rw [gv_ex hd]; simp [am_ex, hl])
theorem gq_aload {k : Nat} {a : Nat} (hd : decode (am_by M) pc = .ok (.aload k, 2)) (hl : ls[k]? = some (vR a)) : gv M pc ls st h = gv M (pc + 2) ls (vR a :: st) h := gv_go (q := (pc + 2, ls, vR a :: st, h)) (by rw [gv_ex hd]; simp [am_ex, hl])
theorem gq_istore_n {k : Fin 4} {x : Int} {ls' : List am_V} (hd : decode (am_by M) pc = .ok (.istore_n k, 1)) (hk : k.val < ls.length) (hl : ls.set k.val (vI x) = ls') : gv M pc ls (vI x :: r) h = gv M (pc + 1) ls' r h := gv_go (q := (pc + 1, ls', r, h)) (by rw [gv_ex hd]; simp [am_ex, hk, hl])
theorem gq_istore {k : Nat} {x : Int} {ls' : List am_V} (hd : decode (am_by M) pc = .ok (.istore k, 2)) (hk : k < ls.length) (hl : ls.set k (vI x) = ls') : gv M pc ls (vI x :: r) h = gv M (pc + 2) ls' r h := gv_go (q := (pc + 2, ls', r, h)) (by rw [gv_ex hd]; simp [am_ex, hk, hl])
theorem gq_astore_n {k : Fin 4} {a : Nat} {ls' : List am_V} (hd : decode (am_by M) pc = .ok (.astore_n k, 1)) (hk : k.val < ls.length) (hl : ls.set k.val (vR a) = ls') : gv M pc ls (vR a :: r) h = gv M (pc + 1) ls' r h := gv_go (q := (pc + 1, ls', r, h)) (by rw [gv_ex hd]; simp [am_ex, hk, hl])
theorem gq_astore {k : Nat} {a : Nat} {ls' : List am_V} (hd : decode (am_by M) pc = .ok (.astore k, 2)) (hk : k < ls.length) (hl : ls.set k (vR a) = ls') : gv M pc ls (vR a :: r) h = gv M (pc + 2) ls' r h := gv_go (q := (pc + 2, ls', r, h)) (by rw [gv_ex hd]; simp [am_ex, hk, hl])
theorem gq_iinc {k : Nat} {n x : Int} {ls' : List am_V} (hd : decode (am_by M) pc = .ok (.iinc k n, 3)) (hk : ls[k]? = some (vI x)) (hl : ls.set k (vI (x + n)) = ls') : gv M pc ls st h = gv M (pc + 3) ls' st h := gv_go (q := (pc + 3, ls', st, h)) (by rw [gv_ex hd]; simp [am_ex, hk, hl])
theorem gq_iadd {x y : Int} (hd : decode (am_by M) pc = .ok (.iadd, 1)) : gv M pc ls (vI y :: vI x :: r) h = gv M (pc + 1) ls (vI (x + y) :: r) h := gv_go (q := (pc + 1, ls, vI (x + y) :: r, h)) (by rw [gv_ex hd]; rfl)
theorem gq_isub {x y : Int} (hd : decode (am_by M) pc = .ok (.isub, 1)) : gv M pc ls (vI y :: vI x :: r) h = gv M (pc + 1) ls (vI (x - y) :: r) h := gv_go (q := (pc + 1, ls, vI (x - y) :: r, h)) (by rw [gv_ex hd]; rfl)
theorem gq_imul {x y : Int} (hd : decode (am_by M) pc = .ok (.imul, 1)) : gv M pc ls (vI y :: vI x :: r) h = gv M (pc + 1) ls (vI (x * y) :: r) h := gv_go (q := (pc + 1, ls, vI (x * y) :: r, h)) (by rw [gv_ex hd]; rfl)
theorem gq_ineg {x : Int} (hd : decode (am_by M) pc = .ok (.ineg, 1)) : gv M pc ls (vI x :: r) h = gv M (pc + 1) ls (vI (-x) :: r) h := gv_go (q := (pc + 1, ls, vI (-x) :: r, h)) (by rw [gv_ex hd]; rfl)
theorem am_o32 {x : Int} (h : -2147483648 ≤ x ∧ x < 2147483648) : (Int32.ofInt x).toInt = x := by
  rw [Int32.toInt_ofInt]
  exact Int.bmod_eq_of_le (by show -(4294967296 / 2) ≤ x; omega) (by show x < (4294967296 + 1) / 2; omega)
theorem am_r32 (x : Int32) : -2147483648 ≤ x.toInt ∧ x.toInt < 2147483648 := ⟨Int32.le_toInt x, Int32.toInt_lt x⟩
theorem am_ne0 {y : Int} (h : 0 < y ∧ y < 2147483648) : ¬ Int32.ofInt y = 0 := by
  intro q
  have h1 := congrArg Int32.toInt q
  rw [am_o32 (by omega)] at h1
  have h2 : (0 : Int32).toInt = 0 := rfl
  omega
theorem am_div {x y : Int} (hx : 0 ≤ x ∧ x < 2147483648) (hy : 0 < y ∧ y < 2147483648) : (Int32.ofInt x / Int32.ofInt y).toInt = x / y := by
  rw [Int32.toInt_div, am_o32 (by omega), am_o32 (by omega), Int.tdiv_eq_ediv_of_nonneg hx.1]
  have h1 : 0 ≤ x / y := Int.ediv_nonneg hx.1 (by omega)
  have h2 : x / y ≤ x := Int.ediv_le_self _ hx.1
  exact Int.bmod_eq_of_le (by show -(4294967296 / 2) ≤ x / y; omega) (by show x / y < (4294967296 + 1) / 2; omega)
theorem am_rem {x y : Int} (hx : 0 ≤ x ∧ x < 2147483648) (hy : 0 < y ∧ y < 2147483648) : (Int32.ofInt x - Int32.ofInt x / Int32.ofInt y * Int32.ofInt y).toInt = x % y := by
  have h1 : 0 ≤ x / y := Int.ediv_nonneg hx.1 (by omega)
  have h2 : x / y ≤ x := Int.ediv_le_self _ hx.1
  have h3 : Int32.ofInt x / Int32.ofInt y = Int32.ofInt (x / y) := by
    apply Int32.toInt_inj.mp
    rw [am_div hx hy, am_o32 (by omega)]
  have h4 : 0 ≤ x % y := Int.emod_nonneg _ (by omega)
  have h5 : x % y < y := Int.emod_lt_of_pos _ hy.1
  rw [h3, ← Int32.ofInt_mul, ← Int32.ofInt_sub, show x - x / y * y = x % y by rw [Int.emod_def, Int.mul_comm]]
  exact am_o32 (by omega)
theorem gq_idiv {x y : Int} (hd : decode (am_by M) pc = .ok (.idiv, 1)) (hc : (0 ≤ x ∧ x < 2147483648) ∧ 0 < y ∧ y < 2147483648) : gv M pc ls (vI y :: vI x :: r) h = gv M (pc + 1) ls (vI (x / y) :: r) h := gv_go (q := (pc + 1, ls, vI (x / y) :: r, h)) (by rw [gv_ex hd]; simp [am_ex, am_ne0 hc.2, am_div hc.1 hc.2])
theorem gq_irem {x y : Int} (hd : decode (am_by M) pc = .ok (.irem, 1)) (hc : (0 ≤ x ∧ x < 2147483648) ∧ 0 < y ∧ y < 2147483648) : gv M pc ls (vI y :: vI x :: r) h = gv M (pc + 1) ls (vI (x % y) :: r) h := gv_go (q := (pc + 1, ls, vI (x % y) :: r, h)) (by rw [gv_ex hd]; simp [am_ex, am_ne0 hc.2, am_rem hc.1 hc.2])
def jand (x y : Int) : Int := (Int32.ofInt x &&& Int32.ofInt y).toInt
def jor (x y : Int) : Int := (Int32.ofInt x ||| Int32.ofInt y).toInt
def jshl (x y : Int) : Int := (Int32.ofInt x <<< (Int32.ofInt y &&& 31)).toInt
def jshr (x y : Int) : Int := (Int32.ofInt x >>> (Int32.ofInt y &&& 31)).toInt
def jushr (x y : Int) : Int := ((Int32.ofInt x).toUInt32 >>> ((Int32.ofInt y).toUInt32 &&& Int32.toUInt32 31)).toInt32.toInt
theorem gq_iand {x y : Int} (hd : decode (am_by M) pc = .ok (.iand, 1)) : gv M pc ls (vI y :: vI x :: r) h = gv M (pc + 1) ls (vI (jand x y) :: r) h := gv_go (q := (pc + 1, ls, vI (jand x y) :: r, h)) (by rw [gv_ex hd]; rfl)
theorem gq_ior {x y : Int} (hd : decode (am_by M) pc = .ok (.ior, 1)) : gv M pc ls (vI y :: vI x :: r) h = gv M (pc + 1) ls (vI (jor x y) :: r) h := gv_go (q := (pc + 1, ls, vI (jor x y) :: r, h)) (by rw [gv_ex hd]; rfl)
theorem gq_ishl {x y : Int} (hd : decode (am_by M) pc = .ok (.ishl, 1)) : gv M pc ls (vI y :: vI x :: r) h = gv M (pc + 1) ls (vI (jshl x y) :: r) h := gv_go (q := (pc + 1, ls, vI (jshl x y) :: r, h)) (by rw [gv_ex hd]; rfl)
theorem gq_ishr {x y : Int} (hd : decode (am_by M) pc = .ok (.ishr, 1)) : gv M pc ls (vI y :: vI x :: r) h = gv M (pc + 1) ls (vI (jshr x y) :: r) h := gv_go (q := (pc + 1, ls, vI (jshr x y) :: r, h)) (by rw [gv_ex hd]; rfl)
theorem gq_iushr {x y : Int} (hd : decode (am_by M) pc = .ok (.iushr, 1)) : gv M pc ls (vI y :: vI x :: r) h = gv M (pc + 1) ls (vI (jushr x y) :: r) h := gv_go (q := (pc + 1, ls, vI (jushr x y) :: r, h)) (by rw [gv_ex hd]; rfl)
theorem gq_ladd {x y : Int} (hd : decode (am_by M) pc = .ok (.ladd, 1)) : gv M pc ls (vL y :: vL x :: r) h = gv M (pc + 1) ls (vL (x + y) :: r) h := gv_go (q := (pc + 1, ls, vL (x + y) :: r, h)) (by rw [gv_ex hd]; rfl)
def jlcmp (x y : Int) : Int := (lg_cmp (Int64.ofInt x) (Int64.ofInt y)).toInt
theorem jlcmp_self (x : Int) : jlcmp x x = 0 := by simp [jlcmp, lg_cmp]
theorem gq_lcmp {x y : Int} (hd : decode (am_by M) pc = .ok (.lcmp, 1)) : gv M pc ls (vL y :: vL x :: r) h = gv M (pc + 1) ls (vI (jlcmp x y) :: r) h := gv_go (q := (pc + 1, ls, vI (jlcmp x y) :: r, h)) (by rw [gv_ex hd]; rfl)
theorem gq_dupI {x : Int} (hd : decode (am_by M) pc = .ok (.dup, 1)) : gv M pc ls (vI x :: r) h = gv M (pc + 1) ls (vI x :: vI x :: r) h := gv_go (q := (pc + 1, ls, vI x :: vI x :: r, h)) (by rw [gv_ex hd]; rfl)
theorem gq_dupR {a : Nat} (hd : decode (am_by M) pc = .ok (.dup, 1)) : gv M pc ls (vR a :: r) h = gv M (pc + 1) ls (vR a :: vR a :: r) h := gv_go (q := (pc + 1, ls, vR a :: vR a :: r, h)) (by rw [gv_ex hd]; rfl)
theorem gq_pop {x : Int} (hd : decode (am_by M) pc = .ok (.pop, 1)) : gv M pc ls (vI x :: r) h = gv M (pc + 1) ls r h := gv_go (q := (pc + 1, ls, r, h)) (by rw [gv_ex hd]; rfl)
theorem gq_dup2 {x : Int} {a : Nat} (hd : decode (am_by M) pc = .ok (.dup2, 1)) : gv M pc ls (vI x :: vR a :: r) h = gv M (pc + 1) ls (vI x :: vR a :: vI x :: vR a :: r) h := gv_go (q := (pc + 1, ls, vI x :: vR a :: vI x :: vR a :: r, h)) (by rw [gv_ex hd]; rfl)
theorem am_rg_of {x : Int} (h : -2147483648 ≤ x ∧ x < 2147483648) : am_rg x = true := by simp [am_rg, h]
theorem am_j_pos {pc : Nat} {off : Int} {t : Nat} (ht : am_j pc off = some t) : 0 ≤ (pc : Int) + off := by
  unfold am_j at ht
  split at ht
  · assumption
  · cases ht
theorem gq_if {c : Jvm.ClassFile.Cond} {off x : Int} {t u : Nat} {P : Prop} [Decidable P] (hd : decode (am_by M) pc = .ok (.ifCond c off, 3)) (ht : am_j pc off = some t) (hu : pc + 3 = u) (hP : am_cmp c x 0 = decide P) (hx : -2147483648 ≤ x ∧ x < 2147483648) : gv M pc ls (vI x :: r) h = if P then gv M t ls r h else gv M u ls r h := by
  subst hu
  by_cases hp : P
  · rw [if_pos hp]; exact gv_go (q := (t, ls, r, h)) (by rw [gv_ex hd]; simp [am_ex, am_j_pos ht, am_rg_of hx, hP, hp, am_to, ht])
  · rw [if_neg hp]; exact gv_go (q := (pc + 3, ls, r, h)) (by rw [gv_ex hd]; simp [am_ex, am_j_pos ht, am_rg_of hx, hP, hp])
theorem gq_icmp {c : Jvm.ClassFile.Cond} {off x y : Int} {t u : Nat} {P : Prop} [Decidable P] (hd : decode (am_by M) pc = .ok (.if_icmp c off, 3)) (ht : am_j pc off = some t) (hu : pc + 3 = u) (hP : am_cmp c x y = decide P) (hx : (-2147483648 ≤ x ∧ x < 2147483648) ∧ -2147483648 ≤ y ∧ y < 2147483648) : gv M pc ls (vI y :: vI x :: r) h = if P then gv M t ls r h else gv M u ls r h := by
  subst hu
  by_cases hp : P
  · rw [if_pos hp]; exact gv_go (q := (t, ls, r, h)) (by rw [gv_ex hd]; simp [am_ex, am_j_pos ht, am_rg_of hx.1, am_rg_of hx.2, hP, hp, am_to, ht])
  · rw [if_neg hp]; exact gv_go (q := (pc + 3, ls, r, h)) (by rw [gv_ex hd]; simp [am_ex, am_j_pos ht, am_rg_of hx.1, am_rg_of hx.2, hP, hp])
theorem gq_goto {off : Int} {t : Nat} (hd : decode (am_by M) pc = .ok (.goto off, 3)) (ht : am_j pc off = some t) : gv M pc ls st h = gv M t ls st h := gv_go (q := (t, ls, st, h)) (by rw [gv_ex hd]; simp [am_ex, am_to, ht])
/-- a switch: the default behind the last of the cases -/
theorem gq_tableOut {d lo hi x : Int} {offs : Array Int} {len t : Nat} (hd : decode (am_by M) pc = .ok (.tableswitch d lo hi offs, len)) (ht : am_j pc d = some t) (hx : -2147483648 ≤ x ∧ x < 2147483648) (ho : x < lo ∨ hi < x) : gv M pc ls (vI x :: r) h = gv M t ls r h := gv_go (q := (t, ls, r, h)) (by rw [gv_ex hd]; simp [am_ex, am_rg_of hx, ho, am_to, ht])
theorem gq_tableIn {d lo hi x off : Int} {offs : Array Int} {len t : Nat} (hd : decode (am_by M) pc = .ok (.tableswitch d lo hi offs, len)) (hx : -2147483648 ≤ x ∧ x < 2147483648) (h1 : ¬ (x < lo ∨ hi < x)) (ho : offs[(x - lo).toNat]? = some off) (ht : am_j pc off = some t) : gv M pc ls (vI x :: r) h = gv M t ls r h := gv_go (q := (t, ls, r, h)) (by rw [gv_ex hd]; simp only [am_ex, am_rg_of hx]; rw [if_pos trivial, if_neg h1, ho]; simp [am_to, ht])
theorem gq_lookup {d x off : Int} {ps : Array (Int × Int)} {len t : Nat} (hd : decode (am_by M) pc = .ok (.lookupswitch d ps, len)) (hx : -2147483648 ≤ x ∧ x < 2147483648) (hp : (ps.toList.zip (ps.toList.drop 1)).all (fun (a, next) => a.1 < next.1) = true) (ho : Op.lookupswitch.offset ps.toList d x = off) (ht : am_j pc off = some t) : gv M pc ls (vI x :: r) h = gv M t ls r h := gv_go (q := (t, ls, r, h)) (by rw [gv_ex hd]; simp only [am_ex]; rw [if_pos ⟨am_rg_of hx, hp⟩, ho]; simp [am_to, ht])
/-! the heap: a cell is looked up, and what follows goes on with what it holds -/
def gfd (c : am_C) (ci k : Nat) (K : am_V → Option am_R) : Option am_R := match c with
  | .inr (.inr (c2, fs)) => (match fs[k]? with
    | some v => if c2 = ci then K v else none
    | none => none)
  | _ => none
def pfd (c : am_C) (ci k : Nat) (v : am_V) (K : am_C → Option am_R) : Option am_R := match c with
  | .inr (.inr (c2, fs)) => if c2 = ci ∧ k < fs.length ∧ am_ft (am_ty ci k) v = true then K (cO ci (fs.set k v)) else none
  | _ => none
theorem gv_no {M pc : Nat} {ls st : List am_V} {h : am_H} (hn : am_nx M pc ls st h = none) : gv M pc ls st h = none := by
  cases hg : gv M pc ls st h with
  | none => rfl
  | some R =>
    obtain ⟨f, hf⟩ := gv_some.mp hg
    cases f with
    | zero => simp [am_run] at hf
    | succ f => rw [am_run, hn] at hf; simp at hf
theorem gq_get {idx ci k a : Nat} (hd : decode (am_by M) pc = .ok (.getfield idx, 3)) (hl : am_fl (am_oc M) idx = some (ci, k)) : gv M pc ls (vR a :: r) h = gfd (h.1 a) ci k (fun v => gv M (pc + 3) ls (v :: r) h) := by
  unfold gfd
  split
  · rename_i c2 fs hc
    split
    · rename_i v hv
      by_cases hk : c2 = ci
      · rw [if_pos hk]; exact gv_go (q := (pc + 3, ls, v :: r, h)) (by rw [gv_ex hd]; simp [am_ex, hl, hc, hv, hk])
      · rw [if_neg hk]; exact gv_no (by rw [gv_ex hd]; simp [am_ex, hl, hc, hv, hk])
    · rename_i hv
      exact gv_no (by rw [gv_ex hd]; simp [am_ex, hl, hc, hv])
  · rename_i hc
    refine gv_no ?_
    rw [gv_ex hd]
    simp only [am_ex, hl]
theorem gq_put {idx ci k a : Nat} {v : am_V} (hd : decode (am_by M) pc = .ok (.putfield idx, 3)) (hl : am_fl (am_oc M) idx = some (ci, k)) (hf : am_pu M ci k = true) : gv M pc ls (v :: vR a :: r) h = pfd (h.1 a) ci k v (fun c => gv M (pc + 3) ls r (hS h a c)) := by
  unfold pfd
  split
  · rename_i c2 fs hc
    split
    · rename_i q
      exact gv_go (q := (pc + 3, ls, r, hS h a (cO ci (fs.set k v)))) (by rw [gv_ex hd]; simp [am_ex, hl, hc, hf, q.1, q.2.1, q.2.2])
    · rename_i q
      refine gv_no ?_
      rw [gv_ex hd]
      simp only [am_ex, hl, hc]
      rw [if_neg]
      rintro ⟨-, q1, q2, q3, -⟩
      exact q ⟨q1, q2, q3⟩
  · rename_i hc
    refine gv_no ?_
    rw [gv_ex hd]
    simp only [am_ex, hl]
def ald (c : am_C) (i : Int) (K : Int → Option am_R) : Option am_R := match c with
  | .inl (t, n, f) => if (t = 0 ∨ t = 9) ∧ 0 ≤ i ∧ i < (n : Int) ∧ i < 2147483648 then K (f i.toNat) else none
  | _ => none
def ast (c : am_C) (i x : Int) (K : am_C → Option am_R) : Option am_R := match c with
  | .inl (t, n, f) => if t = 0 ∧ 0 ≤ i ∧ i < (n : Int) ∧ i < 2147483648 then K (cI 0 n (fun j => if j = i.toNat then x else f j)) else none
  | _ => none
def bld (c : am_C) (i : Int) (K : Int → Option am_R) : Option am_R := match c with
  | .inl (t, n, f) => if t = 1 ∧ 0 ≤ i ∧ i < (n : Int) ∧ i < 2147483648 then K (f i.toNat) else none
  | _ => none
def bst (c : am_C) (i x : Int) (K : am_C → Option am_R) : Option am_R := match c with
  | .inl (t, n, f) => if t = 1 ∧ (x = 0 ∨ x = 1) ∧ 0 ≤ i ∧ i < (n : Int) ∧ i < 2147483648 then K (cI 1 n (fun j => if j = i.toNat then x else f j)) else none
  | _ => none
def qld (c : am_C) (i : Int) (K : am_V → Option am_R) : Option am_R := match c with
  | .inr (.inl (_, n, f)) => if 0 ≤ i ∧ i < (n : Int) ∧ i < 2147483648 then K (.inr (.inr (.inl (f i.toNat)))) else none
  | _ => none
def qst (c : am_C) (i : Int) (v : Nat) (cv : am_C) (K : am_C → Option am_R) : Option am_R := match c, cv with
  | .inr (.inl (t, n, f)), .inr (.inr (c2, _)) => if 0 ≤ i ∧ i < (n : Int) ∧ i < 2147483648 ∧ ((t = 2 ∧ c2 = 5) ∨ (t = 3 ∧ (c2 = 0 ∨ c2 = 1 ∨ c2 = 3 ∨ c2 = 4 ∨ c2 = 9 ∨ c2 = 10))) then K (cQ t n (fun j => if j = i.toNat then some v else f j)) else none
  | _, _ => none
theorem gq_iaload {i : Int} {a : Nat} (hd : decode (am_by M) pc = .ok (.iaload, 1)) : gv M pc ls (vI i :: vR a :: r) h = ald (h.1 a) i (fun x => gv M (pc + 1) ls (vI x :: r) h) := by
  unfold ald
  split
  · rename_i t n f hc
    split
    · rename_i q
      exact gv_go (q := (pc + 1, ls, vI (f i.toNat) :: r, h)) (by rw [gv_ex hd]; simp only [am_ex, hc]; rw [if_pos ⟨trivial, q⟩])
    · rename_i q
      exact gv_no (by rw [gv_ex hd]; simp only [am_ex, hc]; rw [if_neg (fun z => q z.2)])
  · rename_i hc
    refine gv_no ?_
    rw [gv_ex hd]
    simp only [am_ex]
theorem gq_iastore {i x : Int} {a : Nat} (hd : decode (am_by M) pc = .ok (.iastore, 1)) : gv M pc ls (vI x :: vI i :: vR a :: r) h = ast (h.1 a) i x (fun c => gv M (pc + 1) ls r (hS h a c)) := by
  unfold ast
  split
  · rename_i t n f hc
    split
    · rename_i q
      exact gv_go (q := (pc + 1, ls, r, hS h a (cI 0 n (fun j => if j = i.toNat then x else f j)))) (by rw [gv_ex hd]; simp only [am_ex, hc]; rw [if_pos ⟨trivial, q⟩])
    · rename_i q
      exact gv_no (by rw [gv_ex hd]; simp only [am_ex, hc]; rw [if_neg (fun z => q z.2)])
  · rename_i hc
    refine gv_no ?_
    rw [gv_ex hd]
    simp only [am_ex]
theorem gq_baload {i : Int} {a : Nat} (hd : decode (am_by M) pc = .ok (.baload, 1)) : gv M pc ls (vI i :: vR a :: r) h = bld (h.1 a) i (fun x => gv M (pc + 1) ls (vI x :: r) h) := by
  unfold bld
  split
  · rename_i t n f hc
    split
    · rename_i q
      exact gv_go (q := (pc + 1, ls, vI (f i.toNat) :: r, h)) (by rw [gv_ex hd]; simp only [am_ex, hc]; rw [if_pos ⟨trivial, q⟩])
    · rename_i q
      exact gv_no (by rw [gv_ex hd]; simp only [am_ex, hc]; rw [if_neg (fun z => q z.2)])
  · rename_i hc
    refine gv_no ?_
    rw [gv_ex hd]
    simp only [am_ex]
theorem gq_bastore {i x : Int} {a : Nat} (hd : decode (am_by M) pc = .ok (.bastore, 1)) : gv M pc ls (vI x :: vI i :: vR a :: r) h = bst (h.1 a) i x (fun c => gv M (pc + 1) ls r (hS h a c)) := by
  unfold bst
  split
  · rename_i t n f hc
    split
    · rename_i q
      exact gv_go (q := (pc + 1, ls, r, hS h a (cI 1 n (fun j => if j = i.toNat then x else f j)))) (by rw [gv_ex hd]; simp only [am_ex, hc]; rw [if_pos ⟨trivial, q⟩])
    · rename_i q
      exact gv_no (by rw [gv_ex hd]; simp only [am_ex, hc]; rw [if_neg (fun z => q z.2)])
  · rename_i hc
    refine gv_no ?_
    rw [gv_ex hd]
    simp only [am_ex]
theorem gq_aaload {i : Int} {a : Nat} (hd : decode (am_by M) pc = .ok (.aaload, 1)) : gv M pc ls (vI i :: vR a :: r) h = qld (h.1 a) i (fun x => gv M (pc + 1) ls (x :: r) h) := by
  unfold qld
  split
  · rename_i t n f hc
    split
    · rename_i q
      exact gv_go (q := (pc + 1, ls, (.inr (.inr (.inl (f i.toNat)))) :: r, h)) (by rw [gv_ex hd]; simp only [am_ex, hc]; rw [if_pos ⟨trivial, q⟩])
    · rename_i q
      exact gv_no (by rw [gv_ex hd]; simp only [am_ex, hc]; rw [if_neg (fun z => q z.2)])
  · rename_i hc
    refine gv_no ?_
    rw [gv_ex hd]
    simp only [am_ex]
theorem gq_aastore {i : Int} {a v : Nat} (hd : decode (am_by M) pc = .ok (.aastore, 1)) : gv M pc ls (vR v :: vI i :: vR a :: r) h = qst (h.1 a) i v (h.1 v) (fun c => gv M (pc + 1) ls r (hS h a c)) := by
  unfold qst
  split
  · rename_i t n f c2 fs hc hv
    split
    · rename_i q
      exact gv_go (q := (pc + 1, ls, r, hS h a (cQ t n (fun j => if j = i.toNat then some v else f j)))) (by rw [gv_ex hd]; simp only [am_ex, hc, hv]; rw [if_pos ⟨trivial, q⟩])
    · rename_i q
      exact gv_no (by rw [gv_ex hd]; simp only [am_ex, hc, hv]; rw [if_neg (fun z => q z.2)])
  · rename_i hc
    refine gv_no ?_
    rw [gv_ex hd]
    simp only [am_ex]
theorem gq_alen {a n : Nat} {f : Nat → Int} (hd : decode (am_by M) pc = .ok (.arraylength, 1)) (hc : h.1 a = cI 9 n f) : gv M pc ls (vR a :: r) h = gv M (pc + 1) ls (vI (n : Int) :: r) h := gv_go (q := (pc + 1, ls, vI (n : Int) :: r, h)) (by rw [gv_ex hd]; simp [am_ex, hc])
theorem gq_newI {n : Int} (hd : decode (am_by M) pc = .ok (.newarray .int, 2)) (hn : 0 ≤ n ∧ n ≤ 1000) : gv M pc ls (vI n :: r) h = gv M (pc + 2) ls (vR h.2.1 :: r) (hA h (cI 0 n.toNat (fun _ => 0)) n.toNat) := gv_go (q := (pc + 2, ls, vR h.2.1 :: r, hA h (cI 0 n.toNat (fun _ => 0)) n.toNat)) (by rw [gv_ex hd]; simp [am_ex, hn])
theorem gq_newZ {n : Int} (hd : decode (am_by M) pc = .ok (.newarray .boolean, 2)) (hn : 0 ≤ n ∧ n ≤ 1000) : gv M pc ls (vI n :: r) h = gv M (pc + 2) ls (vR h.2.1 :: r) (hA h (cI 1 n.toNat (fun _ => 0)) n.toNat) := gv_go (q := (pc + 2, ls, vR h.2.1 :: r, hA h (cI 1 n.toNat (fun _ => 0)) n.toNat)) (by rw [gv_ex hd]; simp [am_ex, hn])
theorem gq_newS {idx : Nat} {n : Int} (hd : decode (am_by M) pc = .ok (.anewarray idx, 3)) (hc : am_nc (am_oc M) idx = some 5) (hn : 0 ≤ n ∧ n ≤ 1000) : gv M pc ls (vI n :: r) h = gv M (pc + 3) ls (vR h.2.1 :: r) (hA h (cQ 2 n.toNat (fun _ => none)) n.toNat) := gv_go (q := (pc + 3, ls, vR h.2.1 :: r, hA h (cQ 2 n.toNat (fun _ => none)) n.toNat)) (by rw [gv_ex hd]; simp [am_ex, hn, hc])
theorem gq_newM {idx : Nat} {n : Int} (hd : decode (am_by M) pc = .ok (.anewarray idx, 3)) (hc : am_nc (am_oc M) idx = some 3) (hn : 0 ≤ n ∧ n ≤ 1000) : gv M pc ls (vI n :: r) h = gv M (pc + 3) ls (vR h.2.1 :: r) (hA h (cQ 3 n.toNat (fun _ => none)) n.toNat) := gv_go (q := (pc + 3, ls, vR h.2.1 :: r, hA h (cQ 3 n.toNat (fun _ => none)) n.toNat)) (by rw [gv_ex hd]; simp [am_ex, hn, hc])
theorem gq_new {idx ci n : Nat} {fs : List am_V} (hd : decode (am_by M) pc = .ok (.new idx, 3)) (hc : am_nc (am_oc M) idx = some ci) (h1 : ci < 13) (hf : am_dfs ci = fs) (hn : am_nf ci = n) : gv M pc ls st h = gv M (pc + 3) ls (vR h.2.1 :: st) (hA h (cO ci fs) n) := by
  subst hf; subst hn
  exact gv_go (q := (pc + 3, ls, vR h.2.1 :: st, hA h (cO ci (am_dfs ci)) (am_nf ci))) (by rw [gv_ex hd]; simp [am_ex, hc, h1])
theorem gq_ireturn {x : Int} (hd : decode (am_by M) pc = .ok (.ireturn, 1)) (hr : am_rt M = some .int) : gv M pc ls [vI x] h = some (some (vI x), h) := gv_ret (by rw [gv_ex hd]; simp [am_ex, hr])
theorem gq_zreturn {x : Int} (hd : decode (am_by M) pc = .ok (.ireturn, 1)) (hr : am_rt M = some .boolean) (hx : x = 0 ∨ x = 1) : gv M pc ls [vI x] h = some (some (vI x), h) := gv_ret (by rw [gv_ex hd]; simp [am_ex, hr, hx])
theorem gq_lreturn {x : Int} (hd : decode (am_by M) pc = .ok (.lreturn, 1)) (hr : am_rt M = some .long) : gv M pc ls [vL x] h = some (some (vL x), h) := gv_ret (by rw [gv_ex hd]; simp [am_ex, hr])
theorem gq_return (hd : decode (am_by M) pc = .ok (.return_, 1)) (hr : am_rt M = none) : gv M pc ls [] h = some (none, h) := gv_ret (by rw [gv_ex hd]; simp [am_ex, hr])
theorem am_call_of {Y : Nat} {as r : List am_V} (hn : as.length = am_na Y) (hl : am_fit M Y = true) (ha : as.all am_ir = true) (hr : (r.map am_ct).sum ≤ 8) : am_call M Y (as.reverse ++ r) = some (.inr (.inr (Y, as, r))) := by
  have hl2 : as.reverse.length = am_na Y := by rw [List.length_reverse]; exact hn
  unfold am_call
  rw [← hl2, List.take_left, List.drop_left, List.reverse_reverse]
  rw [if_pos]
  refine ⟨by simp, ?_, hr, hl⟩
  rw [List.all_reverse]; exact ha
theorem gq_callS {idx Y : Nat} {as : List am_V} (hd : decode (am_by M) pc = .ok (.invokestatic idx, 3)) (hs : am_st (am_oc M) idx = some (1, Y) ∨ am_st (am_oc M) idx = some (2, Y)) (hn : as.length = am_na Y) (hl : am_fit M Y = true) (ha : as.all am_ir = true) (hr : (r.map am_ct).sum ≤ 8) : gv M pc ls (as.reverse ++ r) h = (ev Y as h).bind (fun R => gv M (pc + 3) ls (R.1.toList ++ r) R.2) := by
  refine gv_call ?_
  rw [gv_ex hd]
  rcases hs with hs | hs <;> simp only [am_ex, hs] <;> rw [if_pos trivial] <;> exact am_call_of hn hl ha hr
theorem am_rcv_of {Y a ci : Nat} {as r fs : List am_V} (hn : (vR a :: as).length = am_na Y) (hc : h.1 a = cO ci fs) : am_rcv Y ((vR a :: as).reverse ++ r) h = some ci := by
  unfold am_rcv
  have e1 : ((vR a :: as).reverse ++ r)[am_na Y - 1]? = some (vR a) := by
    rw [← hn, List.reverse_cons, List.append_assoc]
    simp
  rw [e1]
  simp only [hc]
/-- a call on an object: its class is asked, then the method -/
def rcv (c : am_C) (ci : Nat) (A : Option am_R) : Option am_R := match c with
  | .inr (.inr (c2, _)) => if c2 = ci then A else none
  | _ => none
def rcA (c : am_C) (A : Option am_R) : Option am_R := match c with
  | .inr (.inr _) => A
  | _ => none
theorem am_rcv_no {Y a : Nat} {as r : List am_V} (hn : (vR a :: as).length = am_na Y) (hc : ∀ ci fs, h.1 a ≠ cO ci fs) : am_rcv Y ((vR a :: as).reverse ++ r) h = none := by
  unfold am_rcv
  have e1 : ((vR a :: as).reverse ++ r)[am_na Y - 1]? = some (vR a) := by
    rw [← hn, List.reverse_cons, List.append_assoc]
    simp
  rw [e1]
  simp only
theorem gq_callV {idx Y a ci : Nat} {as : List am_V} (hd : decode (am_by M) pc = .ok (.invokevirtual idx, 3)) (hs : am_st (am_oc M) idx = some (0, Y)) (hci : am_oc Y = ci) (hn : (vR a :: as).length = am_na Y) (hl : am_fit M Y = true) (ha : (vR a :: as).all am_ir = true) (hr : (r.map am_ct).sum ≤ 8) : gv M pc ls ((vR a :: as).reverse ++ r) h = rcv (h.1 a) ci ((ev Y (vR a :: as) h).bind (fun R => gv M (pc + 3) ls (R.1.toList ++ r) R.2)) := by
  subst hci
  unfold rcv
  split
  · rename_i c2 fs hc
    split
    · rename_i q
      refine gv_call ?_
      rw [gv_ex hd]
      simp only [am_ex, hs, am_rcv_of hn hc]
      rw [if_pos ⟨trivial, by rw [q]⟩]
      exact am_call_of hn hl ha hr
    · rename_i q
      refine gv_no ?_
      rw [gv_ex hd]
      simp only [am_ex, hs, am_rcv_of hn hc]
      rw [if_neg (fun z => q (Option.some.inj z.2))]
  · rename_i hc
    refine gv_no ?_
    rw [gv_ex hd]
    simp only [am_ex, hs, am_rcv_no hn (fun ci fs => hc ci fs)]
    rw [if_neg (fun z => by simp at z)]
theorem gq_callI {idx Y a : Nat} {as : List am_V} (hd : decode (am_by M) pc = .ok (.invokespecial idx, 3)) (hs : am_st (am_oc M) idx = some (3, Y) ∨ am_st (am_oc M) idx = some (4, Y) ∨ am_st (am_oc M) idx = some (5, Y)) (hn : (vR a :: as).length = am_na Y) (hl : am_fit M Y = true) (ha : (vR a :: as).all am_ir = true) (hr : (r.map am_ct).sum ≤ 8) : gv M pc ls ((vR a :: as).reverse ++ r) h = rcA (h.1 a) ((ev Y (vR a :: as) h).bind (fun R => gv M (pc + 3) ls (R.1.toList ++ r) R.2)) := by
  unfold rcA
  split
  · rename_i q hc
    refine gv_call ?_
    rw [gv_ex hd]
    rcases hs with hs | hs | hs <;> simp only [am_ex, hs, am_rcv_of (ci := q.1) (fs := q.2) hn hc] <;> rw [if_pos (by simp)] <;> exact am_call_of hn hl ha hr
  · rename_i hc
    refine gv_no ?_
    rw [gv_ex hd]
    rcases hs with hs | hs | hs <;> simp only [am_ex, hs, am_rcv_no hn (fun ci fs => hc (ci, fs))] <;> rw [if_neg (fun z => by simp at z)]
theorem gq_callW {idx Y a ci : Nat} {as fs : List am_V} (hd : decode (am_by M) pc = .ok (.invokevirtual idx, 3)) {x : Nat} (hs : am_st (am_oc M) idx = some (6, x)) (hx : am_na x = am_na Y) (hY : am_wo ci = Y) (hw : am_ws.contains ci = true) (hn : (vR a :: as).length = am_na Y) (hl : am_fit M Y = true) (ha : (vR a :: as).all am_ir = true) (hr : (r.map am_ct).sum ≤ 8) (hc : h.1 a = cO ci fs) : gv M pc ls ((vR a :: as).reverse ++ r) h = (ev Y (vR a :: as) h).bind (fun R => gv M (pc + 3) ls (R.1.toList ++ r) R.2) := by
  subst hY
  refine gv_call ?_
  rw [gv_ex hd]
  simp only [am_ex, hs, am_rcv_of (Y := x) (hn.trans hx.symm) hc]
  rw [if_pos ⟨trivial, hw⟩]
  exact am_call_of hn hl ha hr
theorem gq_objInit {idx y a : Nat} (hd : decode (am_by M) pc = .ok (.invokespecial idx, 3)) (hs : am_st (am_oc M) idx = some (8, y)) (hr : (r.map am_ct).sum ≤ 8) (h1 : 1 ≤ am_fr M) (h2 : 20 ≤ am_lo M) : gv M pc ls (vR a :: r) h = gv M (pc + 3) ls r h := gv_go (q := (pc + 3, ls, r, h)) (by rw [gv_ex hd]; simp [am_ex, hs, hr, h1, h2])
theorem gq_max {idx y0 : Nat} {x y : Int} (hd : decode (am_by M) pc = .ok (.invokestatic idx, 3)) (hs : am_st (am_oc M) idx = some (10, y0)) (hr : (r.map am_ct).sum ≤ 8) (h1 : 1 ≤ am_fr M) (h2 : 40 ≤ am_lo M) (hx : (-2147483648 ≤ x ∧ x < 2147483648) ∧ -2147483648 ≤ y ∧ y < 2147483648) : gv M pc ls (vI y :: vI x :: r) h = gv M (pc + 3) ls (vI (if x < y then y else x) :: r) h := gv_go (q := (pc + 3, ls, vI (if x < y then y else x) :: r, h)) (by rw [gv_ex hd]; simp only [am_ex, hs]; rw [if_pos ⟨trivial, hr, h1, h2, am_rg_of hx.1, am_rg_of hx.2⟩])
theorem gq_min {idx y0 : Nat} {x y : Int} (hd : decode (am_by M) pc = .ok (.invokestatic idx, 3)) (hs : am_st (am_oc M) idx = some (11, y0)) (hr : (r.map am_ct).sum ≤ 8) (h1 : 1 ≤ am_fr M) (h2 : 40 ≤ am_lo M) (hx : (-2147483648 ≤ x ∧ x < 2147483648) ∧ -2147483648 ≤ y ∧ y < 2147483648) : gv M pc ls (vI y :: vI x :: r) h = gv M (pc + 3) ls (vI (if y < x then y else x) :: r) h := gv_go (q := (pc + 3, ls, vI (if y < x then y else x) :: r, h)) (by rw [gv_ex hd]; simp only [am_ex, hs]; rw [if_pos ⟨trivial, hr, h1, h2, am_rg_of hx.1, am_rg_of hx.2⟩])
def acp (c0 c1 : am_C) (n : Int) (K : am_C → Option am_R) : Option am_R := match c0, c1 with
  | .inl (t0, n0, f0), .inl (t1, n1, f1) => if t0 = 0 ∧ t1 = 0 ∧ 0 ≤ n ∧ n ≤ (n0 : Int) ∧ n ≤ (n1 : Int) ∧ n < 2147483648 then K (cI 0 n1 (fun j => if j < n.toNat then f0 j else f1 j)) else none
  | _, _ => none
theorem gq_copy {idx y a a0 : Nat} {n : Int} (hd : decode (am_by M) pc = .ok (.invokestatic idx, 3)) (hs : am_st (am_oc M) idx = some (9, y)) (h1 : 1 ≤ am_fr M) (h2 : 40 ≤ am_lo M) : gv M pc ls [vI n, vI 0, vR a, vI 0, vR a0] h = acp (h.1 a0) (h.1 a) n (fun c => gv M (pc + 3) ls [] (hS h a c)) := by
  unfold acp
  split
  · rename_i t0 n0 f0 t1 n1 f1 hc0 hc1
    split
    · rename_i q
      exact gv_go (q := (pc + 3, ls, [], hS h a (cI 0 n1 (fun j => if j < n.toNat then f0 j else f1 j)))) (by rw [gv_ex hd]; simp only [am_ex, hs, hc0, hc1]; rw [if_pos ⟨trivial, q.1, q.2.1, trivial, trivial, q.2.2.1, q.2.2.2.1, q.2.2.2.2.1, q.2.2.2.2.2, h1, h2⟩])
    · rename_i q
      exact gv_no (by rw [gv_ex hd]; simp only [am_ex, hs, hc0, hc1]; rw [if_neg (fun z => q ⟨z.2.1, z.2.2.1, z.2.2.2.2.2.1, z.2.2.2.2.2.2.1, z.2.2.2.2.2.2.2.1, z.2.2.2.2.2.2.2.2.1⟩)])
  · rename_i hc
    refine gv_no ?_
    rw [gv_ex hd]
    simp only [am_ex, hs]
end GV
/-! how the equations are used: what a cell gives, what is written, what a call brings -/
theorem hS_same {h : am_H} {a : Nat} {c : am_C} : (hS h a c).1 a = c := by simp [hS]
theorem hS_ne {h : am_H} {a x : Nat} {c : am_C} (q : ¬ x = a) : (hS h a c).1 x = h.1 x := by simp [hS, q]
theorem hS_2 {h : am_H} {a : Nat} {c : am_C} : (hS h a c).2 = h.2 := rfl
theorem hS_hS {h : am_H} {a : Nat} {c d : am_C} : hS (hS h a c) a d = hS h a d := by
  unfold hS
  refine Prod.ext ?_ rfl
  funext x
  by_cases q : x = a <;> simp [q]
theorem ald_in {n : Nat} {f : Nat → Int} {i : Int} {K : Int → Option am_R} (q : (0 ≤ i ∧ i < (n : Int)) ∧ i < 2147483648) : ald (cI 0 n f) i K = K (f i.toNat) := by simp [ald, q.1.1, q.1.2, q.2]
theorem ald_scr {n : Nat} {f : Nat → Int} {i : Int} {K : Int → Option am_R} (q : (0 ≤ i ∧ i < (n : Int)) ∧ i < 2147483648) : ald (cI 9 n f) i K = K (f i.toNat) := by simp [ald, q.1.1, q.1.2, q.2]
theorem ast_in {n : Nat} {f : Nat → Int} {i x : Int} {K : am_C → Option am_R} (q : (0 ≤ i ∧ i < (n : Int)) ∧ i < 2147483648) : ast (cI 0 n f) i x K = K (cI 0 n (fun j => if j = i.toNat then x else f j)) := by simp [ast, q.1.1, q.1.2, q.2]
theorem bld_in {n : Nat} {f : Nat → Int} {i : Int} {K : Int → Option am_R} (q : (0 ≤ i ∧ i < (n : Int)) ∧ i < 2147483648) : bld (cI 1 n f) i K = K (f i.toNat) := by simp [bld, q.1.1, q.1.2, q.2]
theorem bst_in {n : Nat} {f : Nat → Int} {i x : Int} {K : am_C → Option am_R} (q : ((0 ≤ i ∧ i < (n : Int)) ∧ i < 2147483648) ∧ (x = 0 ∨ x = 1)) : bst (cI 1 n f) i x K = K (cI 1 n (fun j => if j = i.toNat then x else f j)) := by simp [bst, q.1.1.1, q.1.1.2, q.1.2, q.2]
theorem qld_in {t n : Nat} {f : Nat → Option Nat} {i : Int} {K : am_V → Option am_R} (q : (0 ≤ i ∧ i < (n : Int)) ∧ i < 2147483648) : qld (cQ t n f) i K = K (.inr (.inr (.inl (f i.toNat)))) := by simp [qld, q.1.1, q.1.2, q.2]
theorem qst_5 {n v : Nat} {f : Nat → Option Nat} {i : Int} {fs : List am_V} {K : am_C → Option am_R} (q : (0 ≤ i ∧ i < (n : Int)) ∧ i < 2147483648) : qst (cQ 2 n f) i v (cO 5 fs) K = K (cQ 2 n (fun j => if j = i.toNat then some v else f j)) := by simp [qst, q.1.1, q.1.2, q.2]
theorem qst_3 {n v c2 : Nat} {f : Nat → Option Nat} {i : Int} {fs : List am_V} {K : am_C → Option am_R} (q : ((0 ≤ i ∧ i < (n : Int)) ∧ i < 2147483648) ∧ (c2 = 0 ∨ c2 = 1 ∨ c2 = 3 ∨ c2 = 4 ∨ c2 = 9 ∨ c2 = 10)) : qst (cQ 3 n f) i v (cO c2 fs) K = K (cQ 3 n (fun j => if j = i.toNat then some v else f j)) := by simp [qst, q.1.1.1, q.1.1.2, q.1.2, q.2]
theorem acp_in {n0 n1 : Nat} {f0 f1 : Nat → Int} {n : Int} {K : am_C → Option am_R} (q : (0 ≤ n ∧ n ≤ (n0 : Int)) ∧ n ≤ (n1 : Int) ∧ n < 2147483648) : acp (cI 0 n0 f0) (cI 0 n1 f1) n K = K (cI 0 n1 (fun j => if j < n.toNat then f0 j else f1 j)) := by simp [acp, q.1.1, q.1.2, q.2.1, q.2.2]
theorem rcv_in {ci : Nat} {fs : List am_V} {A : Option am_R} : rcv (cO ci fs) ci A = A := by simp [rcv]
theorem rcA_in {ci : Nat} {fs : List am_V} {A : Option am_R} : rcA (cO ci fs) A = A := rfl
theorem bd_i {M pc : Nat} {ls r : List am_V} {x : Int} {h : am_H} : (some (some (vI x), h) : Option am_R).bind (fun R => gv M pc ls (R.1.toList ++ r) R.2) = gv M pc ls (vI x :: r) h := rfl
theorem bd_l {M pc : Nat} {ls r : List am_V} {x : Int} {h : am_H} : (some (some (vL x), h) : Option am_R).bind (fun R => gv M pc ls (R.1.toList ++ r) R.2) = gv M pc ls (vL x :: r) h := rfl
theorem bd_v {M pc : Nat} {ls r : List am_V} {h : am_H} : (some (none, h) : Option am_R).bind (fun R => gv M pc ls (R.1.toList ++ r) R.2) = gv M pc ls r h := rfl
