/-! what holds between the calls -/
def FC (h h' : am_H) : Prop := h'.2 = h.2 ∧ ∀ x, ¬ (1 ≤ x ∧ x < 120) → h'.1 x = h.1 x
def FM (h h' : am_H) : Prop := h'.2 = h.2 ∧ ∀ x, x < 120 → h'.1 x = h.1 x
theorem Fr.fc {b e : Nat} {h h' : am_H} (f : Fr b e h h') (q : 1 ≤ b ∧ e ≤ 120) : FC h h' := ⟨f.1, fun x hx => f.at (by omega)⟩
theorem FP.fc {P : Nat → Prop} {h h' : am_H} (f : FP P h h') (q : ∀ x, P x → 1 ≤ x ∧ x < 120) : FC h h' := ⟨f.1, fun x hx => f.2 x (fun z => hx (q x z))⟩
theorem FC.rf {h : am_H} : FC h h := ⟨rfl, fun _ _ => rfl⟩
theorem FM.rf {h : am_H} : FM h h := ⟨rfl, fun _ _ => rfl⟩
theorem FE.fm {l : List Nat} {h h' : am_H} (f : FE l h h') (q : ∀ y ∈ l, 120 ≤ y) : FM h h' := ⟨f.1, fun x hx => f.2 x (fun z => by have := q x z; omega)⟩
theorem FC.fe {h h' : am_H} (f : FC h h') : FE (List.range 120) h h' := ⟨f.1, fun x hx => f.2 x (fun z => hx (List.mem_range.mpr z.2))⟩
theorem nr {x : Nat} (h : 120 ≤ x) : x ∉ List.range 120 := fun z => by
  have := List.mem_range.mp z
  omega
def CI (h : am_H) (G : Gl) (Z : St) (L : Nat) (f : Nat → Int) (im : Nat → Option Tm) (kk : Nat) (s v : Nat → Int) (tr : Int) : Prop := CZ h G.2.2.1 G Z ∧ ScSh h 16 ∧ CTx h L f ∧ CIm h G im ∧ CSe h kk s v ∧ CLi h ∧ CKi h ∧ CTa h tr
def MI (h : am_H) (G : Gl) (Z : St) (L : Nat) (f : Nat → Int) (im : Nat → Option Tm) (kk : Nat) (s v : Nat → Int) (tr : Int) : Prop := MZ h tr L kk G Z ∧ MTx h L f ∧ Sh h 123 29 ∧ MIm h G im ∧ MNo h kk s v ∧ MLi h
theorem CZ.on {h h' : am_H} {lo : Int} {G : Gl} {Z : St} (C : CZ h lo G Z) (hk : Z.2.1 ≤ 10) (f : SameOn pZ h h') : CZ h' lo G Z := ⟨(f 1 (Or.inl rfl)).trans C.1, C.2.1.on (fun x hx => f x (by unfold pZ; omega)), C.2.2.on hk (fun x hx => f x (by unfold pZ; omega))⟩
theorem CTa.on {h h' : am_H} {tr : Int} (C : CTa h tr) (f : h'.1 41 = h.1 41) : CTa h' tr := f.trans C
theorem CI.on {h h' : am_H} {G : Gl} {Z : St} {L : Nat} {f : Nat → Int} {im : Nat → Option Tm} {kk : Nat} {s v : Nat → Int} {tr : Int} (C : CI h G Z L f im kk s v tr) (hk : Z.2.1 ≤ 10) (g : FM h h') : CI h' G Z L f im kk s v tr := by
  obtain ⟨c1, c2, c3, c4, c5, c6, c7, c8⟩ := C
  exact ⟨c1.on hk (fun x hx => g.2 x (by unfold pZ at hx; omega)), c2.on (fun x hx => g.2 x (by omega)), c3.on (fun x hx => g.2 x (by omega)), c4.on (fun x hx => g.2 x (by omega)), c5.on (fun x hx => g.2 x (by omega)), c6.on (fun x hx => g.2 x (by omega)), c7.on (fun x hx => g.2 x (by omega)), c8.on (g.2 41 (by omega))⟩
theorem MZ.fe {h h' : am_H} {tr L kk : Int} {G : Gl} {Z : St} {l : List Nat} (S : MZ h tr L kk G Z) (f : FE l h h') (q : 120 ∉ l ∧ 122 ∉ l ∧ 124 ∉ l ∧ 125 ∉ l ∧ 129 ∉ l) : MZ h' tr L kk G Z := ⟨S.1.fe f q.1, S.2.1.fe f ⟨q.1, q.2.1, q.2.2.1⟩, S.2.2.1.fe f q.2.2.2.1, S.2.2.2.fe f q.2.2.2.2⟩
theorem MI.on {h h' : am_H} {G : Gl} {Z : St} {L : Nat} {f : Nat → Int} {im : Nat → Option Tm} {kk : Nat} {s v : Nat → Int} {tr : Int} (C : MI h G Z L f im kk s v tr) (g : FC h h') : MI h' G Z L f im kk s v tr := by
  obtain ⟨c1, c2, c3, c4, c5, c6⟩ := C
  have e := g.fe
  exact ⟨c1.fe e ⟨nr (by omega), nr (by omega), nr (by omega), nr (by omega), nr (by omega)⟩, c2.fe e (nr (by omega)), c3.fe e (nr (by omega)), c4.fe e ⟨nr (by omega), nr (by omega)⟩, c5.fe e (nr (by omega)), c6.fe e ⟨nr (by omega), nr (by omega), nr (by omega), nr (by omega)⟩⟩
section CalC
variable {h : am_H} {G : Gl} {Z : St} {L : Nat} {f : Nat → Int} {im : Nat → Option Tm} {kk : Nat} {s v : Nat → Int} {tr : Int}
theorem CI.tx (C : CI h G Z L f im kk s v tr) (hk : Z.2.1 ≤ 10) {h' : am_H} {L' : Nat} {f' : Nat → Int} (X : CTx h' L' f') (g : Fr 2 10 h h') : CI h' G Z L' f' im kk s v tr := by
  obtain ⟨c1, c2, c3, c4, c5, c6, c7, c8⟩ := C
  exact ⟨c1.on hk (fun x hx => g.at (by unfold pZ at hx; omega)), c2.on (fun x hx => g.at (by omega)), X, c4.on (fun x hx => g.at (by omega)), c5.on (fun x hx => g.at (by omega)), c6.on (fun x hx => g.at (by omega)), c7.on (fun x hx => g.at (by omega)), c8.on (g.at (by omega))⟩
theorem CI.tl (C : CI h G Z L f im kk s v tr) (hk : Z.2.1 ≤ 10) {h' : am_H} (X : ScSh h' 16) (g : Fr 16 22 h h') : CI h' G Z L f im kk s v tr := by
  obtain ⟨c1, c2, c3, c4, c5, c6, c7, c8⟩ := C
  exact ⟨c1.on hk (fun x hx => g.at (by unfold pZ at hx; omega)), X, c3.on (fun x hx => g.at (by omega)), c4.on (fun x hx => g.at (by omega)), c5.on (fun x hx => g.at (by omega)), c6.on (fun x hx => g.at (by omega)), c7.on (fun x hx => g.at (by omega)), c8.on (g.at (by omega))⟩
theorem CI.li (C : CI h G Z L f im kk s v tr) (hk : Z.2.1 ≤ 10) {h' : am_H} (X : CLi h') (g : Fr 28 40 h h') : CI h' G Z L f im kk s v tr := by
  obtain ⟨c1, c2, c3, c4, c5, c6, c7, c8⟩ := C
  exact ⟨c1.on hk (fun x hx => g.at (by unfold pZ at hx; omega)), c2.on (fun x hx => g.at (by omega)), c3.on (fun x hx => g.at (by omega)), c4.on (fun x hx => g.at (by omega)), c5.on (fun x hx => g.at (by omega)), X, c7.on (fun x hx => g.at (by omega)), c8.on (g.at (by omega))⟩
theorem CI.se (C : CI h G Z L f im kk s v tr) (hk : Z.2.1 ≤ 10) {h' : am_H} {k' : Nat} {s' v' : Nat → Int} (X : CSe h' k' s' v') (g : Fr 25 28 h h') : CI h' G Z L f im k' s' v' tr := by
  obtain ⟨c1, c2, c3, c4, c5, c6, c7, c8⟩ := C
  exact ⟨c1.on hk (fun x hx => g.at (by unfold pZ at hx; omega)), c2.on (fun x hx => g.at (by omega)), c3.on (fun x hx => g.at (by omega)), c4.on (fun x hx => g.at (by omega)), X, c6.on (fun x hx => g.at (by omega)), c7.on (fun x hx => g.at (by omega)), c8.on (g.at (by omega))⟩
theorem CI.ta (C : CI h G Z L f im kk s v tr) (hk : Z.2.1 ≤ 10) {h' : am_H} {tr' : Int} (X : CTa h' tr') (g : Fr 41 42 h h') : CI h' G Z L f im kk s v tr' := by
  obtain ⟨c1, c2, c3, c4, c5, c6, c7, c8⟩ := C
  exact ⟨c1.on hk (fun x hx => g.at (by unfold pZ at hx; omega)), c2.on (fun x hx => g.at (by omega)), c3.on (fun x hx => g.at (by omega)), c4.on (fun x hx => g.at (by omega)), c5.on (fun x hx => g.at (by omega)), c6.on (fun x hx => g.at (by omega)), c7.on (fun x hx => g.at (by omega)), X⟩
theorem CI.zz (C : CI h G Z L f im kk s v tr) {h' : am_H} {Z' : St} (X : CZ h' G.2.2.1 G Z') (g : FP pZ h h') : CI h' G Z' L f im kk s v tr := by
  obtain ⟨c1, c2, c3, c4, c5, c6, c7, c8⟩ := C
  exact ⟨X, c2.on (fun x hx => g.2 x (by unfold pZ; omega)), c3.on (fun x hx => g.2 x (by unfold pZ; omega)), c4.on (fun x hx => g.2 x (by unfold pZ; omega)), c5.on (fun x hx => g.2 x (by unfold pZ; omega)), c6.on (fun x hx => g.2 x (by unfold pZ; omega)), c7.on (fun x hx => g.2 x (by unfold pZ; omega)), c8.on (g.2 41 (by unfold pZ; omega))⟩
theorem pZ_r (x : Nat) (h : pZ x) : 1 ≤ x ∧ x < 120 := by unfold pZ at h; omega
theorem CPa.drop {k : Nat} {p : Nat → Tm} (C : CPa h G k p) {k' : Nat} (q : k' ≤ k) : CPa h G k' p := by
  obtain ⟨P, σ, a, b, c, d⟩ := C
  exact ⟨P, σ, a, b, c, fun i hi => d i (by omega)⟩
theorem MPa.drop {k : Nat} {p : Nat → Tm} (C : MPa h G k p) {k' : Nat} (q : k' ≤ k) : MPa h G k' p := by
  obtain ⟨P, a, b⟩ := C
  exact ⟨P, a, fun i hi => b i (by omega)⟩
theorem nBackP_le (k : Nat) (i : Int) : nBackP im k i ≤ k := by
  unfold nBackP
  split
  · split <;> omega
  · omega
theorem CI.ke (C : CI h G Z L f im kk s v tr) (hk : Z.2.1 ≤ 10) {h' : am_H} {im' : Nat → Option Tm} (X : CIm h' G im') (g : FP (fun x => x = 24 ∨ 102 ≤ x ∧ x < 114) h h') : CI h' G Z L f im' kk s v tr := by
  obtain ⟨c1, c2, c3, c4, c5, c6, c7, c8⟩ := C
  exact ⟨c1.on hk (fun x hx => g.2 x (by unfold pZ at hx; omega)), c2.on (fun x hx => g.2 x (by omega)), c3.on (fun x hx => g.2 x (by omega)), X, c5.on (fun x hx => g.2 x (by omega)), c6.on (fun x hx => g.2 x (by omega)), c7.on (fun x hx => g.2 x (by omega)), c8.on (g.2 41 (by omega))⟩
theorem CI.ba (C : CI h G Z L f im kk s v tr) (hk : Z.2.1 ≤ 10) {h' : am_H} {T' : Tm} {k' : Nat} (q : k' ≤ Z.2.1) (X : CeO h' G.2.2.1 k') (Y : RT h' 10 G T') (g : FP (fun x => x = 1 ∨ 10 ≤ x ∧ x < 16) h h') : CI h' G (T', k', Z.2.2) L f im kk s v tr := by
  obtain ⟨c1, c2, c3, c4, c5, c6, c7, c8⟩ := C
  exact ⟨⟨X, Y, (c1.2.2.on hk (fun x hx => g.2 x (by omega))).drop q⟩, c2.on (fun x hx => g.2 x (by omega)), c3.on (fun x hx => g.2 x (by omega)), c4.on (fun x hx => g.2 x (by omega)), c5.on (fun x hx => g.2 x (by omega)), c6.on (fun x hx => g.2 x (by omega)), c7.on (fun x hx => g.2 x (by omega)), c8.on (g.2 41 (by omega))⟩
theorem MI.a3 {h' : am_H} (M : MI h G Z L f im kk s v tr) (S : RM h' G Z.1) (s1 : Sh h' 129 6) (s2 : Sh h' 130 19) (g : FE [124, 129, 130] h h') : MI h' G Z L f im kk s v tr := by
  obtain ⟨⟨m1, m2, m3, m4⟩, m5, m6, m7, m8, l1, l2, l3, B, l4, l5⟩ := M
  exact ⟨⟨m1.fe g (by decide), S, m3.fe g (by decide), s1⟩, m5.fe g (by decide), m6.fe g (by decide), m7.fe g (by decide), m8.fe g (by decide), s2, l2.fe g (by decide), l3.fe g (by decide), B, g.at l4 (by decide), l5⟩
theorem MI.al {h' : am_H} (M : MI h G Z L f im kk s v tr) (S : RM h' G Z.1) (l : MLi h') (g : FE [124, 130, 131, 132, 133] h h') : MI h' G Z L f im kk s v tr := by
  obtain ⟨⟨m1, m2, m3, m4⟩, m5, m6, m7, m8, -⟩ := M
  exact ⟨⟨m1.fe g (by decide), S, m3.fe g (by decide), m4.fe g (by decide)⟩, m5.fe g (by decide), m6.fe g (by decide), m7.fe g (by decide), m8.fe g (by decide), l⟩
theorem MI.mz {h' : am_H} {Z' : St} (M : MI h G Z L f im kk s v tr) (S : MZ h' tr L kk G Z') (g : FE [120, 124, 125, 129] h h') : MI h' G Z' L f im kk s v tr := by
  obtain ⟨-, m5, m6, m7, m8, m9⟩ := M
  exact ⟨S, m5.fe g (by decide), m6.fe g (by decide), m7.fe g (by decide), m8.fe g (by decide), m9.fe g (by decide)⟩
end CalC
def Inv (h : am_H) (G : Gl) (Z : St) (L : Nat) (f : Nat → Int) (im : Nat → Option Tm) (kk : Nat) (s v : Nat → Int) (tr : Int) : Prop := PI G Z L f im kk s v ∧ CI h G Z L f im kk s v tr ∧ MI h G Z L f im kk s v tr
/-- a call is behind us -/
def CallD (i P : Nat) (h : am_H) : Prop := ∃ h' G Z L f im kk s v tr, gv mLaw_law P [vR 0, vR 1, vR 120, vI (i : Int)] [] h = gv mLaw_law 754 [vR 0, vR 1, vR 120, vI (i : Int)] [] h' ∧ Inv h' G Z L f im kk s v tr ∧ h'.1 0 = h.1 0 ∧ h'.2 = h.2
