/-! The state as mathematics, and how class and model hold it -/
abbrev Tm : Type := Int × (Nat → Int) × (Nat → Int) × (Nat → Int)
abbrev Gl : Type := Nat × Nat × Int × (Nat → Int)
def RT (h : am_H) (b : Nat) (G : Gl) (T : Tm) : Prop := RepS h b G.1 G.2.1 T.1 T.2.1 T.2.2.1 G.2.2.2 T.2.2.2
def WT (G : Gl) (T : Tm) : Prop := Wf G.1 G.2.1 T.2.1 T.2.2.1 G.2.2.2 T.2.2.2
/-- what is the same on a part of the heap -/
def SameOn (P : Nat → Prop) (h h' : am_H) : Prop := ∀ x, P x → h'.1 x = h.1 x
theorem RT.on {h h' : am_H} {b : Nat} {G : Gl} {T : Tm} (S : RT h b G T) (f : SameOn (fun x => b ≤ x ∧ x < b + 6) h h') : RT h' b G T := by
  obtain ⟨ce', so', ha', ye', ic, ⟨s0, s1, s2, s3, s4, s5⟩, r⟩ := S
  exact ⟨ce', so', ha', ye', ic, ⟨by rw [f _ (by omega)]; exact s0, by rw [f _ (by omega)]; exact s1, by rw [f _ (by omega)]; exact s2, by rw [f _ (by omega)]; exact s3, by rw [f _ (by omega)]; exact s4, by rw [f _ (by omega)]; exact s5⟩, r⟩
theorem ScSh.on {h h' : am_H} {b : Nat} (S : ScSh h b) (f : SameOn (fun x => b ≤ x ∧ x < b + 6) h h') : ScSh h' b := by
  obtain ⟨n, c, t, ce, so, ha, ye, ic, ⟨s0, s1, s2, s3, s4, s5⟩⟩ := S
  exact ⟨n, c, t, ce, so, ha, ye, ic, ⟨by rw [f _ (by omega)]; exact s0, by rw [f _ (by omega)]; exact s1, by rw [f _ (by omega)]; exact s2, by rw [f _ (by omega)]; exact s3, by rw [f _ (by omega)]; exact s4, by rw [f _ (by omega)]; exact s5⟩⟩
/-! the class's parts -/
def CeO (h : am_H) (lo pc : Int) : Prop := h.1 1 = cO 11 [vR 2, vI lo, vR 10, vR 16, vR 22, vI pc, vR 23, vR 24, vR 25, vR 28, vR 40, vR 41]
def CTx (h : am_H) (L : Nat) (f : Nat → Int) : Prop := ∃ x3 x4 x5 x6 x7 x8 x9 x10 g, h.1 2 = cO 8 [vI (L : Int), vR 3, vR 4, x3, x4, x5, x6, x7, x8, x9, x10] ∧ h.1 3 = cI 0 120 g ∧ (∀ j, j < L → g j = f j) ∧ ScSh h 4
def CPa (h : am_H) (G : Gl) (k : Nat) (p : Nat → Tm) : Prop := ∃ (P : Nat → Option Nat) (σ : Nat → Nat), h.1 22 = cQ 2 10 P ∧ (∀ i, i < 10 → P i = some (42 + 6 * σ i) ∧ σ i < 10 ∧ ScSh h (42 + 6 * σ i)) ∧ (∀ i j, i < 10 → j < 10 → σ i = σ j → i = j) ∧ ∀ i, i < k → RT h (42 + 6 * σ i) G (p i)
def CIm (h : am_H) (G : Gl) (im : Nat → Option Tm) : Prop := ∃ Q K, h.1 23 = cQ 2 2 Q ∧ h.1 24 = cI 1 2 K ∧ ∀ i, i < 2 → Q i = some (102 + 6 * i) ∧ ScSh h (102 + 6 * i) ∧ (match im i with
  | none => K i = 0
  | some T => K i = 1 ∧ RT h (102 + 6 * i) G T)
def CSe (h : am_H) (k : Nat) (s v : Nat → Int) : Prop := ∃ s' v', h.1 25 = cO 6 [vI (k : Int), vR 26, vR 27] ∧ h.1 26 = cI 0 6 s' ∧ h.1 27 = cI 0 6 v' ∧ ∀ j, j < k → s' j = s j ∧ v' j = v j
def CKi (h : am_H) : Prop := ∃ K, h.1 40 = cQ 3 6 K ∧ (∀ i, i < 6 → K i = some (114 + i)) ∧ h.1 114 = cO 3 [] ∧ h.1 115 = cO 9 [] ∧ h.1 116 = cO 0 [] ∧ h.1 117 = cO 1 [] ∧ h.1 118 = cO 4 [] ∧ h.1 119 = cO 10 []
def CTa (h : am_H) (tr : Int) : Prop := h.1 41 = cO 7 [vL tr]
theorem CTx.on {h h' : am_H} {L : Nat} {g : Nat → Int} (S : CTx h L g) (f : SameOn (fun x => 2 ≤ x ∧ x < 10) h h') : CTx h' L g := by
  obtain ⟨x3, x4, x5, x6, x7, x8, x9, x10, q, a, b, c, d⟩ := S
  exact ⟨x3, x4, x5, x6, x7, x8, x9, x10, q, by rw [f _ (by omega)]; exact a, by rw [f _ (by omega)]; exact b, c, d.on (fun x hx => f x (by omega))⟩
theorem CPa.on {h h' : am_H} {G : Gl} {k : Nat} {p : Nat → Tm} (S : CPa h G k p) (hk : k ≤ 10) (f : SameOn (fun x => x = 22 ∨ 42 ≤ x ∧ x < 102) h h') : CPa h' G k p := by
  obtain ⟨P, σ, a, b, c, d⟩ := S
  refine ⟨P, σ, by rw [f _ (by omega)]; exact a, fun i hi => ?_, c, fun i hi => ?_⟩
  · have z := b i hi
    exact ⟨z.1, z.2.1, z.2.2.on (fun x hx => f x (by omega))⟩
  · have z := b i (by omega)
    exact (d i hi).on (fun x hx => f x (by omega))
theorem CIm.on {h h' : am_H} {G : Gl} {im : Nat → Option Tm} (S : CIm h G im) (f : SameOn (fun x => x = 23 ∨ x = 24 ∨ 102 ≤ x ∧ x < 114) h h') : CIm h' G im := by
  obtain ⟨Q, K, a, b, c⟩ := S
  refine ⟨Q, K, by rw [f _ (by omega)]; exact a, by rw [f _ (by omega)]; exact b, fun i hi => ?_⟩
  have z := c i hi
  refine ⟨z.1, z.2.1.on (fun x hx => f x (by omega)), ?_⟩
  have y := z.2.2
  cases e : im i with
  | none => rw [e] at y; exact y
  | some T => rw [e] at y; exact ⟨y.1, y.2.on (fun x hx => f x (by omega))⟩
theorem CSe.on {h h' : am_H} {k : Nat} {s v : Nat → Int} (S : CSe h k s v) (f : SameOn (fun x => 25 ≤ x ∧ x < 28) h h') : CSe h' k s v := by
  obtain ⟨s', v', a, b, c, d⟩ := S
  exact ⟨s', v', by rw [f _ (by omega)]; exact a, by rw [f _ (by omega)]; exact b, by rw [f _ (by omega)]; exact c, d⟩
theorem CKi.on {h h' : am_H} (S : CKi h) (f : SameOn (fun x => x = 40 ∨ 114 ≤ x ∧ x < 120) h h') : CKi h' := by
  obtain ⟨K, a, b, c0, c1, c2, c3, c4, c5⟩ := S
  exact ⟨K, by rw [f _ (by omega)]; exact a, b, by rw [f _ (by omega)]; exact c0, by rw [f _ (by omega)]; exact c1, by rw [f _ (by omega)]; exact c2, by rw [f _ (by omega)]; exact c3, by rw [f _ (by omega)]; exact c4, by rw [f _ (by omega)]; exact c5⟩
theorem RT.sh {h : am_H} {b : Nat} {G : Gl} {T : Tm} (S : RT h b G T) : ScSh h b := RepS.sh S
