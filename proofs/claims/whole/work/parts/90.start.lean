/-! The law on the small machine -/
def am_h0 (L : Nat) (f : Nat → Int) : am_H := (fun a => if a = 0 then cI 9 L f else cI 8 0 (fun _ => 0), 1, 0)
theorem law_ok (L : Nat) (f : Nat → Int) (hL : L ≤ 2560) (hf : ∀ j, -2147483648 ≤ f j ∧ f j < 2147483648) : ∃ h' : am_H, gv mLaw_law 0 [vR 0, vU, vU, vU] [] (am_h0 L f) = some (some (vI 1), h') ∧ h'.2.1 ≤ 1000 ∧ h'.2.2 ≤ 10000 := by
  have hn0 : (am_h0 L f).2.1 = 1 := rfl
  have z1 : (hA (am_h0 L f) (cO 11 [vN, vI 0, vN, vN, vN, vI 0, vN, vN, vN, vN, vN, vN]) 12).1 1 = cO 11 [vN, vI 0, vN, vN, vN, vI 0, vN, vN, vN, vN, vN, vN] := hA_at rfl
  obtain ⟨h1, fT, s, v, p, e1, O1, X1, R1, Q1, P1, I1, E1, L1, K1, T1, n1, r1, w1⟩ := k_init z1 rfl
  have z2 : (hA h1 (cO 12 [vL 0, vN, vI 0, vN, vN, vN, vN, vI 0, vN, vN, vN, vI 0, vI 0, vI 0, vI 0, vI 0, vN, vN, vN, vN, vN]) 21).1 120 = cO 12 [vL 0, vN, vI 0, vN, vN, vN, vN, vI 0, vN, vN, vN, vI 0, vI 0, vI 0, vI 0, vI 0, vN, vN, vN, vN, vN] := hA_at n1.symm
  obtain ⟨h2, e2, O2, R2, X2, D2, P2, I2, N2, S2, L2, r2, n2, g2⟩ := q_init z2 (by rw [hA_21, n1])
  have g : ∀ x, x < 120 → h2.1 x = h1.1 x := fun x hx => by rw [g2 x hx, hA_ne (by omega)]
  have pI : PI D0.1 (D0.2.1, 0, p) 0 fT (fun _ => none) 0 s v := ⟨D0_ok.1, (show (0 : Int) ≤ 0 ∧ (0 : Int) ≤ 999 by decide), (show (0 : Nat) ≤ 10 by decide), fun i hi => absurd hi (Nat.not_lt_zero _), fun i T e => (by cases e), by decide, fun j hj => absurd hj (Nat.not_lt_zero _), ⟨by decide, fun j hj => absurd hj (Nat.not_lt_zero _)⟩, D0_ok.2.2.2.1⟩
  have cI' : CI h2 D0.1 (D0.2.1, 0, p) 0 fT (fun _ => none) 0 s v 0 := ⟨⟨(g 1 (by omega)).trans O1, R1.on (fun x hx => g x (by omega)), P1.on (by omega) (fun x hx => g x (by omega))⟩, Q1.on (fun x hx => g x (by omega)), X1.on (fun x hx => g x (by omega)), I1.on (fun x hx => g x (by omega)), E1.on (fun x hx => g x (by omega)), L1.on (fun x hx => g x (by omega)), K1.on (fun x hx => g x (by omega)), T1.on (g 41 (by omega))⟩
  have mI : MI h2 D0.1 (D0.2.1, 0, p) 0 fT (fun _ => none) 0 s v 0 := ⟨⟨O2, R2, P2 p, S2⟩, X2 fT, D2, I2, N2 s v, L2⟩
  have hs : h2.1 0 = cI 9 L f := by
    rw [g 0 (by omega), w1, hA_ne (by rw [hn0]; omega)]
    rfl
  obtain ⟨h3, e3, n3⟩ := law_loop hL hf 512 0 h2 D0.1 (D0.2.1, 0, p) 0 fT (fun _ => none) 0 s v 0 (by omega) (by omega) ⟨pI, cI', mI⟩ hs
  refine ⟨h3, ?_, ?_, ?_⟩
  · rw [← e3]
    simp (disch := omega) only [e_Law_law_0, e_Law_law_3, e_Law_law_4, e_Law_law_7, e_Law_law_8, e_Law_law_11, e_Law_law_12, e_Law_law_15, e_Law_law_16, e_Law_law_17, alk_in, ask_in, blk_in, bsk_in, qlk_in, ack_in, rcv_in, rcA_in, bk_i, bk_l, bk_v, hS_same, hS_ne, hS_hS, hS_2, am_10, am_01, am_00, if_true, if_false, hn0, z1, e1, n1, z2, e2]
    rfl
  · rw [n3, n2]; omega
  · rw [n3, r2, hA_22]
    have z : (hA (am_h0 L f) (cO 11 [vN, vI 0, vN, vN, vN, vI 0, vN, vN, vN, vN, vN, vN]) 12).2.2 = 12 := rfl
    rw [z] at r1
    omega
