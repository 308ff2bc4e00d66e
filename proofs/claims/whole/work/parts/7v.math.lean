/-! HILL -/
theorem xR_none {F : xS} {R P n : Nat} {d : Nat} (e1 : F 1 2 = nI 0) (e2 : F 127 19 = nI 0) (e3 : F 1 4 = F 127 20) (hh : xRh F R P) (h0 : F 131 0 = 0) (h1 : F 131 1 = 0) (h2 : ∀ p, p < P → ∃ r, r < R ∧ F 131 (2 + p) = nI r) (h3 : ∀ p, p < 7 → F 33 p = F 131 (2 + p) ∧ F 34 p = 0 ∧ F 131 (9 + p) = 0 ∧ F 35 p = 0 ∧ F 131 (16 + p) = 0) (h4 : ∀ j, j < 49 → F 36 j = F 131 (23 + j) ∧ ∃ v, v ≤ 9 ∧ F 131 (23 + j) = nI v) (h5 : F 32 5 = 0) (h6 : F 32 4 = 0) (h7 : F 27 1 = nI n) (hn : n < 16) (h8 : F 27 2 = nI 0) (h9 : F 127 36 = nI 0) (h10 : F 23 2 = nI 0) (h11 : F 127 15 = nI 0) (h12 : ∀ i, i < 2 → F (30 + i) 2 = 0 ∧ F 147 i = 0) (h13 : F 19 3 = nI 0) (h14 : F 127 11 = nI 0) (h15 : F 26 0 = nI d) (h16 : F 127 10 = nI d) (hd : d < 2147483648) : xR F := by
  refine ⟨⟨0, by decide, e1, e2, fun i hi => absurd hi (by omega)⟩, e3, ⟨R, P, hh, ⟨by rw [h5, h0], by rw [h6, h1], fun p hp => ⟨?_, ?_, ?_⟩, fun j hj => ?_⟩, ⟨⟨0, by decide, h0⟩, ⟨0, Nat.two_pow_pos P, h1⟩, fun p hp => ?_, fun p hp => ?_, fun p hp => ⟨0, by decide, ?_⟩, fun j hj => ?_⟩, ⟨n, 0, hn, by decide, h7, h8, h9, fun j hj => absurd hj (by omega)⟩, ⟨0, by decide, h10, h11, fun i hi => absurd hi (by omega)⟩, fun i hi => ⟨by rw [(h12 i hi).1, (h12 i hi).2], Or.inl (h12 i hi).2, fun q => absurd q (by rw [(h12 i hi).2]; decide)⟩⟩, ⟨0, by decide, h13, h14, fun i hi => absurd hi (by omega)⟩, ⟨d, hd, h15, h16⟩⟩
  · rw [Nat.zero_add]; exact (h3 p hp).1
  · rw [Nat.zero_add, (h3 p hp).2.2.1]; exact (h3 p hp).2.1
  · rw [Nat.zero_add, (h3 p hp).2.2.2.2]; exact (h3 p hp).2.2.2.1
  · rw [Nat.zero_add]; exact (h4 j hj).1
  · rw [Nat.zero_add]; exact h2 p hp
  · rw [Nat.zero_add, (h3 p hp).2.2.1, i_0]; omega
  · rw [Nat.zero_add, (h3 p hp).2.2.2.2]; rfl
  · rw [Nat.zero_add]; exact (h4 j hj).2
/-- the class's state behind a text without a fault -/
def hU (CE : xS) : xS := f_X10_hill_L81 (fu 0 (nI 2)) (xu (xu (xu (f_X7_begin (f_X2_copyFrom (xu CE 1 2 0) 9 3) 32 9) 19 3 0) 23 2 0) 27 2 0) 0
theorem hU_ok (CE : xS) : s_X2_copyFrom (xu CE 1 2 0) 9 3 ∧ s_X7_begin (f_X2_copyFrom (xu CE 1 2 0) 9 3) 32 9 ∧ s_X10_hill_L81 (fu 0 (nI 2)) (xu (xu (xu (f_X7_begin (f_X2_copyFrom (xu CE 1 2 0) 9 3) 32 9) 19 3 0) 23 2 0) 27 2 0) 0 ∧ (∀ a, a ≠ 1 → a ≠ 19 → a ≠ 23 → a ≠ 27 → a ≠ 30 → a ≠ 31 → (a < 9 ∨ 14 < a) → (a < 32 ∨ 36 < a) → hU CE a = CE a) ∧ (∀ j, j ≠ 2 → hU CE 1 j = CE 1 j) ∧ hU CE 1 2 = nI 0 ∧ (∀ j, j < 6 → hU CE 10 j = CE 4 j ∧ hU CE 11 j = CE 5 j) ∧ (∀ j, j < 7 → hU CE 12 j = CE 6 j) ∧ (∀ j, 5 ≤ j → j ≤ 9 → hU CE 9 j = CE 3 j) ∧ hU CE 32 5 = 0 ∧ hU CE 32 4 = 0 ∧ (∀ p, p < 7 → hU CE 33 p = CE 7 p ∧ hU CE 34 p = 0 ∧ hU CE 35 p = 0) ∧ (∀ j, j < 49 → hU CE 36 j = CE 8 j) ∧ hU CE 19 3 = nI 0 ∧ hU CE 23 2 = nI 0 ∧ hU CE 27 2 = nI 0 ∧ hU CE 27 1 = CE 27 1 ∧ ∀ i, i < 2 → hU CE (30 + i) 2 = 0 := by
  unfold hU
  have q1 : ∀ a, a ≠ 1 → xu CE 1 2 0 a = CE a := fun a q => xu_ne q
  have q2 : ∀ j, j ≠ 2 → xu CE 1 2 0 1 j = CE 1 j := fun j q => by rw [xu_eq, upd_ne q]
  have q3 : xu CE 1 2 0 1 2 = nI 0 := by rw [xu_eq, upd_eq]; rfl
  generalize xu CE 1 2 0 = A at q1 q2 q3 ⊢
  obtain ⟨a1, a2, a3, a4, a5, a6⟩ := hcf_ok A
  generalize f_X2_copyFrom A 9 3 = B at a2 a3 a4 a5 a6 ⊢
  obtain ⟨b1, b2, b3, b4, b5, b6⟩ := beg_ok B
  generalize f_X7_begin B 32 9 = C at b2 b3 b4 b5 b6 ⊢
  have c2 : ∀ a, a ≠ 19 → a ≠ 23 → a ≠ 27 → xu (xu (xu C 19 3 0) 23 2 0) 27 2 0 a = C a := fun a x y z => by rw [xu_ne z, xu_ne y, xu_ne x]
  have c19 : xu (xu (xu C 19 3 0) 23 2 0) 27 2 0 19 3 = nI 0 := by rw [xu_ne (by decide), xu_ne (by decide), xu_eq, upd_eq]; rfl
  have c23 : xu (xu (xu C 19 3 0) 23 2 0) 27 2 0 23 2 = nI 0 := by rw [xu_ne (by decide), xu_eq, upd_eq]; rfl
  have c27 : xu (xu (xu C 19 3 0) 23 2 0) 27 2 0 27 2 = nI 0 := by rw [xu_eq, upd_eq]; rfl
  have c271 : xu (xu (xu C 19 3 0) 23 2 0) 27 2 0 27 1 = C 27 1 := by rw [xu_eq, upd_ne (by decide), xu_ne (by decide), xu_ne (by decide)]
  generalize xu (xu (xu C 19 3 0) 23 2 0) 27 2 0 = D at c2 c19 c23 c27 c271 ⊢
  obtain ⟨d1, d2, d3⟩ := h81_ok D
  generalize f_X10_hill_L81 (fu 0 (nI 2)) D 0 = E at d2 d3 ⊢
  have e9 : ∀ a, 9 ≤ a → a ≤ 14 → E a = B a := fun a x y => by rw [d2 a (by omega) (by omega), c2 a (by omega) (by omega) (by omega), b2 a (by omega)]
  have e32 : ∀ a, 32 ≤ a → a ≤ 36 → E a = C a := fun a x y => by rw [d2 a (by omega) (by omega), c2 a (by omega) (by omega) (by omega)]
  have e1 : E 1 = A 1 := by rw [d2 1 (by decide) (by decide), c2 1 (by decide) (by decide) (by decide), b2 1 (by omega), a2 1 (by omega)]
  refine ⟨a1, b1, d1, fun a x1 x2 x3 x4 x5 x6 x7 x8 => by rw [d2 a x5 x6, c2 a x2 x3 x4, b2 a x8, a2 a x7, q1 a x1], fun j hj => by rw [e1]; exact q2 j hj, by rw [e1]; exact q3, fun j hj => ?_, fun j hj => ?_, fun j x y => ?_, ?_, ?_, fun p hp => ?_, fun j hj => ?_, ?_, ?_, ?_, ?_, d3⟩
  · rw [e9 10 (by decide) (by decide), e9 11 (by decide) (by decide), (a3 j hj).1, (a3 j hj).2, q1 4 (by decide), q1 5 (by decide)]
    exact ⟨rfl, rfl⟩
  · rw [e9 12 (by decide) (by decide), (a4 j hj).1, q1 6 (by decide)]
  · rw [e9 9 (by decide) (by decide), a6 j x y, q1 3 (by decide)]
  · rw [e32 32 (by decide) (by decide)]; exact b3
  · rw [e32 32 (by decide) (by decide)]; exact b4
  · rw [e32 33 (by decide) (by decide), e32 34 (by decide) (by decide), e32 35 (by decide) (by decide), (b5 p hp).1, (b5 p hp).2.1, (b5 p hp).2.2, (a4 p hp).2, q1 7 (by decide)]
    exact ⟨rfl, rfl, rfl⟩
  · rw [e32 36 (by decide) (by decide), b6 j hj, a5 j hj, q1 8 (by decide)]
  · rw [d2 19 (by decide) (by decide)]; exact c19
  · rw [d2 23 (by decide) (by decide)]; exact c23
  · rw [d2 27 (by decide) (by decide)]; exact c27
  · rw [d2 27 (by decide) (by decide), c271, b2 27 (by omega), a2 27 (by omega), q1 27 (by decide)]
theorem op_hill {S : xS} (h : xR S) : s_X10_hill S ∧ s_X11_hill ((f_X10_hill S).2) ∧ (f_X10_hill S).1 = (f_X11_hill ((f_X10_hill S).2)).1 ∧ xR ((f_X11_hill ((f_X10_hill S).2)).2) := by
  obtain ⟨⟨n, hn, h1, h1', htx⟩, h2, ⟨R0, P0, hh, hk, hv, ⟨rn, rc, rn1, rc1, r27, r27', r36, rr⟩, hb, hi⟩, h4, ⟨dd, dd1, dd2, dd3⟩⟩ := id h
  have f240 : n + 1 ≤ fu 0 240 := by rw [i240, fu_0 (by decide)]; omega
  have run : ∀ W : xS, (∀ a, 127 ≤ a → W a = S a) → s_X11_hill_L42 (fu 0 6) (hV W) 0 ∧ s_X11_hill_L70 (fu 0 49) (f_X11_hill_L42 (fu 0 6) (hV W) 0) 0 ∧ s_X8_skipBlanks (hC S) ∧ s_X8_read_L33 (fu 0 240) (f_X8_skipBlanks (hC S)) 0 ∧ s_X11_hill_L91 300 (hM W) 0 ∧ (((f_X11_hill_L91 300 (hM W) 0).1 = 0 ∧ ∃ k R P, sd (hC S) (hM W) n k R P (f_X8_read_L33 (fu 0 240) (f_X8_skipBlanks (hC S)) 0) (f_X11_hill_L91 300 (hM W) 0).2) ∨ fz (hC S) (hM W) (f_X11_hill_L91 300 (hM W) 0).1 (f_X8_read_L33 (fu 0 240) (f_X8_skipBlanks (hC S)) 0) (f_X11_hill_L91 300 (hM W) 0).2) ∧ hC S 1 4 = -1 ∧ hM W 127 20 = -1 ∧ (∀ a, a ≠ 1 → (a < 3 ∨ 8 < a) → hC S a = S a) ∧ (∀ j, j ≠ 3 → j ≠ 4 → j ≠ 5 → j ≠ 7 → hC S 1 j = S 1 j) ∧ (∀ a, a ≠ 127 → a ≠ 139 → a ≠ 140 → a ≠ 143 → hM W a = W a) ∧ ∀ j, j < 20 ∨ j = 36 → hM W 127 j = W 127 j := fun W hW => by
    obtain ⟨z1, z2, z3, z4⟩ := start_ok hn h1 h1' htx hW
    obtain ⟨y1, y2, y3⟩ := read_ok z3.1.1 hn (n + 1) 0 0 0 0 (fu 0 240) 300 (hC S) (hM W) (by omega) (Nat.le_refl _) f240 (by omega) z3
    exact ⟨z1, z2, (sd_s z3).1, y1, y2, y3, z4⟩
  obtain ⟨-, -, c1, c2, -, c3, c4, -, c5, c6, -, -⟩ := run S (fun _ _ => rfl)
  have cs : s_X2_clear S 3 := (clear_ok S).1
  generalize hCE : f_X8_read_L33 (fu 0 240) (f_X8_skipBlanks (hC S)) 0 = CE at *
  have frCE : frC (hC S) CE := by
    rcases c3 with ⟨-, k, R, P, g⟩ | ⟨f, x, -, -, -, -, -, -, -, g, -⟩
    · exact g.2.2.2.2.2.2.2.1
    · exact g
  have eRead : f_X8_read S = if CE 1 3 = 0 then (1, CE) else (0, CE) := by
    rw [← hCE]
    rfl
  have sRead : s_X8_read S := by
    refine ⟨cs, c1, ?_, trivial⟩
    exact c2
  have ce : ∀ a, a ≠ 1 → (a < 3 ∨ 8 < a) → CE a = S a := fun a q1 q2 => by rw [frCE.1 a q2 q1, c5 a q1 q2]
  -- the reference's way from a world W
  have mEq : ∀ W, f_X11_hill W = if (f_X11_hill_L91 300 (hM W) 0).1 ≤ 0 then (xu (xu (xu (xu (xu (f_X11_takeRead (xu (f_X11_hill_L91 300 (hM W) 0).2 127 19 0)) 127 11 0) 127 15 0) 127 36 0) 147 (0 : Int32).toNatClampNeg 0) 147 (1 : Int32).toNatClampNeg 0 127 6, xu (xu (xu (xu (xu (f_X11_takeRead (xu (f_X11_hill_L91 300 (hM W) 0).2 127 19 0)) 127 11 0) 127 15 0) 127 36 0) 147 (0 : Int32).toNatClampNeg 0) 147 (1 : Int32).toNatClampNeg 0) else (-10 - (f_X11_hill_L91 300 (hM W) 0).1, xu (f_X11_hill_L91 300 (hM W) 0).2 127 19 0) := fun W => rfl
  have mS : ∀ W, s_X11_hill_L42 (fu 0 6) (hV W) 0 → s_X11_hill_L70 (fu 0 49) (f_X11_hill_L42 (fu 0 6) (hV W) 0) 0 → s_X11_hill_L91 300 (hM W) 0 → ((f_X11_hill_L91 300 (hM W) 0).1 ≤ 0 → s_X11_takeRead (xu (f_X11_hill_L91 300 (hM W) 0).2 127 19 0)) → s_X11_hill W := fun W z1 z2 z3 z4 => ⟨z1, z2, z3, fun q => ⟨z4 q, trivial⟩, fun _ => trivial⟩
  by_cases cf : CE 1 3 = 0
  · -- no fault
    rw [if_pos cf] at eRead
    obtain ⟨u1, u2, u3, u4, u5, u6, u7, u8, u9, u10, u11, u12, u13, u14, u15, u16, u17, u18⟩ := hU_ok CE
    have eC : f_X10_hill S = (hU CE 9 9, hU CE) := by
      unfold f_X10_hill
      dsimp only
      rw [eRead]
      exact if_neg (show ¬ (1 : Int32) = 0 by decide)
    have sC : s_X10_hill S := by
      unfold s_X10_hill
      dsimp only
      rw [eRead]
      exact ⟨sRead, fun q => absurd q (show ¬ (1 : Int32) = 0 by decide), fun _ => ⟨u1, u2, u3, trivial⟩⟩
    have uS : ∀ a, 127 ≤ a → hU CE a = S a := fun a q => by rw [u4 a (by omega) (by omega) (by omega) (by omega) (by omega) (by omega) (by omega) (by omega), ce a (by omega) (by omega)]
    obtain ⟨v1, v2, -, -, v3, v4, -, v5, -, -, v6, v7⟩ := run (hU CE) uS
    have eM := mEq (hU CE)
    have sM := mS (hU CE) v1 v2 v3
    rw [eC]
    dsimp only
    refine ⟨sC, ?_⟩
    rw [eM]
    clear eM mEq mS eC sC run
    generalize hM (hU CE) = M at *
    generalize f_X11_hill_L91 300 M 0 = Q at *
    rcases v4 with ⟨q0, k, R, P, g⟩ | ⟨f, x, f1, f2, -, -, f3, -⟩
    · rw [if_pos (by rw [q0]; exact z00)]
      obtain ⟨t, d, -, -, -, g4, g20, -, gm⟩ := g
      obtain ⟨d1, d2, d3, d4, d5, d6, d7, d8, d9, ⟨b7, b71, b72, b73⟩, ⟨b8, b81, b82, b83⟩, -, dA, dW, dP, dH, dL⟩ := d
      generalize hV0 : xu Q.2 127 19 0 = V at *
      have Va : ∀ a, a ≠ 127 → V a = Q.2 a := fun a q => by rw [← hV0, xu_ne q]
      have Vj : ∀ j, j ≠ 19 → V 127 j = Q.2 127 j := fun j q => by rw [← hV0, xu_eq, upd_ne q]
      have V19 : V 127 19 = nI 0 := by rw [← hV0, xu_eq, upd_eq]; rfl
      obtain ⟨k1, k2, ⟨k3, k4, k5, k6, k7⟩, k8, k9, k10, k11, k12, k13⟩ := take_ok (V := V) d2 (by rw [Vj 30 (by decide)]; exact d9)
      refine ⟨sM (fun _ => k1), ?_⟩
      clear sM
      generalize f_X11_takeRead V = T at *
      rw [c_0, c_1]
      generalize hF : xu (xu (xu (xu (xu T 127 11 0) 127 15 0) 127 36 0) 147 0 0) 147 1 0 = F
      have Fa : ∀ a, a ≠ 127 → a ≠ 147 → F a = T a := fun a q1 q2 => by rw [← hF, xu_ne q2, xu_ne q2, xu_ne q1, xu_ne q1, xu_ne q1]
      have Fj : ∀ j, j ≠ 11 → j ≠ 15 → j ≠ 36 → F 127 j = T 127 j := fun j q1 q2 q3 => by rw [← hF, xu_ne (by decide), xu_ne (by decide), xu_eq, upd_ne q3, xu_eq, upd_ne q2, xu_eq, upd_ne q1]
      have F11 : F 127 11 = nI 0 := by rw [← hF, xu_ne (by decide), xu_ne (by decide), xu_eq, upd_ne (by decide), xu_eq, upd_ne (by decide), xu_eq, upd_eq]; rfl
      have F15 : F 127 15 = nI 0 := by rw [← hF, xu_ne (by decide), xu_ne (by decide), xu_eq, upd_ne (by decide), xu_eq, upd_eq]; rfl
      have F36 : F 127 36 = nI 0 := by rw [← hF, xu_ne (by decide), xu_ne (by decide), xu_eq, upd_eq]; rfl
      have F147 : ∀ i, i < 2 → F 147 i = 0 := fun i hi => by
        rw [← hF, xu_eq, xu_eq]
        have : i = 0 ∨ i = 1 := by omega
        rcases this with rfl | rfl
        · rw [upd_ne (by decide), upd_eq]
        · rw [upd_eq]
      clear hF
      -- cells that neither reading touches
      have Fu : ∀ a, a ≠ 127 → a ≠ 147 → (a < 128 ∨ 131 < a) → (a < 139 ∨ 143 < a) → F a = hU CE a := fun a q1 q2 q3 q4 => by rw [Fa a q1 q2, k2 a q1 (by omega) (by omega) (by omega) (by omega), Va a q1, gm.1 a q4 q1, v6 a q1 (by omega) (by omega) (by omega)]
      have F7 : ∀ j, 7 ≤ j → j < 20 → j ≠ 11 → j ≠ 15 → j ≠ 19 → F 127 j = S 127 j := fun j q1 q2 q3 q4 q5 => by rw [Fj j q3 q4 (by omega), k8 j q1, Vj j q5, gm.2 j (by omega), v7 j (by omega), uS 127 (by omega)]
      have F9 : F 9 = hU CE 9 := Fu 9 (by decide) (by decide) (by decide) (by decide)
      have hhF : xRh F R P := by
        refine ⟨d1, d2, fun q => ?_, ?_, ?_, ?_, ?_, ?_, ?_, ?_, fun r hr => ⟨?_, ?_⟩, fun p hp => ⟨?_, ?_⟩, fun r hr => ?_, fun r hr => ?_⟩
        · rcases d3 with q3 | q3
          · exact absurd (d4 q3) (by omega)
          · exact q3
        · rw [F9, u9 5 (by decide) (by decide)]; exact d5
        · rw [Fj 0 (by decide) (by decide) (by decide), k3, Vj 24 (by decide)]; exact d6
        · rw [F9, u9 9 (by decide) (by decide)]; exact d8
        · rw [Fj 6 (by decide) (by decide) (by decide)]; exact k7
        · rw [F9, u9 6 (by decide) (by decide), Fj 1 (by decide) (by decide) (by decide), k4, Vj 25 (by decide)]; exact d7
        · rw [F9, u9 7 (by decide) (by decide), Fj 2 (by decide) (by decide) (by decide), k5, Vj 26 (by decide), b72, b73]
        · rw [F9, u9 8 (by decide) (by decide), Fj 3 (by decide) (by decide) (by decide), k6, Vj 27 (by decide), b82, b83]
        · rw [Fu 10 (by decide) (by decide) (by decide) (by decide), (u7 r hr).1, Fa 128 (by decide) (by decide), (k9 r hr).1, Va 139 (by decide)]
          exact (dA r hr).1
        · rw [Fu 11 (by decide) (by decide) (by decide) (by decide), (u7 r hr).2, Fa 129 (by decide) (by decide), (k9 r hr).2, Va 140 (by decide)]
          exact (dW r hr).1
        · rw [Fu 12 (by decide) (by decide) (by decide) (by decide), u8 p (by omega), Fa 130 (by decide) (by decide), (k10 p (by omega)).1, Va 141 (by decide)]
          exact (dP p hp).1
        · rw [Fa 130 (by decide) (by decide), (k10 p (by omega)).1, Va 141 (by decide)]
          exact (dP p hp).2.1
        · rw [Fa 128 (by decide) (by decide), (k9 r (by omega)).1, Va 139 (by decide)]
          exact (dA r (by omega)).2
        · rw [Fa 129 (by decide) (by decide), (k9 r (by omega)).2, Va 140 (by decide)]
          exact (dW r (by omega)).2
      have F131 : F 131 = T 131 := Fa 131 (by decide) (by decide)
      refine ⟨?_, ?_⟩
      · dsimp only
        rw [u9 9 (by decide) (by decide), d8, Fj 6 (by decide) (by decide) (by decide), k7]
      · dsimp only
        refine xR_none (R := R) (P := P) (n := rn) (d := dd) ?_ ?_ ?_ hhF (by rw [F131]; exact k11) (by rw [F131]; exact k12) (fun p hp => ?_) (fun p hp => ⟨?_, ?_, ?_, ?_, ?_⟩) (fun j hj => ⟨?_, ?_⟩) ?_ ?_ ?_ rn1 ?_ F36 ?_ F15 (fun i hi => ⟨?_, F147 i hi⟩) ?_ F11 ?_ ?_ dd1
        · rw [Fu 1 (by decide) (by decide) (by decide) (by decide)]; exact u6
        · rw [Fj 19 (by decide) (by decide) (by decide), k8 19 (by decide)]; exact V19
        · rw [Fu 1 (by decide) (by decide) (by decide) (by decide), u5 4 (by decide), g4, c4, Fj 20 (by decide) (by decide) (by decide), k8 20 (by decide), Vj 20 (by decide), g20, v5]
        · obtain ⟨-, -, w, w1, -, w3⟩ := dP p hp
          rw [F131, (k10 p (by omega)).2.1, if_pos hp, Va 142 (by decide)]
          exact ⟨w, w1, w3⟩
        · rw [Fu 33 (by decide) (by decide) (by decide) (by decide), (u12 p hp).1, F131, (k10 p hp).2.1]
          by_cases c : p < P
          · obtain ⟨-, -, w, -, w2, w3⟩ := dP p c
            rw [if_pos c, Va 142 (by decide), w2, w3]
          · rw [if_neg c]
            exact dH p (by omega) hp
        · rw [Fu 34 (by decide) (by decide) (by decide) (by decide)]; exact (u12 p hp).2.1
        · rw [F131]; exact (k10 p hp).2.2.1
        · rw [Fu 35 (by decide) (by decide) (by decide) (by decide)]; exact (u12 p hp).2.2
        · rw [F131]; exact (k10 p hp).2.2.2
        · rw [Fu 36 (by decide) (by decide) (by decide) (by decide), u13 j hj, F131, k13 j hj, Va 143 (by decide)]; exact (dL j hj).1
        · rw [F131, k13 j hj, Va 143 (by decide)]; exact (dL j hj).2
        · rw [Fu 32 (by decide) (by decide) (by decide) (by decide)]; exact u10
        · rw [Fu 32 (by decide) (by decide) (by decide) (by decide)]; exact u11
        · rw [Fu 27 (by decide) (by decide) (by decide) (by decide), u17, ce 27 (by decide) (by omega)]; exact r27
        · rw [Fu 27 (by decide) (by decide) (by decide) (by decide)]; exact u16
        · rw [Fu 23 (by decide) (by decide) (by decide) (by decide)]; exact u15
        · rw [Fu (30 + i) (by omega) (by omega) (by omega) (by omega)]; exact u18 i hi
        · rw [Fu 19 (by decide) (by decide) (by decide) (by decide)]; exact u14
        · rw [Fu 26 (by decide) (by decide) (by decide) (by decide), u4 26 (by decide) (by decide) (by decide) (by decide) (by decide) (by decide) (by omega) (by omega), ce 26 (by decide) (by omega)]; exact dd2
        · rw [F7 10 (by decide) (by decide) (by decide) (by decide) (by decide)]; exact dd3
    · rw [f3] at cf
      exact absurd cf (nI_ne0 (by omega) (by omega))
  · -- a fault
    rw [if_neg cf] at eRead
    have eC : f_X10_hill S = (-10 - xu CE 1 2 0 1 3, xu CE 1 2 0) := by
      unfold f_X10_hill
      dsimp only
      rw [eRead]
      exact if_pos rfl
    have sC : s_X10_hill S := by
      unfold s_X10_hill
      dsimp only
      rw [eRead]
      exact ⟨sRead, fun _ => trivial, fun q => absurd rfl q⟩
    have u13 : xu CE 1 2 0 1 3 = CE 1 3 := by rw [xu_eq, upd_ne (by decide)]
    have u14 : xu CE 1 2 0 1 4 = CE 1 4 := by rw [xu_eq, upd_ne (by decide)]
    have u12 : xu CE 1 2 0 1 2 = nI 0 := by rw [xu_eq, upd_eq]; rfl
    have ua : ∀ a, a ≠ 1 → xu CE 1 2 0 a = CE a := fun a q => xu_ne q
    rw [eC]
    dsimp only
    rw [u13]
    clear eC
    generalize xu CE 1 2 0 = U at *
    have uS : ∀ a, 127 ≤ a → U a = S a := fun a q => by rw [ua a (by omega), ce a (by omega) (by omega)]
    obtain ⟨v1, v2, -, -, v3, v4, -, v5, -, -, v6, v7⟩ := run U uS
    have eM := mEq U
    have sM := mS U v1 v2 v3
    refine ⟨sC, ?_⟩
    rw [eM]
    clear eM mEq mS sC run
    generalize hM U = M at *
    generalize f_X11_hill_L91 300 M 0 = Q at *
    rcases v4 with ⟨-, k, R, P, g⟩ | ⟨f, x, f1, f2, -, f3, f4, f5, f6, -, gm⟩
    · exact absurd g.2.2.2.2.1 cf
    · have np : ¬ Q.1 ≤ 0 := by rw [f3]; exact nI_ge (a := 0) (by omega) (by omega)
      rw [if_neg np]
      refine ⟨sM (fun q => absurd q np), ?_, ?_⟩
      · dsimp only
        rw [f3, f4]
      · dsimp only
        generalize hF : xu Q.2 127 19 0 = F
        have Fa : ∀ a, a ≠ 127 → F a = Q.2 a := fun a q => by rw [← hF, xu_ne q]
        have Fj : ∀ j, j ≠ 19 → F 127 j = Q.2 127 j := fun j q => by rw [← hF, xu_eq, upd_ne q]
        have F19 : F 127 19 = nI 0 := by rw [← hF, xu_eq, upd_eq]; rfl
        have Fs : ∀ a, a ≠ 127 → a ≠ 1 → (a < 3 ∨ 8 < a) → (a < 139 ∨ 143 < a) → F a = S a := fun a q1 q2 q3 q4 => by rw [Fa a q1, gm.1 a q4 q1, v6 a q1 (by omega) (by omega) (by omega), ua a q2, ce a q2 q3]
        have Fs7 : ∀ j, j < 19 ∨ j = 36 → F 127 j = S 127 j := fun j q => by rw [Fj j (by omega), gm.2 j (by omega), v7 j (by omega), uS 127 (by omega)]
        have F1 : F 1 = U 1 := by rw [Fa 1 (by decide), gm.1 1 (by omega) (by decide), v6 1 (by decide) (by decide) (by decide) (by decide)]
        refine ⟨⟨0, by decide, by rw [F1]; exact u12, F19, fun i hi => absurd hi (by omega)⟩, by rw [F1, u14, f5, Fj 20 (by decide), f6], xRg_cg (S := S) (fun a q => ?_) (fun j q => ?_) h.2.2.1, xRn_cg (S := S) (fun a q1 q2 => Fs a (by omega) (by omega) (by omega) (by omega)) (Fs7 11 (by omega)) (Fs 133 (by decide) (by decide) (by omega) (by omega)) (Fs 134 (by decide) (by decide) (by omega) (by omega)) (Fs 135 (by decide) (by decide) (by omega) (by omega)) h4, xRd_cg (S := S) (by rw [Fs 26 (by decide) (by decide) (by omega) (by omega)]) (Fs7 10 (by omega)) ⟨dd, dd1, dd2, dd3⟩⟩
        · unfold xGc at q
          exact Fs a (by omega) (by omega) (by omega) (by omega)
        · unfold xGj at q
          exact Fs7 j (by omega)
