/-! THE HILL'S END: cleared rows, what is taken over -/
theorem clear_ok (S : xS) : s_X2_clear S 3 ∧ (∀ a, (a < 3 ∨ 8 < a) → f_X2_clear S 3 a = S a) ∧ (∀ j, j < 6 → f_X2_clear S 3 4 j = 0 ∧ f_X2_clear S 3 5 j = 0) ∧ (∀ j, j < 7 → f_X2_clear S 3 6 j = 0 ∧ f_X2_clear S 3 7 j = 0) ∧ (∀ j, j < 49 → f_X2_clear S 3 8 j = 5) ∧ (∀ j, 5 ≤ j → j ≤ 9 → f_X2_clear S 3 3 j = 0) := by
  obtain ⟨a1, a2, a3⟩ := fill_ok S (3 + 1) 0 (by decide)
  have a3' : ∀ j, j < 6 → f_J7_fill_53178 S (3 + 1) 0 4 j = 0 := a3
  unfold s_X2_clear f_X2_clear
  dsimp only
  generalize f_J7_fill_53178 S (3 + 1) 0 = A at a2 a3' ⊢
  obtain ⟨b1, b2, b3⟩ := fill_ok A (3 + 2) 0 (by decide)
  have b3' : ∀ j, j < 6 → f_J7_fill_53178 A (3 + 2) 0 5 j = 0 := b3
  generalize f_J7_fill_53178 A (3 + 2) 0 = B at b2 b3' ⊢
  obtain ⟨c1, c2, c3⟩ := fill_ok B (3 + 3) 0 (by decide)
  have c3' : ∀ j, j < 7 → f_J7_fill_53178 B (3 + 3) 0 6 j = 0 := c3
  generalize f_J7_fill_53178 B (3 + 3) 0 = C at c2 c3' ⊢
  obtain ⟨d1, d2, d3⟩ := fill_ok C (3 + 4) 0 (by decide)
  have d3' : ∀ j, j < 7 → f_J7_fill_53178 C (3 + 4) 0 7 j = 0 := d3
  generalize f_J7_fill_53178 C (3 + 4) 0 = D at d2 d3' ⊢
  obtain ⟨e1, e2, e3⟩ := fill_ok D (3 + 5) 5 (by decide)
  have e3' : ∀ j, j < 49 → f_J7_fill_53178 D (3 + 5) 5 8 j = 5 := e3
  generalize f_J7_fill_53178 D (3 + 5) 5 = E at e2 e3' ⊢
  generalize hT : xu (xu (xu (xu (xu E 3 5 0) 3 6 0) 3 7 0) 3 8 0) 3 9 0 = T
  have eT : ∀ a, a ≠ 3 → T a = E a := fun a q => by rw [← hT, xu_ne q, xu_ne q, xu_ne q, xu_ne q, xu_ne q]
  refine ⟨⟨a1, b1, c1, d1, e1, trivial⟩, fun a q => by rw [eT a (by omega), e2 a (by omega), d2 a (by omega), c2 a (by omega), b2 a (by omega), a2 a (by omega)], fun j hj => ⟨?_, ?_⟩, fun j hj => ⟨?_, ?_⟩, fun j hj => ?_, fun j h1 h2 => ?_⟩
  · rw [eT 4 (by decide), e2 4 (by decide), d2 4 (by decide), c2 4 (by decide), b2 4 (by decide)]; exact a3' j hj
  · rw [eT 5 (by decide), e2 5 (by decide), d2 5 (by decide), c2 5 (by decide)]; exact b3' j hj
  · rw [eT 6 (by decide), e2 6 (by decide), d2 6 (by decide)]; exact c3' j hj
  · rw [eT 7 (by decide), e2 7 (by decide)]; exact d3' j hj
  · rw [eT 8 (by decide)]; exact e3' j hj
  · rw [← hT]
    have : j = 5 ∨ j = 6 ∨ j = 7 ∨ j = 8 ∨ j = 9 := by omega
    simp only [xu_eq]
    rcases this with rfl | rfl | rfl | rfl | rfl
    · rw [upd_ne (by decide), upd_ne (by decide), upd_ne (by decide), upd_ne (by decide), upd_eq]
    · rw [upd_ne (by decide), upd_ne (by decide), upd_ne (by decide), upd_eq]
    · rw [upd_ne (by decide), upd_ne (by decide), upd_eq]
    · rw [upd_ne (by decide), upd_eq]
    · rw [upd_eq]
theorem m42_ok (V : xS) : s_X11_hill_L42 (fu 0 6) V 0 ∧ (∀ a, a ≠ 139 → a ≠ 140 → f_X11_hill_L42 (fu 0 6) V 0 a = V a) ∧ ∀ r, r < 6 → f_X11_hill_L42 (fu 0 6) V 0 139 r = 0 ∧ f_X11_hill_L42 (fu 0 6) V 0 140 r = 0 := by
  have key := xl_a0 (α := xS) (γ := xS × Prop) (fun m a x => (f_X11_hill_L42 m a x, s_X11_hill_L42 m a x)) (fun y => y.2 ∧ (∀ a, a ≠ 139 → a ≠ 140 → y.1 a = V a) ∧ ∀ r, r < 6 → y.1 139 r = 0 ∧ y.1 140 r = 0) 6 (fun i a => (∀ b, b ≠ 139 → b ≠ 140 → a b = V b) ∧ ∀ r, r < i → a 139 r = 0 ∧ a 140 r = 0)
    (fun m a hI => by
      have l : (6 : Int32) ≤ nI 6 := by decide
      simp only [f_X11_hill_L42, s_X11_hill_L42, l, ↓reduceIte, eq_self, n10, not_true_eq_false, not_false_eq_true, true_implies, false_implies, true_and, and_true, implies_true, forall_const, Sum.elim_inl, Sum.elim_inr, and_self]
      exact hI)
    (fun m a i hi hI => by
      have l : ¬ (6 : Int32) ≤ nI i := nI_ge (b := 6) hi (by decide)
      have vi : vp_in (nI i) 6 := vp_in_nI hi (by decide)
      refine Or.inr ⟨xu (xu a 139 i 0) 140 i 0, ⟨fun b q1 q2 => by rw [xu_ne q2, xu_ne q1]; exact hI.1 b q1 q2, fun j hj => ?_⟩, fun ⟨g1, g2⟩ => ?_⟩
      · rw [xu_ne (by decide), xu_eq, xu_eq, xu_ne (a := 140) (by decide)]
        by_cases c : j = i
        · rw [c, upd_eq, upd_eq]; exact ⟨rfl, rfl⟩
        · rw [upd_ne c, upd_ne c]; exact hI.2 j (by omega)
      · dsimp only at g1 g2 ⊢
        simp only [f_X11_hill_L42, s_X11_hill_L42, l, vi, cn (show i < 1000000 by omega), nI_1, g1, ↓reduceIte, eq_self, n10, not_true_eq_false, not_false_eq_true, true_implies, false_implies, true_and, and_true, implies_true, forall_const, Sum.elim_inl, Sum.elim_inr, and_self]
        exact g2)
    (n := fu 0 6) V (by decide) ⟨fun _ _ _ => rfl, fun j hj => absurd hj (by omega)⟩
  exact key
theorem m70_ok (V : xS) : s_X11_hill_L70 (fu 0 49) V 0 ∧ (∀ a, a ≠ 143 → f_X11_hill_L70 (fu 0 49) V 0 a = V a) ∧ ∀ r, r < 49 → f_X11_hill_L70 (fu 0 49) V 0 143 r = 5 := by
  have key := xl_a0 (α := xS) (γ := xS × Prop) (fun m a x => (f_X11_hill_L70 m a x, s_X11_hill_L70 m a x)) (fun y => y.2 ∧ (∀ a, a ≠ 143 → y.1 a = V a) ∧ ∀ r, r < 49 → y.1 143 r = 5) 49 (fun i a => (∀ b, b ≠ 143 → a b = V b) ∧ ∀ r, r < i → a 143 r = 5)
    (fun m a hI => by
      have l : (49 : Int32) ≤ nI 49 := by decide
      simp only [f_X11_hill_L70, s_X11_hill_L70, l, ↓reduceIte, eq_self, n10, not_true_eq_false, not_false_eq_true, true_implies, false_implies, true_and, and_true, implies_true, forall_const, Sum.elim_inl, Sum.elim_inr, and_self]
      exact hI)
    (fun m a i hi hI => by
      have l : ¬ (49 : Int32) ≤ nI i := nI_ge (b := 49) hi (by decide)
      have vi : vp_in (nI i) 49 := vp_in_nI hi (by decide)
      refine Or.inr ⟨xu a 143 i 5, ⟨fun b q1 => by rw [xu_ne q1]; exact hI.1 b q1, fun j hj => ?_⟩, fun ⟨g1, g2⟩ => ?_⟩
      · rw [xu_eq]
        by_cases c : j = i
        · rw [c, upd_eq]
        · rw [upd_ne c]; exact hI.2 j (by omega)
      · dsimp only at g1 g2 ⊢
        simp only [f_X11_hill_L70, s_X11_hill_L70, l, vi, cn (show i < 1000000 by omega), nI_1, g1, ↓reduceIte, eq_self, n10, not_true_eq_false, not_false_eq_true, true_implies, false_implies, true_and, and_true, implies_true, forall_const, Sum.elim_inl, Sum.elim_inr, and_self]
        exact g2)
    (n := fu 0 49) V (by decide) ⟨fun _ _ => rfl, fun j hj => absurd hj (by omega)⟩
  exact key
/-- class and reference at the text's beginning -/
def hC (S : xS) : xS := xu (xu (xu (xu (f_X2_clear S 3) 1 7 0) 1 3 0) 1 4 (-1)) 1 5 0
def hV (W : xS) : xS := xu (xu (xu (xu (xu (xu (xu (xu W 127 20 (-1)) 127 21 0) 127 24 0) 127 25 0) 127 26 0) 127 27 0) 127 30 0) 127 33 0
def hM (W : xS) : xS := f_X11_hill_L70 (fu 0 49) (f_X11_hill_L42 (fu 0 6) (hV W) 0) 0
theorem hV_j (W : xS) {j : Nat} (h : j ≠ 20 ∧ j ≠ 21 ∧ j ≠ 24 ∧ j ≠ 25 ∧ j ≠ 26 ∧ j ≠ 27 ∧ j ≠ 30 ∧ j ≠ 33) : hV W 127 j = W 127 j := by
  unfold hV
  simp only [xu_eq]
  rw [upd_ne (by omega), upd_ne (by omega), upd_ne (by omega), upd_ne (by omega), upd_ne (by omega), upd_ne (by omega), upd_ne (by omega), upd_ne (by omega)]
theorem hV_z (W : xS) {j : Nat} (h : j = 21 ∨ j = 24 ∨ j = 25 ∨ j = 26 ∨ j = 27 ∨ j = 30 ∨ j = 33) : hV W 127 j = 0 := by
  unfold hV
  simp only [xu_eq]
  rcases h with rfl | rfl | rfl | rfl | rfl | rfl | rfl
  · rw [upd_ne (by decide), upd_ne (by decide), upd_ne (by decide), upd_ne (by decide), upd_ne (by decide), upd_ne (by decide), upd_eq]
  · rw [upd_ne (by decide), upd_ne (by decide), upd_ne (by decide), upd_ne (by decide), upd_ne (by decide), upd_eq]
  · rw [upd_ne (by decide), upd_ne (by decide), upd_ne (by decide), upd_ne (by decide), upd_eq]
  · rw [upd_ne (by decide), upd_ne (by decide), upd_ne (by decide), upd_eq]
  · rw [upd_ne (by decide), upd_ne (by decide), upd_eq]
  · rw [upd_ne (by decide), upd_eq]
  · rw [upd_eq]
theorem hV_20 (W : xS) : hV W 127 20 = -1 := by
  unfold hV
  simp only [xu_eq]
  rw [upd_ne (by decide), upd_ne (by decide), upd_ne (by decide), upd_ne (by decide), upd_ne (by decide), upd_ne (by decide), upd_ne (by decide), upd_eq]
theorem hV_a (W : xS) {a : Nat} (q : a ≠ 127) : hV W a = W a := by
  unfold hV
  rw [xu_ne q, xu_ne q, xu_ne q, xu_ne q, xu_ne q, xu_ne q, xu_ne q, xu_ne q]
theorem start_ok {S W : xS} {n : Nat} (hn : n ≤ 240) (e1 : S 1 2 = nI n) (e19 : S 127 19 = nI n) (tx : ∀ i, i < n → S 2 i = S 138 i ∧ 0 ≤ (S 138 i).toInt) (hW : ∀ a, 127 ≤ a → W a = S a) : s_X11_hill_L42 (fu 0 6) (hV W) 0 ∧ s_X11_hill_L70 (fu 0 49) (f_X11_hill_L42 (fu 0 6) (hV W) 0) 0 ∧ sd (hC S) (hM W) n 0 0 0 (hC S) (hM W) ∧ hC S 1 4 = -1 ∧ hM W 127 20 = -1 ∧ (∀ a, a ≠ 1 → (a < 3 ∨ 8 < a) → hC S a = S a) ∧ (∀ j, j ≠ 3 → j ≠ 4 → j ≠ 5 → j ≠ 7 → hC S 1 j = S 1 j) ∧ (∀ a, a ≠ 127 → a ≠ 139 → a ≠ 140 → a ≠ 143 → hM W a = W a) ∧ ∀ j, j < 20 ∨ j = 36 → hM W 127 j = W 127 j := by
  obtain ⟨-, k1, k2, k3, k4, k5⟩ := clear_ok S
  obtain ⟨a1, a2, a3⟩ := m42_ok (hV W)
  obtain ⟨b1, b2, b3⟩ := m70_ok (f_X11_hill_L42 (fu 0 6) (hV W) 0)
  refine ⟨a1, b1, ?_⟩
  have eM : hM W = f_X11_hill_L70 (fu 0 49) (f_X11_hill_L42 (fu 0 6) (hV W) 0) 0 := rfl
  rw [← eM] at b2 b3
  generalize f_X11_hill_L42 (fu 0 6) (hV W) 0 = A at a2 a3 b2
  generalize hM W = M at b2 b3 ⊢
  have hCa : ∀ a, a ≠ 1 → hC S a = f_X2_clear S 3 a := fun a q => by unfold hC; rw [xu_ne q, xu_ne q, xu_ne q, xu_ne q]
  have hCj : ∀ j, j ≠ 3 → j ≠ 4 → j ≠ 5 → j ≠ 7 → hC S 1 j = S 1 j := fun j q1 q2 q3 q4 => by unfold hC; rw [xu_eq, upd_ne q3, xu_eq, upd_ne q2, xu_eq, upd_ne q1, xu_eq, upd_ne q4, k1 1 (by omega)]
  have c17 : hC S 1 7 = nI 0 := by unfold hC; rw [xu_eq, upd_ne (by decide), xu_eq, upd_ne (by decide), xu_eq, upd_ne (by decide), xu_eq, upd_eq]; rfl
  have c13 : hC S 1 3 = 0 := by unfold hC; rw [xu_eq, upd_ne (by decide), xu_eq, upd_ne (by decide), xu_eq, upd_eq]
  have c14 : hC S 1 4 = -1 := by unfold hC; rw [xu_eq, upd_ne (by decide), xu_eq, upd_eq]
  have c15 : hC S 1 5 = nI 0 := by unfold hC; rw [xu_eq, upd_eq]; rfl
  generalize hC S = C at hCa hCj c13 c14 c15 c17 ⊢
  have mj : ∀ j, M 127 j = hV W 127 j := fun j => by rw [b2 127 (by decide), a2 127 (by decide) (by decide)]
  have ma : ∀ a, a ≠ 127 → a ≠ 139 → a ≠ 140 → a ≠ 143 → M a = W a := fun a q1 q2 q3 q4 => by rw [b2 a q4, a2 a q2 q3, hV_a W q1]
  have m20 : M 127 20 = -1 := by rw [mj, hV_20]
  have mk : ∀ j, j < 20 ∨ j = 36 → M 127 j = W 127 j := fun j hj => by rw [mj, hV_j W (by omega)]
  have z0 : (0 : Int32) = nI 0 := rfl
  have hh : hR C M 0 0 := by
    refine ⟨by decide, by decide, Or.inl rfl, fun _ => rfl, ?_, ?_, ?_, ?_, ?_, ⟨0, by decide, ?_, ?_⟩, ⟨0, by decide, ?_, ?_⟩, ⟨0, by decide, ?_, ?_⟩, fun r hr => ⟨?_, 0, by decide, ?_⟩, fun r hr => ⟨?_, 0, by decide, ?_⟩, fun p hp => absurd hp (by omega), fun p _ hp => ?_, fun j hj => ⟨?_, 5, by decide, ?_⟩⟩
    · rw [hCa 3 (by decide), k5 5 (by decide) (by decide)]; rfl
    · rw [mj, hV_z W (by omega)]; rfl
    · rw [hCa 3 (by decide), k5 6 (by decide) (by decide), mj, hV_z W (by omega)]
    · rw [hCa 3 (by decide), k5 9 (by decide) (by decide)]; rfl
    · rw [mj, hV_z W (by omega)]; rfl
    · rw [hCa 3 (by decide), k5 7 (by decide) (by decide)]; rfl
    · rw [mj, hV_z W (by omega)]; rfl
    · rw [hCa 3 (by decide), k5 8 (by decide) (by decide)]; rfl
    · rw [mj, hV_z W (by omega)]; rfl
    · exact c17
    · rw [mj, hV_z W (by omega)]; rfl
    · rw [hCa 4 (by decide), (k2 r hr).1, b2 139 (by decide), (a3 r hr).1]
    · rw [b2 139 (by decide), (a3 r hr).1]; rfl
    · rw [hCa 5 (by decide), (k2 r hr).2, b2 140 (by decide), (a3 r hr).2]
    · rw [b2 140 (by decide), (a3 r hr).2]; rfl
    · rw [hCa 7 (by decide), (k3 p hp).2]
    · rw [hCa 8 (by decide), k4 j hj, b3 j hj]
    · rw [b3 j hj]; rfl
  have ht : txt C M n := by
    refine ⟨by rw [hCj 2 (by decide) (by decide) (by decide) (by decide)]; exact e1, by rw [mk 19 (by omega), hW 127 (by omega)]; exact e19, hn, fun i hi => ?_⟩
    rw [hCa 2 (by decide), k1 2 (by omega), ma 138 (by decide) (by decide) (by decide) (by decide), hW 138 (by omega)]
    exact tx i hi
  exact ⟨⟨ht, hh, ⟨c15, by rw [mj, hV_z W (by omega)]; rfl⟩, by omega, c13, rfl, rfl, frC_r _, frM_r _⟩, c14, m20, fun a q1 q2 => by rw [hCa a q1]; exact k1 a q2, hCj, ma, mk⟩
/-- the class takes the draft over -/
theorem hcf_ok (S : xS) : s_X2_copyFrom S 9 3 ∧ (∀ a, (a < 9 ∨ 14 < a) → f_X2_copyFrom S 9 3 a = S a) ∧ (∀ j, j < 6 → f_X2_copyFrom S 9 3 10 j = S 4 j ∧ f_X2_copyFrom S 9 3 11 j = S 5 j) ∧ (∀ j, j < 7 → f_X2_copyFrom S 9 3 12 j = S 6 j ∧ f_X2_copyFrom S 9 3 13 j = S 7 j) ∧ (∀ j, j < 49 → f_X2_copyFrom S 9 3 14 j = S 8 j) ∧ (∀ j, 5 ≤ j → j ≤ 9 → f_X2_copyFrom S 9 3 9 j = S 3 j) := by
  obtain ⟨s1, e1⟩ := cpy_ok (S := S) (k0 := 3 + 1) (k1 := 9 + 1) (N := 6) rfl rfl (by decide)
  unfold s_X2_copyFrom f_X2_copyFrom
  dsimp only
  rw [e1]
  generalize hA : xr S (9 + 1) (va_cpy (S (3 + 1)) (S (9 + 1)) 0 0 6) = A
  obtain ⟨s2, e2⟩ := cpy_ok (S := A) (k0 := 3 + 2) (k1 := 9 + 2) (N := 6) rfl rfl (by decide)
  rw [e2]
  generalize hB : xr A (9 + 2) (va_cpy (A (3 + 2)) (A (9 + 2)) 0 0 6) = B
  obtain ⟨s3, e3⟩ := cpy_ok (S := B) (k0 := 3 + 3) (k1 := 9 + 3) (N := 7) rfl rfl (by decide)
  rw [e3]
  generalize hC : xr B (9 + 3) (va_cpy (B (3 + 3)) (B (9 + 3)) 0 0 7) = C
  obtain ⟨s4, e4⟩ := cpy_ok (S := C) (k0 := 3 + 4) (k1 := 9 + 4) (N := 7) rfl rfl (by decide)
  rw [e4]
  generalize hD : xr C (9 + 4) (va_cpy (C (3 + 4)) (C (9 + 4)) 0 0 7) = D
  obtain ⟨s5, e5⟩ := cpy_ok (S := D) (k0 := 3 + 5) (k1 := 9 + 5) (N := 49) rfl rfl (by decide)
  rw [e5]
  generalize hE : xr D (9 + 5) (va_cpy (D (3 + 5)) (D (9 + 5)) 0 0 49) = E
  have eA : ∀ a, a ≠ 10 → A a = S a := fun a h => by rw [← hA, xr_ne h]
  have eB : ∀ a, a ≠ 11 → B a = A a := fun a h => by rw [← hB, xr_ne h]
  have eC : ∀ a, a ≠ 12 → C a = B a := fun a h => by rw [← hC, xr_ne h]
  have eD : ∀ a, a ≠ 13 → D a = C a := fun a h => by rw [← hD, xr_ne h]
  have eE : ∀ a, a ≠ 14 → E a = D a := fun a h => by rw [← hE, xr_ne h]
  have k3 : E 3 = S 3 := by rw [eE 3 (by decide), eD 3 (by decide), eC 3 (by decide), eB 3 (by decide), eA 3 (by decide)]
  have u3 : ∀ (T : xS) (j : Nat) (v : Int32), xu T 9 j v 3 = T 3 := fun T j v => xu_ne (by decide)
  simp only [u3]
  rw [k3]
  generalize hT : xu (xu (xu (xu (xu E 9 5 (S 3 5)) 9 6 (S 3 6)) 9 7 (S 3 7)) 9 8 (S 3 8)) 9 9 (S 3 9) = T
  have eT : ∀ a, a ≠ 9 → T a = E a := fun a q => by rw [← hT, xu_ne q, xu_ne q, xu_ne q, xu_ne q, xu_ne q]
  have a10 : ∀ j, j < 6 → A 10 j = S 4 j := fun j hj => by
    have e : A 10 = va_cpy (S 4) (S 10) 0 0 6 := by rw [← hA]; exact xr_eq
    rw [e, pk_cpy_in (by omega) (by omega), Nat.zero_add, Nat.sub_zero]
  have b11 : ∀ j, j < 6 → B 11 j = S 5 j := fun j hj => by
    have e : B 11 = va_cpy (A 5) (A 11) 0 0 6 := by rw [← hB]; exact xr_eq
    rw [e, pk_cpy_in (by omega) (by omega), Nat.zero_add, Nat.sub_zero, eA 5 (by decide)]
  have c12 : ∀ j, j < 7 → C 12 j = S 6 j := fun j hj => by
    have e : C 12 = va_cpy (B 6) (B 12) 0 0 7 := by rw [← hC]; exact xr_eq
    rw [e, pk_cpy_in (by omega) (by omega), Nat.zero_add, Nat.sub_zero, eB 6 (by decide), eA 6 (by decide)]
  have d13 : ∀ j, j < 7 → D 13 j = S 7 j := fun j hj => by
    have e : D 13 = va_cpy (C 7) (C 13) 0 0 7 := by rw [← hD]; exact xr_eq
    rw [e, pk_cpy_in (by omega) (by omega), Nat.zero_add, Nat.sub_zero, eC 7 (by decide), eB 7 (by decide), eA 7 (by decide)]
  have e14 : ∀ j, j < 49 → E 14 j = S 8 j := fun j hj => by
    have e : E 14 = va_cpy (D 8) (D 14) 0 0 49 := by rw [← hE]; exact xr_eq
    rw [e, pk_cpy_in (by omega) (by omega), Nat.zero_add, Nat.sub_zero, eD 8 (by decide), eC 8 (by decide), eB 8 (by decide), eA 8 (by decide)]
  refine ⟨⟨s1, s2, s3, s4, s5, trivial⟩, fun a q => by rw [eT a (by omega), eE a (by omega), eD a (by omega), eC a (by omega), eB a (by omega), eA a (by omega)], fun j hj => ⟨?_, ?_⟩, fun j hj => ⟨?_, ?_⟩, fun j hj => ?_, fun j h1 h2 => ?_⟩
  · rw [eT 10 (by decide), eE 10 (by decide), eD 10 (by decide), eC 10 (by decide), eB 10 (by decide)]; exact a10 j hj
  · rw [eT 11 (by decide), eE 11 (by decide), eD 11 (by decide), eC 11 (by decide)]; exact b11 j hj
  · rw [eT 12 (by decide), eE 12 (by decide), eD 12 (by decide)]; exact c12 j hj
  · rw [eT 13 (by decide), eE 13 (by decide)]; exact d13 j hj
  · rw [eT 14 (by decide)]; exact e14 j hj
  · rw [← hT]
    have : j = 5 ∨ j = 6 ∨ j = 7 ∨ j = 8 ∨ j = 9 := by omega
    simp only [xu_eq]
    rcases this with rfl | rfl | rfl | rfl | rfl
    · rw [upd_ne (by decide), upd_ne (by decide), upd_ne (by decide), upd_ne (by decide), upd_eq]
    · rw [upd_ne (by decide), upd_ne (by decide), upd_ne (by decide), upd_eq]
    · rw [upd_ne (by decide), upd_ne (by decide), upd_eq]
    · rw [upd_ne (by decide), upd_eq]
    · rw [upd_eq]
theorem beg_ok (S : xS) : s_X7_begin S 32 9 ∧ (∀ a, (a < 32 ∨ 36 < a) → f_X7_begin S 32 9 a = S a) ∧ f_X7_begin S 32 9 32 5 = 0 ∧ f_X7_begin S 32 9 32 4 = 0 ∧ (∀ p, p < 7 → f_X7_begin S 32 9 33 p = S 13 p ∧ f_X7_begin S 32 9 34 p = 0 ∧ f_X7_begin S 32 9 35 p = 0) ∧ ∀ j, j < 49 → f_X7_begin S 32 9 36 j = S 14 j := by
  obtain ⟨s1, e1⟩ := cpy_ok (S := S) (k0 := 9 + 4) (k1 := 32 + 1) (N := 7) rfl rfl (by decide)
  unfold s_X7_begin f_X7_begin
  dsimp only
  rw [e1]
  generalize hA : xr S (32 + 1) (va_cpy (S (9 + 4)) (S (32 + 1)) 0 0 7) = A
  obtain ⟨b1, b2, b3⟩ := fill_ok A (32 + 2) 0 (by decide)
  have b3' : ∀ j, j < 7 → f_J7_fill_53178 A (32 + 2) 0 34 j = 0 := b3
  generalize f_J7_fill_53178 A (32 + 2) 0 = B at b2 b3' ⊢
  obtain ⟨c1, c2, c3⟩ := fill_ok B (32 + 3) 0 (by decide)
  have c3' : ∀ j, j < 7 → f_J7_fill_53178 B (32 + 3) 0 35 j = 0 := c3
  generalize f_J7_fill_53178 B (32 + 3) 0 = C at c2 c3' ⊢
  obtain ⟨s4, e4⟩ := cpy_ok (S := C) (k0 := 9 + 5) (k1 := 32 + 4) (N := 49) rfl rfl (by decide)
  rw [e4]
  generalize hD : xr C (32 + 4) (va_cpy (C (9 + 5)) (C (32 + 4)) 0 0 49) = D
  have eA : ∀ a, a ≠ 33 → A a = S a := fun a h => by rw [← hA, xr_ne h]
  have eD : ∀ a, a ≠ 36 → D a = C a := fun a h => by rw [← hD, xr_ne h]
  have a33 : ∀ j, j < 7 → A 33 j = S 13 j := fun j hj => by
    have e : A 33 = va_cpy (S 13) (S 33) 0 0 7 := by rw [← hA]; exact xr_eq
    rw [e, pk_cpy_in (by omega) (by omega), Nat.zero_add, Nat.sub_zero]
  have d36 : ∀ j, j < 49 → D 36 j = S 14 j := fun j hj => by
    have e : D 36 = va_cpy (C 14) (C 36) 0 0 49 := by rw [← hD]; exact xr_eq
    rw [e, pk_cpy_in (by omega) (by omega), Nat.zero_add, Nat.sub_zero, c2 14 (by decide), b2 14 (by decide), eA 14 (by decide)]
  have eT : ∀ a, a ≠ 32 → xu (xu D 32 4 0) 32 5 0 a = D a := fun a q => by rw [xu_ne q, xu_ne q]
  refine ⟨⟨s1, b1, c1, s4, trivial⟩, fun a q => by rw [eT a (by omega), eD a (by omega), c2 a (by omega), b2 a (by omega), eA a (by omega)], by rw [xu_eq, upd_eq], by rw [xu_eq, upd_ne (by decide), xu_eq, upd_eq], fun p hp => ⟨?_, ?_, ?_⟩, fun j hj => ?_⟩
  · rw [eT 33 (by decide), eD 33 (by decide), c2 33 (by decide), b2 33 (by decide)]; exact a33 p hp
  · rw [eT 34 (by decide), eD 34 (by decide), c2 34 (by decide)]; exact b3' p hp
  · rw [eT 35 (by decide), eD 35 (by decide)]; exact c3' p hp
  · rw [eT 36 (by decide)]; exact d36 j hj
theorem h81_ok (S : xS) : s_X10_hill_L81 (fu 0 (nI 2)) S 0 ∧ (∀ a, a ≠ 30 → a ≠ 31 → f_X10_hill_L81 (fu 0 (nI 2)) S 0 a = S a) ∧ ∀ i, i < 2 → f_X10_hill_L81 (fu 0 (nI 2)) S 0 (30 + i) 2 = 0 := by
  have key := xl_a0 (α := xS) (γ := xS × Prop) (fun m a x => (f_X10_hill_L81 m a x, s_X10_hill_L81 m a x)) (fun y => y.2 ∧ (∀ a, a ≠ 30 → a ≠ 31 → y.1 a = S a) ∧ ∀ r, r < 2 → y.1 (30 + r) 2 = 0) 2 (fun i a => (∀ b, b ≠ 30 → b ≠ 31 → a b = S b) ∧ ∀ r, r < i → a (30 + r) 2 = 0)
    (fun m a hI => by
      have l : nI 2 ≤ nI 2 := by decide
      simp only [f_X10_hill_L81, s_X10_hill_L81, l, ↓reduceIte, eq_self, n10, not_true_eq_false, not_false_eq_true, true_implies, false_implies, true_and, and_true, implies_true, forall_const, Sum.elim_inl, Sum.elim_inr, and_self]
      exact hI)
    (fun m a i hi hI => by
      have l : ¬ nI 2 ≤ nI i := nI_ge hi (by decide)
      have vi : vp_in (nI i) 2 := vp_in_nI hi (by decide)
      refine Or.inr ⟨xu a (30 + i) 2 0, ⟨fun b q1 q2 => by rw [xu_ne (by omega)]; exact hI.1 b q1 q2, fun j hj => ?_⟩, fun ⟨g1, g2⟩ => ?_⟩
      · by_cases c : j = i
        · rw [c, xu_eq, upd_eq]
        · rw [xu_ne (by omega)]; exact hI.2 j (by omega)
      · dsimp only at g1 g2 ⊢
        simp only [f_X10_hill_L81, s_X10_hill_L81, l, vi, cn (show i < 1000000 by omega), nI_1, g1, ↓reduceIte, eq_self, n10, not_true_eq_false, not_false_eq_true, true_implies, false_implies, true_and, and_true, implies_true, forall_const, Sum.elim_inl, Sum.elim_inr, and_self]
        exact g2)
    (n := fu 0 (nI 2)) S (by decide) ⟨fun _ _ _ => rfl, fun j hj => absurd hj (by omega)⟩
  exact key
/-- the reference takes it over -/
theorem t42_ok (V : xS) : s_X11_takeRead_L42 (fu 0 6) V 0 ∧ (∀ a, a ≠ 128 → a ≠ 129 → f_X11_takeRead_L42 (fu 0 6) V 0 a = V a) ∧ ∀ r, r < 6 → f_X11_takeRead_L42 (fu 0 6) V 0 128 r = V 139 r ∧ f_X11_takeRead_L42 (fu 0 6) V 0 129 r = V 140 r := by
  have key := xl_a0 (α := xS) (γ := xS × Prop) (fun m a x => (f_X11_takeRead_L42 m a x, s_X11_takeRead_L42 m a x)) (fun y => y.2 ∧ (∀ a, a ≠ 128 → a ≠ 129 → y.1 a = V a) ∧ ∀ r, r < 6 → y.1 128 r = V 139 r ∧ y.1 129 r = V 140 r) 6 (fun i a => (∀ b, b ≠ 128 → b ≠ 129 → a b = V b) ∧ ∀ r, r < i → a 128 r = V 139 r ∧ a 129 r = V 140 r)
    (fun m a hI => by
      have l : (6 : Int32) ≤ nI 6 := by decide
      simp only [f_X11_takeRead_L42, s_X11_takeRead_L42, l, ↓reduceIte, eq_self, n10, not_true_eq_false, not_false_eq_true, true_implies, false_implies, true_and, and_true, implies_true, forall_const, Sum.elim_inl, Sum.elim_inr, and_self]
      exact hI)
    (fun m a i hi hI => by
      have l : ¬ (6 : Int32) ≤ nI i := nI_ge (b := 6) hi (by decide)
      have vi : vp_in (nI i) 6 := vp_in_nI hi (by decide)
      have x1 : a 139 i = V 139 i := by rw [hI.1 139 (by decide) (by decide)]
      have x2 : ∀ j v, xu a 128 j v 140 i = V 140 i := fun j v => by rw [xu_ne (by decide), hI.1 140 (by decide) (by decide)]
      refine Or.inr ⟨xu (xu a 128 i (V 139 i)) 129 i (V 140 i), ⟨fun b q1 q2 => by rw [xu_ne q2, xu_ne q1]; exact hI.1 b q1 q2, fun j hj => ?_⟩, fun ⟨g1, g2⟩ => ?_⟩
      · rw [xu_ne (by decide), xu_eq, xu_eq, xu_ne (a := 129) (by decide)]
        by_cases c : j = i
        · rw [c, upd_eq, upd_eq]; exact ⟨rfl, rfl⟩
        · rw [upd_ne c, upd_ne c]; exact hI.2 j (by omega)
      · dsimp only at g1 g2 ⊢
        simp only [f_X11_takeRead_L42, s_X11_takeRead_L42, l, vi, cn (show i < 1000000 by omega), x1, x2, nI_1, g1, ↓reduceIte, eq_self, n10, not_true_eq_false, not_false_eq_true, true_implies, false_implies, true_and, and_true, implies_true, forall_const, Sum.elim_inl, Sum.elim_inr, and_self]
        exact g2)
    (n := fu 0 6) V (by decide) ⟨fun _ _ _ => rfl, fun j hj => absurd hj (by omega)⟩
  exact key
theorem t80_ok (V : xS) : s_X11_takeRead_L80 (fu 0 72) V 0 ∧ (∀ a, a ≠ 131 → f_X11_takeRead_L80 (fu 0 72) V 0 a = V a) ∧ ∀ r, r < 72 → f_X11_takeRead_L80 (fu 0 72) V 0 131 r = 0 := by
  have key := xl_a0 (α := xS) (γ := xS × Prop) (fun m a x => (f_X11_takeRead_L80 m a x, s_X11_takeRead_L80 m a x)) (fun y => y.2 ∧ (∀ a, a ≠ 131 → y.1 a = V a) ∧ ∀ r, r < 72 → y.1 131 r = 0) 72 (fun i a => (∀ b, b ≠ 131 → a b = V b) ∧ ∀ r, r < i → a 131 r = 0)
    (fun m a hI => by
      simp only [f_X11_takeRead_L80, s_X11_takeRead_L80, le72, ↓reduceIte, eq_self, n10, not_true_eq_false, not_false_eq_true, true_implies, false_implies, true_and, and_true, implies_true, forall_const, Sum.elim_inl, Sum.elim_inr, and_self]
      exact hI)
    (fun m a i hi hI => by
      have vi : vp_in (nI i) 72 := vp_in_nI hi (by decide)
      refine Or.inr ⟨xu a 131 i 0, ⟨fun b q1 => by rw [xu_ne q1]; exact hI.1 b q1, fun j hj => ?_⟩, fun ⟨g1, g2⟩ => ?_⟩
      · rw [xu_eq]
        by_cases c : j = i
        · rw [c, upd_eq]
        · rw [upd_ne c]; exact hI.2 j (by omega)
      · dsimp only at g1 g2 ⊢
        simp only [f_X11_takeRead_L80, s_X11_takeRead_L80, nle72 hi, vi, cn (show i < 1000000 by omega), nI_1, g1, ↓reduceIte, eq_self, n10, not_true_eq_false, not_false_eq_true, true_implies, false_implies, true_and, and_true, implies_true, forall_const, Sum.elim_inl, Sum.elim_inr, and_self]
        exact g2)
    (n := fu 0 72) V fu72 ⟨fun _ _ => rfl, fun j hj => absurd hj (by omega)⟩
  dsimp only at key
  exact key
theorem t101_ok {V : xS} {P : Nat} (hP : P ≤ 7) (h6 : V 127 6 = nI P) : s_X11_takeRead_L101 (fu 0 7) V 0 ∧ (∀ a, a ≠ 130 → a ≠ 131 → f_X11_takeRead_L101 (fu 0 7) V 0 a = V a) ∧ (∀ p, p < 7 → f_X11_takeRead_L101 (fu 0 7) V 0 130 p = V 141 p ∧ f_X11_takeRead_L101 (fu 0 7) V 0 131 (2 + p) = if p < P then V 142 p else 0) ∧ ∀ j, j < 2 ∨ 9 ≤ j → f_X11_takeRead_L101 (fu 0 7) V 0 131 j = V 131 j := by
  have key := xl_a0 (α := xS) (γ := xS × Prop) (fun m a x => (f_X11_takeRead_L101 m a x, s_X11_takeRead_L101 m a x)) (fun y => y.2 ∧ (∀ a, a ≠ 130 → a ≠ 131 → y.1 a = V a) ∧ (∀ p, p < 7 → y.1 130 p = V 141 p ∧ y.1 131 (2 + p) = if p < P then V 142 p else 0) ∧ ∀ j, j < 2 ∨ 9 ≤ j → y.1 131 j = V 131 j) 7 (fun i a => (∀ b, b ≠ 130 → b ≠ 131 → a b = V b) ∧ (∀ p, p < i → a 130 p = V 141 p ∧ a 131 (2 + p) = if p < P then V 142 p else 0) ∧ ∀ j, j < 2 ∨ 9 ≤ j → a 131 j = V 131 j)
    (fun m a hI => by
      have l : (7 : Int32) ≤ nI 7 := by decide
      simp only [f_X11_takeRead_L101, s_X11_takeRead_L101, l, ↓reduceIte, eq_self, n10, not_true_eq_false, not_false_eq_true, true_implies, false_implies, true_and, and_true, implies_true, forall_const, Sum.elim_inl, Sum.elim_inr, and_self]
      exact hI)
    (fun m a i hi hI => by
      have l : ¬ (7 : Int32) ≤ nI i := nI_ge (b := 7) hi (by decide)
      have vi : vp_in (nI i) 7 := vp_in_nI hi (by decide)
      have vi2 : vp_in (nI (2 + i)) 72 := vp_in_nI (by omega) (by decide)
      have x1 : a 141 i = V 141 i := by rw [hI.1 141 (by decide) (by decide)]
      have x2 : ∀ j v, xu a 130 j v 142 i = V 142 i := fun j v => by rw [xu_ne (by decide), hI.1 142 (by decide) (by decide)]
      have x3 : ∀ j v, xu a 130 j v 127 6 = nI P := fun j v => by rw [xu_ne (by decide), hI.1 127 (by decide) (by decide)]; exact h6
      have st : ∀ y, y = (if i < P then V 142 i else 0) → (∀ b, b ≠ 130 → b ≠ 131 → xu (xu a 130 i (V 141 i)) 131 (2 + i) y b = V b) ∧ (∀ p, p < i + 1 → xu (xu a 130 i (V 141 i)) 131 (2 + i) y 130 p = V 141 p ∧ xu (xu a 130 i (V 141 i)) 131 (2 + i) y 131 (2 + p) = if p < P then V 142 p else 0) ∧ ∀ j, j < 2 ∨ 9 ≤ j → xu (xu a 130 i (V 141 i)) 131 (2 + i) y 131 j = V 131 j := fun y hy => by
        refine ⟨fun b q1 q2 => by rw [xu_ne q2, xu_ne q1]; exact hI.1 b q1 q2, fun j hj => ?_, fun j hj => by rw [xu_eq, upd_ne (by omega), xu_ne (by decide)]; exact hI.2.2 j hj⟩
        rw [xu_ne (by decide), xu_eq, xu_eq, xu_ne (a := 131) (by decide)]
        by_cases c : j = i
        · rw [c, upd_eq, upd_eq]; exact ⟨rfl, hy⟩
        · rw [upd_ne c, upd_ne (by omega)]; exact hI.2.1 j (by omega)
      by_cases cP : i < P
      · have l2 : ¬ nI P ≤ nI i := nI_ge cP (by omega)
        refine Or.inr ⟨xu (xu a 130 i (V 141 i)) 131 (2 + i) (V 142 i), st _ (by rw [if_pos cP]), fun ⟨g1, g2⟩ => ?_⟩
        dsimp only at g1 g2 ⊢
        simp only [f_X11_takeRead_L101, s_X11_takeRead_L101, l, vi, cn (show i < 1000000 by omega), x1, x2, x3, l2, ix2, vi2, cn (show 2 + i < 1000000 by omega), nI_1, g1, ↓reduceIte, eq_self, n10, not_true_eq_false, not_false_eq_true, true_implies, false_implies, true_and, and_true, implies_true, forall_const, Sum.elim_inl, Sum.elim_inr, and_self]
        exact g2
      · have l2 : nI P ≤ nI i := nI_le (by omega) (by omega)
        refine Or.inr ⟨xu (xu a 130 i (V 141 i)) 131 (2 + i) 0, st _ (by rw [if_neg cP]), fun ⟨g1, g2⟩ => ?_⟩
        dsimp only at g1 g2 ⊢
        simp only [f_X11_takeRead_L101, s_X11_takeRead_L101, l, vi, cn (show i < 1000000 by omega), x1, x2, x3, l2, ix2, vi2, cn (show 2 + i < 1000000 by omega), nI_1, g1, ↓reduceIte, eq_self, n10, not_true_eq_false, not_false_eq_true, true_implies, false_implies, true_and, and_true, implies_true, forall_const, Sum.elim_inl, Sum.elim_inr, and_self]
        exact g2)
    (n := fu 0 7) V (by decide) ⟨fun _ _ _ => rfl, fun j hj => absurd hj (by omega), fun _ _ => rfl⟩
  exact key
theorem ix23b (i : Nat) : 23 + nI i = nI (23 + i) := nI_add 23 i
theorem t153_ok (V : xS) : s_X11_takeRead_L153 (fu 0 49) V 0 ∧ (∀ a, a ≠ 131 → f_X11_takeRead_L153 (fu 0 49) V 0 a = V a) ∧ (∀ i, i < 49 → f_X11_takeRead_L153 (fu 0 49) V 0 131 (23 + i) = V 143 i) ∧ ∀ j, j < 23 ∨ 23 + 49 ≤ j → f_X11_takeRead_L153 (fu 0 49) V 0 131 j = V 131 j := by
  have key := cpl (fun n a x => (f_X11_takeRead_L153 n a x, s_X11_takeRead_L153 n a x)) V 131 143 23 0 49 (by decide)
    (fun n a ha => by
      have l : (49 : Int32) ≤ nI 49 := by decide
      simp only [f_X11_takeRead_L153, s_X11_takeRead_L153, l, ↓reduceIte, eq_self, n10, not_true_eq_false, not_false_eq_true, true_implies, false_implies, true_and, and_true, implies_true, forall_const, Sum.elim_inl, Sum.elim_inr, and_self])
    (fun n a i hi ha => by
      have l : ¬ (49 : Int32) ≤ nI i := nI_ge (b := 49) hi (by decide)
      have v1 : vp_in (nI i) 49 := vp_in_nI hi (by decide)
      have v2 : vp_in (nI (23 + i)) 72 := vp_in_nI (by omega) (by decide)
      simp only [f_X11_takeRead_L153, s_X11_takeRead_L153, l, ix23b, cn (show i < 1000000 by omega), cn (show 23 + i < 1000000 by omega), nI_1, Nat.zero_add, v1, v2, ↓reduceIte, eq_self, n10, not_true_eq_false, not_false_eq_true, true_implies, false_implies, true_and, and_true, implies_true, forall_const, Sum.elim_inl, Sum.elim_inr, and_self]
      exact id)
    (n := fu 0 49) (by decide)
  simp only [Nat.zero_add] at key
  obtain ⟨k1, k2, k3, k4⟩ := key
  exact ⟨k1, k2, k3, fun j hj => k4 j (by omega)⟩
theorem take_ok {V : xS} {P : Nat} (hP : P ≤ 7) (h30 : V 127 30 = nI P) : s_X11_takeRead V ∧ (∀ a, a ≠ 127 → a ≠ 128 → a ≠ 129 → a ≠ 130 → a ≠ 131 → f_X11_takeRead V a = V a) ∧ (f_X11_takeRead V 127 0 = V 127 24 ∧ f_X11_takeRead V 127 1 = V 127 25 ∧ f_X11_takeRead V 127 2 = V 127 26 ∧ f_X11_takeRead V 127 3 = V 127 27 ∧ f_X11_takeRead V 127 6 = nI P) ∧ (∀ j, 7 ≤ j → f_X11_takeRead V 127 j = V 127 j) ∧ (∀ r, r < 6 → f_X11_takeRead V 128 r = V 139 r ∧ f_X11_takeRead V 129 r = V 140 r) ∧ (∀ p, p < 7 → f_X11_takeRead V 130 p = V 141 p ∧ f_X11_takeRead V 131 (2 + p) = (if p < P then V 142 p else 0) ∧ f_X11_takeRead V 131 (9 + p) = 0 ∧ f_X11_takeRead V 131 (16 + p) = 0) ∧ f_X11_takeRead V 131 0 = 0 ∧ f_X11_takeRead V 131 1 = 0 ∧ ∀ j, j < 49 → f_X11_takeRead V 131 (23 + j) = V 143 j := by
  have u7 : ∀ (T : xS) (j k : Nat) (v : Int32), j ≠ k → xu T 127 k v 127 j = T 127 j := fun T j k v q => by rw [xu_eq, upd_ne q]
  unfold s_X11_takeRead f_X11_takeRead
  dsimp only
  rw [u7 _ 25 0 _ (by decide), u7 _ 26 1 _ (by decide), u7 _ 26 0 _ (by decide), u7 _ 27 2 _ (by decide), u7 _ 27 1 _ (by decide), u7 _ 27 0 _ (by decide), u7 _ 30 3 _ (by decide), u7 _ 30 2 _ (by decide), u7 _ 30 1 _ (by decide), u7 _ 30 0 _ (by decide), h30]
  generalize hA : xu (xu (xu (xu (xu V 127 0 (V 127 24)) 127 1 (V 127 25)) 127 2 (V 127 26)) 127 3 (V 127 27)) 127 6 (nI P) = A
  have eA : ∀ a, a ≠ 127 → A a = V a := fun a q => by rw [← hA, xu_ne q, xu_ne q, xu_ne q, xu_ne q, xu_ne q]
  have A0 : A 127 0 = V 127 24 := by rw [← hA, u7 _ 0 6 _ (by decide), u7 _ 0 3 _ (by decide), u7 _ 0 2 _ (by decide), u7 _ 0 1 _ (by decide), xu_eq, upd_eq]
  have A1 : A 127 1 = V 127 25 := by rw [← hA, u7 _ 1 6 _ (by decide), u7 _ 1 3 _ (by decide), u7 _ 1 2 _ (by decide), xu_eq, upd_eq]
  have A2 : A 127 2 = V 127 26 := by rw [← hA, u7 _ 2 6 _ (by decide), u7 _ 2 3 _ (by decide), xu_eq, upd_eq]
  have A3 : A 127 3 = V 127 27 := by rw [← hA, u7 _ 3 6 _ (by decide), xu_eq, upd_eq]
  have A6 : A 127 6 = nI P := by rw [← hA, xu_eq, upd_eq]
  have Aj : ∀ j, 7 ≤ j → A 127 j = V 127 j := fun j q => by rw [← hA, u7 _ j 6 _ (by omega), u7 _ j 3 _ (by omega), u7 _ j 2 _ (by omega), u7 _ j 1 _ (by omega), u7 _ j 0 _ (by omega)]
  clear hA
  obtain ⟨b1, b2, b3⟩ := t42_ok A
  generalize f_X11_takeRead_L42 (fu 0 6) A 0 = B at b2 b3 ⊢
  obtain ⟨c1, c2, c3⟩ := t80_ok B
  generalize f_X11_takeRead_L80 (fu 0 72) B 0 = C at c2 c3 ⊢
  obtain ⟨d1, d2, d3, d4⟩ := t101_ok (V := C) hP (by rw [c2 127 (by decide), b2 127 (by decide) (by decide)]; exact A6)
  generalize f_X11_takeRead_L101 (fu 0 7) C 0 = D at d2 d3 d4 ⊢
  obtain ⟨e1, e2, e3, e4⟩ := t153_ok D
  generalize f_X11_takeRead_L153 (fu 0 49) D 0 = E at e2 e3 e4 ⊢
  have E7 : E 127 = A 127 := by rw [e2 127 (by decide), d2 127 (by decide) (by decide), c2 127 (by decide), b2 127 (by decide) (by decide)]
  refine ⟨⟨b1, c1, d1, e1, trivial⟩, fun a q1 q2 q3 q4 q5 => by rw [e2 a q5, d2 a q4 q5, c2 a q5, b2 a q2 q3, eA a q1], by rw [E7]; exact ⟨A0, A1, A2, A3, A6⟩, fun j q => by rw [E7]; exact Aj j q, fun r hr => ?_, fun p hp => ⟨?_, ?_, ?_, ?_⟩, ?_, ?_, fun j hj => ?_⟩
  · rw [e2 128 (by decide), d2 128 (by decide) (by decide), c2 128 (by decide), e2 129 (by decide), d2 129 (by decide) (by decide), c2 129 (by decide), (b3 r hr).1, (b3 r hr).2, eA 139 (by decide), eA 140 (by decide)]
    exact ⟨rfl, rfl⟩
  · rw [e2 130 (by decide), (d3 p hp).1, c2 141 (by decide), b2 141 (by decide) (by decide), eA 141 (by decide)]
  · rw [e4 (2 + p) (by omega), (d3 p hp).2, c2 142 (by decide), b2 142 (by decide) (by decide), eA 142 (by decide)]
  · rw [e4 (9 + p) (by omega), d4 (9 + p) (by omega), c3 (9 + p) (by omega)]
  · rw [e4 (16 + p) (by omega), d4 (16 + p) (by omega), c3 (16 + p) (by omega)]
  · rw [e4 0 (by omega), d4 0 (by omega), c3 0 (by omega)]
  · rw [e4 1 (by omega), d4 1 (by omega), c3 1 (by omega)]
  · rw [e3 j hj, d2 143 (by decide) (by decide), c2 143 (by decide), b2 143 (by decide) (by decide), eA 143 (by decide)]
