/-! COPIES: talks, what can be undone -/
theorem cpy_ok {S : xS} {k0 k1 N : Nat} (h0 : xlen k0 = N) (h1 : xlen k1 = N) (hN : N < 2147483648) : s_X10_copy S k0 k1 ∧ f_X10_copy S k0 k1 = xr S k1 (va_cpy (S k0) (S k1) 0 0 N) := by
  have e : (if (nI (xlen k1)) < (nI (xlen k0)) then (nI (xlen k1)) else (nI (xlen k0))) = nI N := by
    rw [h0, h1]
    by_cases c : nI N < nI N
    · rw [if_pos c]
    · rw [if_neg c]
  unfold s_X10_copy f_X10_copy
  dsimp only
  rw [e, nI_clamp hN, h0, h1]
  exact ⟨⟨⟨nI_pos hN, Nat.le_refl _, Nat.le_refl _⟩, trivial⟩, rfl⟩
theorem isT_w {t : Nat} (h : isT t = true) : 32 ≤ t ∧ t ≤ 122 ∧ (t - 32) % 5 = 0 := by
  simp only [isT, Bool.and_eq_true, decide_eq_true_eq] at h
  omega
theorem xl_T {t : Nat} (h : isT t = true) : xlen (t + 1) = 7 ∧ xlen (t + 2) = 7 ∧ xlen (t + 3) = 7 ∧ xlen (t + 4) = 49 := by
  obtain ⟨h1, h2, h3⟩ := isT_w h
  refine ⟨?_, ?_, ?_, ?_⟩
  · unfold xlen; rw [if_pos (by omega), if_neg (by omega)]
  · unfold xlen; rw [if_pos (by omega), if_neg (by omega)]
  · unfold xlen; rw [if_pos (by omega), if_neg (by omega)]
  · unfold xlen; rw [if_pos (by omega), if_pos (by omega)]
theorem isT_of {t : Nat} (h1 : 32 ≤ t) (h2 : t ≤ 122) (h3 : (t - 32) % 5 = 0) : isT t = true := by
  simp only [isT, Bool.and_eq_true, decide_eq_true_eq]
  omega
theorem tk_cg {S T : xS} {t : Nat} (e : ∀ i, i ≤ 4 → T (t + i) = S (t + i)) (j : Nat) : tk T t j = tk S t j := by
  have e0 := e 0 (by omega)
  rw [Nat.add_zero] at e0
  unfold tk
  rw [e0, e 1 (by omega), e 2 (by omega), e 3 (by omega), e 4 (by omega)]
theorem cf_ok {S : xS} {b k0 : Nat} (hb : isT b = true) (hk : isT k0 = true) (hne : b ≠ k0) : s_X7_copyFrom S b k0 ∧ (∀ a, a < b ∨ b + 4 < a → f_X7_copyFrom S b k0 a = S a) ∧ ∀ j, j < 72 → tk (f_X7_copyFrom S b k0) b j = tk S k0 j := by
  obtain ⟨b1, b2, b3⟩ := isT_w hb
  obtain ⟨k1, k2, k3⟩ := isT_w hk
  obtain ⟨x1, x2, x3, x4⟩ := xl_T hb
  obtain ⟨y1, y2, y3, y4⟩ := xl_T hk
  obtain ⟨s1, e1⟩ := cpy_ok (S := S) y1 x1 (by omega)
  unfold s_X7_copyFrom f_X7_copyFrom
  dsimp only
  rw [e1]
  generalize hA : xr S (b + 1) (va_cpy (S (k0 + 1)) (S (b + 1)) 0 0 7) = A
  obtain ⟨s2, e2⟩ := cpy_ok (S := A) y2 x2 (by omega)
  rw [e2]
  generalize hB : xr A (b + 2) (va_cpy (A (k0 + 2)) (A (b + 2)) 0 0 7) = B
  obtain ⟨s3, e3⟩ := cpy_ok (S := B) y3 x3 (by omega)
  rw [e3]
  generalize hC : xr B (b + 3) (va_cpy (B (k0 + 3)) (B (b + 3)) 0 0 7) = C
  obtain ⟨s4, e4⟩ := cpy_ok (S := C) y4 x4 (by omega)
  rw [e4]
  generalize hD : xr C (b + 4) (va_cpy (C (k0 + 4)) (C (b + 4)) 0 0 49) = D
  have eA : ∀ a, a ≠ b + 1 → A a = S a := fun a h => by rw [← hA, xr_ne h]
  have eB : ∀ a, a ≠ b + 2 → B a = A a := fun a h => by rw [← hB, xr_ne h]
  have eC : ∀ a, a ≠ b + 3 → C a = B a := fun a h => by rw [← hC, xr_ne h]
  have eD : ∀ a, a ≠ b + 4 → D a = C a := fun a h => by rw [← hD, xr_ne h]
  have k5 : D k0 = S k0 := by rw [eD _ (by omega), eC _ (by omega), eB _ (by omega), eA _ (by omega)]
  refine ⟨⟨s1, s2, s3, s4, trivial⟩, fun a ha => by rw [xu_ne (by omega), xu_ne (by omega), eD _ (by omega), eC _ (by omega), eB _ (by omega), eA _ (by omega)], ?_⟩
  have f5 : xu D b 4 (D k0 4) k0 5 = S k0 5 := by rw [xu_ne (by omega), k5]
  rw [f5, k5]
  generalize hT : xu (xu D b 4 (S k0 4)) b 5 (S k0 5) = T
  have eT : ∀ a, a ≠ b → T a = D a := fun a h => by rw [← hT, xu_ne h, xu_ne h]
  refine j72 (p := fun j => tk T b j = tk S k0 j) ?_ ?_ ?_ ?_ ?_ ?_
  · rw [tk_0, tk_0, ← hT, xu_eq, upd_eq]
  · rw [tk_1, tk_1, ← hT, xu_eq, upd_ne (by decide), xu_eq, upd_eq]
  · intro i hi
    rw [tk_r _ _ hi, tk_r _ _ hi, eT _ (by omega), eD _ (by omega), eC _ (by omega), eB _ (by omega), ← hA, xr_eq, pk_cpy_in (by omega) (by omega), Nat.zero_add, Nat.sub_zero]
  · intro i hi
    rw [tk_w _ _ hi, tk_w _ _ hi, eT _ (by omega), eD _ (by omega), eC _ (by omega), ← hB, xr_eq, pk_cpy_in (by omega) (by omega), Nat.zero_add, Nat.sub_zero, eA _ (by omega)]
  · intro i hi
    rw [tk_x _ _ hi, tk_x _ _ hi, eT _ (by omega), eD _ (by omega), ← hC, xr_eq, pk_cpy_in (by omega) (by omega), Nat.zero_add, Nat.sub_zero, eB _ (by omega), eA _ (by omega)]
  · intro i hi
    rw [tk_l, tk_l, eT _ (by omega), ← hD, xr_eq, pk_cpy_in (by omega) (by omega), Nat.zero_add, Nat.sub_zero, eC _ (by omega), eB _ (by omega), eA _ (by omega)]
/-- a loop that copies N places of the cell s (from p on) to the cell d (from o on) -/
theorem cpl (F : Nat → xS → Int32 → xS × Prop) (V : xS) (d s o p N : Nat) (hds : s ≠ d)
    (h0 : ∀ n a, (∀ k, k ≠ d → a k = V k) → (F (n + 1) a (nI N)).1 = a ∧ (F (n + 1) a (nI N)).2)
    (h1 : ∀ n a i, i < N → (∀ k, k ≠ d → a k = V k) → (F (n + 1) a (nI i)).1 = (F n (xu a d (o + i) (a s (p + i))) (nI (i + 1))).1 ∧ ((F n (xu a d (o + i) (a s (p + i))) (nI (i + 1))).2 → (F (n + 1) a (nI i)).2)) {n : Nat} (hn : N + 1 ≤ n) :
    (F n V 0).2 ∧ (∀ k, k ≠ d → (F n V 0).1 k = V k) ∧ (∀ i, i < N → (F n V 0).1 d (o + i) = V s (p + i)) ∧ ∀ j, j < o ∨ o + N ≤ j → (F n V 0).1 d j = V d j := by
  have key := xl_a0 (α := xS) (γ := xS × Prop) F (fun z => z.2 ∧ (∀ k, k ≠ d → z.1 k = V k) ∧ (∀ i, i < N → z.1 d (o + i) = V s (p + i)) ∧ ∀ j, j < o ∨ o + N ≤ j → z.1 d j = V d j) N
    (fun i a => (∀ k, k ≠ d → a k = V k) ∧ (∀ l, l < i → a d (o + l) = V s (p + l)) ∧ ∀ j, j < o ∨ o + i ≤ j → a d j = V d j)
    (fun n a hI => by
      obtain ⟨g1, g2⟩ := h0 n a hI.1
      rw [g1]
      exact ⟨g2, hI⟩)
    (fun n a i hi hI => by
      obtain ⟨d1, d2, d3⟩ := hI
      obtain ⟨g1, g2⟩ := h1 n a i hi d1
      refine Or.inr ⟨xu a d (o + i) (a s (p + i)), ⟨fun k hk => by rw [xu_ne hk]; exact d1 k hk, fun l hl => ?_, fun j hj => ?_⟩, fun h => ?_⟩
      · rw [xu_eq]
        by_cases c : l = i
        · rw [c, upd_eq, d1 s hds]
        · rw [upd_ne (by omega)]; exact d2 l (by omega)
      · rw [xu_eq, upd_ne (by omega)]; exact d3 j (by omega)
      · rw [g1]
        exact ⟨g2 h.1, h.2⟩)
    (n := n) V hn ⟨fun _ _ => rfl, fun l hl => absurd hl (by omega), fun _ _ => rfl⟩
  exact key
theorem i_72 : (72 : Int32) = nI 72 := rfl
theorem fu72 : 72 + 1 ≤ fu 0 72 := by rw [i_72, fu_0 (by omega)]; omega
theorem le72 : (72 : Int32) ≤ nI 72 := by decide
theorem nle72 {i : Nat} (hi : i < 72) : ¬ (72 : Int32) ≤ nI i := by rw [i_72]; exact nI_ge hi (by omega)
theorem ix72 (c i : Nat) : 72 * nI c + nI i = nI (72 * c + i) := by rw [i_72, nI_mul, nI_add]
theorem i_73 : (73 : Int32) = nI 73 := rfl
theorem ix73 (c i : Nat) : 73 * nI c + nI i = nI (73 * c + i) := by rw [i_73, nI_mul, nI_add]
theorem rem52 {V : xS} {c : Nat} (hc : V 127 36 = nI c) (h : c < 16) : s_X11_remember_L52 (fu 0 72) V 0 ∧ (∀ k, k ≠ 144 → f_X11_remember_L52 (fu 0 72) V 0 k = V k) ∧ (∀ i, i < 72 → f_X11_remember_L52 (fu 0 72) V 0 144 (72 * c + i) = V 131 i) ∧ ∀ j, j < 72 * c ∨ 72 * c + 72 ≤ j → f_X11_remember_L52 (fu 0 72) V 0 144 j = V 144 j := by
  have key := cpl (fun n a x => (f_X11_remember_L52 n a x, s_X11_remember_L52 n a x)) V 144 131 (72 * c) 0 72 (by decide)
    (fun n a ha => by simp only [f_X11_remember_L52, s_X11_remember_L52, le72, ↓reduceIte, eq_self, n10, not_true_eq_false, not_false_eq_true, true_implies, false_implies, true_and, and_true, implies_true, forall_const, Sum.elim_inl, Sum.elim_inr, and_self])
    (fun n a i hi ha => by
      have e : a 127 36 = nI c := by rw [ha 127 (by decide)]; exact hc
      have v1 : vp_in (nI i) 72 := vp_in_nI hi (by decide)
      have v2 : vp_in (nI (72 * c + i)) 1152 := vp_in_nI (by omega) (by decide)
      simp only [f_X11_remember_L52, s_X11_remember_L52, nle72 hi, e, ix72, cn (show i < 1000000 by omega), cn (show 72 * c + i < 1000000 by omega), nI_1, Nat.zero_add, v1, v2, ↓reduceIte, eq_self, n10, not_true_eq_false, not_false_eq_true, true_implies, false_implies, true_and, and_true, implies_true, forall_const, Sum.elim_inl, Sum.elim_inr, and_self]
      exact id)
    fu72
  simp only [Nat.zero_add] at key
  exact key
theorem rem12 (V : xS) : s_X11_remember_L12 (fu 72 1152) V 72 ∧ (∀ k, k ≠ 144 → f_X11_remember_L12 (fu 72 1152) V 72 k = V k) ∧ ∀ j, j < 1080 → f_X11_remember_L12 (fu 72 1152) V 72 144 j = V 144 (j + 72) := by
  have i1152 : (1152 : Int32) = nI 1152 := rfl
  have key := xl_a (α := xS) (γ := xS × Prop) (fun n a x => (f_X11_remember_L12 n a x, s_X11_remember_L12 n a x))
    (fun z => z.2 ∧ (∀ k, k ≠ 144 → z.1 k = V k) ∧ ∀ j, j < 1080 → z.1 144 j = V 144 (j + 72)) 1152
    (fun i a => 72 ≤ i ∧ (∀ k, k ≠ 144 → a k = V k) ∧ (∀ j, j + 72 < i → a 144 j = V 144 (j + 72)) ∧ ∀ j, i ≤ j + 72 → a 144 j = V 144 j)
    (fun n a hI => by
      have l : (1152 : Int32) ≤ nI 1152 := by decide
      simp only [f_X11_remember_L12, s_X11_remember_L12, l, ↓reduceIte, eq_self, n10, not_true_eq_false, not_false_eq_true, true_implies, false_implies, true_and, and_true, implies_true, forall_const, Sum.elim_inl, Sum.elim_inr, and_self]
      exact ⟨hI.2.1, fun j hj => hI.2.2.1 j (by omega)⟩)
    (fun n a i hi hI => by
      obtain ⟨d0, d1, d2, d3⟩ := hI
      have l : ¬ (1152 : Int32) ≤ nI i := by rw [i1152]; exact nI_ge hi (by omega)
      have v1 : vp_in (nI i) 1152 := vp_in_nI hi (by decide)
      have v2 : vp_in (nI (i - 72)) 1152 := vp_in_nI (by omega) (by decide)
      have e : nI i - 72 = nI (i - 72) := by rw [i_72, pk_sub d0]
      refine Or.inr ⟨xu a 144 (i - 72) (a 144 i), ⟨by omega, fun k hk => by rw [xu_ne hk]; exact d1 k hk, fun j hj => ?_, fun j hj => ?_⟩, fun h => ?_⟩
      · rw [xu_eq]
        by_cases c : j = i - 72
        · rw [c, upd_eq, d3 i (by omega), show i - 72 + 72 = i by omega]
        · rw [upd_ne c]; exact d2 j (by omega)
      · rw [xu_eq, upd_ne (by omega)]; exact d3 j (by omega)
      · dsimp only at h ⊢
        simp only [f_X11_remember_L12, s_X11_remember_L12, l, e, cn (show i < 1000000 by omega), cn (show i - 72 < 1000000 by omega), nI_1, v1, v2, ↓reduceIte, eq_self, n10, not_true_eq_false, not_false_eq_true, true_implies, false_implies, true_and, and_true, implies_true, forall_const, Sum.elim_inl, Sum.elim_inr, and_self]
        exact h)
    1080 72 V (fu 72 1152) (by omega) (by rw [i_72, i1152, fu_n (by omega) (by omega)]; omega) ⟨by omega, fun _ _ => rfl, fun j hj => absurd hj (by omega), fun _ _ => rfl⟩
  dsimp only at key
  rw [← i_72] at key
  exact key
theorem rem2_ok {V : xS} {c : Nat} (hc : V 127 36 = nI c) (h : c ≤ 16) : s_X11_remember V ∧ (∀ k, k ≠ 127 → k ≠ 144 → f_X11_remember V k = V k) ∧ (∀ j, j ≠ 36 → f_X11_remember V 127 j = V 127 j) ∧ f_X11_remember V 127 36 = nI (if c = 16 then 16 else c + 1) ∧ (c < 16 → (∀ j, j < 72 * c → f_X11_remember V 144 j = V 144 j) ∧ ∀ i, i < 72 → f_X11_remember V 144 (72 * c + i) = V 131 i) ∧ (c = 16 → (∀ j, j < 1080 → f_X11_remember V 144 j = V 144 (j + 72)) ∧ ∀ i, i < 72 → f_X11_remember V 144 (1080 + i) = V 131 i) := by
  by_cases c16 : c = 16
  · subst c16
    have hc16 : V 127 36 = 16 := hc
    obtain ⟨a1, a2, a3⟩ := rem12 V
    have e1 : f_X11_remember_L12 (fu 72 1152) V 72 127 36 = 16 := by rw [a2 127 (by decide)]; exact hc
    have em : (16 : Int32) - 1 = nI 15 := by decide
    have ef : f_X11_remember V = xu (f_X11_remember_L52 (fu 0 72) (xu (f_X11_remember_L12 (fu 72 1152) V 72) 127 36 (nI 15)) 0) 127 36 ((f_X11_remember_L52 (fu 0 72) (xu (f_X11_remember_L12 (fu 72 1152) V 72) 127 36 (nI 15)) 0) 127 36 + 1) := by
      unfold f_X11_remember
      dsimp only
      rw [if_pos hc16, e1, em]
    generalize hA : xu (f_X11_remember_L12 (fu 72 1152) V 72) 127 36 (nI 15) = A at ef
    have A36 : A 127 36 = nI 15 := by rw [← hA, xu_eq, upd_eq]
    have eA : ∀ k, k ≠ 127 → A k = f_X11_remember_L12 (fu 72 1152) V 72 k := fun k hk => by rw [← hA, xu_ne hk]
    have eA7 : ∀ j, j ≠ 36 → A 127 j = V 127 j := fun j hj => by rw [← hA, xu_eq, upd_ne hj, a2 127 (by decide)]
    obtain ⟨b1, b2, b3, b4⟩ := rem52 A36 (by omega)
    have eB : f_X11_remember_L52 (fu 0 72) A 0 127 36 = nI 15 := by rw [b2 127 (by decide)]; exact A36
    rw [eB, nI_1] at ef
    refine ⟨⟨fun _ => ⟨a1, ?_⟩, fun q => absurd hc16 q⟩, fun k h1 h2 => ?_, fun j hj => ?_, ?_, fun q => absurd q (by omega), fun _ => ⟨fun j hj => ?_, fun i hi => ?_⟩⟩
    · dsimp only
      rw [e1, em, hA]
      exact ⟨b1, trivial⟩
    · rw [ef, xu_ne h1, b2 k h2, eA k h1, a2 k h2]
    · rw [ef, xu_eq, upd_ne hj, b2 127 (by decide)]; exact eA7 j hj
    · rw [ef, xu_eq, upd_eq, if_pos rfl]
    · rw [ef, xu_ne (by decide), b4 j (by omega), eA _ (by decide)]; exact a3 j hj
    · rw [ef, xu_ne (by decide), show 1080 + i = 72 * 15 + i by omega, b3 i hi, eA _ (by decide), a2 131 (by decide)]
  · have hne : ¬ V 127 36 = 16 := fun q => c16 (nI_inj (b := 16) (by omega) (by decide) (hc.symm.trans q))
    obtain ⟨b1, b2, b3, b4⟩ := rem52 hc (by omega)
    have ef : f_X11_remember V = xu (f_X11_remember_L52 (fu 0 72) V 0) 127 36 ((f_X11_remember_L52 (fu 0 72) V 0) 127 36 + 1) := by
      unfold f_X11_remember
      dsimp only
      rw [if_neg hne]
    have eB : f_X11_remember_L52 (fu 0 72) V 0 127 36 = nI c := by rw [b2 127 (by decide)]; exact hc
    rw [eB, nI_1] at ef
    refine ⟨⟨fun q => absurd q hne, fun _ => ⟨b1, trivial⟩⟩, fun k h1 h2 => ?_, fun j hj => ?_, ?_, fun _ => ⟨fun j hj => ?_, fun i hi => ?_⟩, fun q => absurd q c16⟩
    · rw [ef, xu_ne h1, b2 k h2]
    · rw [ef, xu_eq, upd_ne hj, b2 127 (by decide)]
    · rw [ef, xu_eq, upd_eq, if_neg c16]
    · rw [ef, xu_ne (by decide), b4 j (by omega)]
    · rw [ef, xu_ne (by decide), b3 i hi]
theorem rem1_ok {S : xS} {n c : Nat} (hn : S 27 1 = nI n) (hc : S 27 2 = nI c) (h1 : n < 16) (h2 : c ≤ 16) : s_X6_remember S 32 ∧ (∀ a, a ≠ 27 → a < 37 + 5 * n ∨ 37 + 5 * n + 4 < a → f_X6_remember S 32 a = S a) ∧ f_X6_remember S 32 27 1 = nI ((n + 1) % 16) ∧ f_X6_remember S 32 27 2 = nI (if c = 16 then 16 else c + 1) ∧ ∀ j, j < 72 → tk (f_X6_remember S 32) (37 + 5 * n) j = tk S 32 j := by
  have e1 : f_X6_slotAt S (S 27 1) = some (37 + 5 * n) := by
    unfold f_X6_slotAt
    rw [hn, if_neg (nI_pos (by omega)), if_neg (nI_ge h1 (by omega)), nI_clamp (by omega)]
  have ht : isT (37 + 5 * n) = true := isT_of (by omega) (by omega) (by omega)
  obtain ⟨s1, s2, s3⟩ := cf_ok (S := S) ht (k0 := 32) (by decide) (by omega)
  have ef : f_X6_remember S 32 = xu (xu (f_X7_copyFrom S (37 + 5 * n) 32) 27 1 (nI ((n + 1) % 16))) 27 2 (nI (if c = 16 then 16 else c + 1)) := by
    unfold f_X6_remember
    rw [e1]
    dsimp only [Option.elim]
    generalize f_X7_copyFrom S (37 + 5 * n) 32 = A at s2
    have a1 : A 27 1 = nI n := by rw [s2 27 (by omega)]; exact hn
    have e16 : (16 : Int32) = nI 16 := rfl
    have a2 : nI n + 1 - (nI n + 1) / 16 * 16 = nI ((n + 1) % 16) := by rw [nI_1, e16, pk_rem (by omega) (by omega) (by omega)]
    rw [a1, a2]
    have a3 : xu A 27 1 (nI ((n + 1) % 16)) 27 2 = nI c := by rw [xu_eq, upd_ne (by decide), s2 27 (by omega)]; exact hc
    rw [a3, nI_1]
    by_cases c16 : c = 16
    · rw [if_pos c16, if_pos (by rw [e16]; exact nI_lt (by omega) (by omega))]
      rfl
    · rw [if_neg c16, if_neg (by rw [e16]; exact nI_nlt (by omega) (by omega))]
  refine ⟨⟨fun q => (by rw [e1] at q; cases q), fun t q => ?_⟩, fun a h3 h4 => ?_, ?_, ?_, fun j hj => ?_⟩
  · rw [e1] at q
    cases q
    exact ⟨s1, trivial⟩
  · rw [ef, xu_ne h3, xu_ne h3, s2 a h4]
  · rw [ef, xu_eq, upd_ne (by decide), xu_eq, upd_eq]
  · rw [ef, xu_eq, upd_eq]
  · rw [ef, tk_cg (S := f_X7_copyFrom S (37 + 5 * n) 32) (fun i hi => by rw [xu_ne (by omega), xu_ne (by omega)])]
    exact s3 j hj
/-- what can be undone, behind a deed that is remembered -/
theorem past_ok {S U1 T : xS} {R P : Nat} (hP : P ≤ 7) (hp : xRp S R P) (hk : xRk S 32 131 0) (hv : xRv S R P 131 0) (hU : ∀ a, 127 ≤ a → U1 a = S a) (e27 : T 27 = f_X6_remember S 32 27) (eT : ∀ a, 37 ≤ a → a < 117 → T a = f_X6_remember S 32 a) (eu : T 127 36 = f_X11_remember U1 127 36) (e144 : T 144 = f_X11_remember U1 144) : xRp T R P := by
  obtain ⟨n, c, h1, h2, h3, h4, h5, h6⟩ := hp
  obtain ⟨-, a2, a3, a4, a5⟩ := rem1_ok h3 h4 h1 h2
  have hc : U1 127 36 = nI c := by rw [hU 127 (by omega)]; exact h5
  obtain ⟨-, -, -, b4, b5, b6⟩ := rem2_ok hc h2
  have k0 : ∀ j, j < 72 → tk S 32 j = S 131 j := fun j hj => by have := xRk_iff.mp hk j hj; rw [Nat.zero_add] at this; exact this
  have v0 : vr R P 9100 (S 131) := vr_cg hP (xRv_iff.mp hv) (fun j _ => by rw [Nat.zero_add])
  -- the new slot
  have tnew : ∀ j, j < 72 → tk T (37 + 5 * n) j = S 131 j := fun j hj => by
    rw [tk_cg (S := f_X6_remember S 32) (fun i hi => eT _ (by omega) (by omega)), a5 j hj, k0 j hj]
  have told : ∀ s, s < 16 → s ≠ n → ∀ j, tk T (37 + 5 * s) j = tk S (37 + 5 * s) j := fun s hs hne j => by
    rw [tk_cg (S := S) (fun i hi => by rw [eT _ (by omega) (by omega), a2 _ (by omega) (by omega)])]
  refine ⟨(n + 1) % 16, if c = 16 then 16 else c + 1, Nat.mod_lt _ (by omega), by split <;> omega, by rw [e27]; exact a3, by rw [e27]; exact a4, by rw [eu]; exact b4, ?_⟩
  by_cases c16 : c = 16
  · subst c16
    rw [if_pos rfl]
    obtain ⟨b6, b7⟩ := b6 rfl
    intro j hj
    by_cases cj : j = 15
    · subst cj
      have es : ((n + 1) % 16 + 16 - 16 + 15) % 16 = n := by omega
      rw [es]
      have er : ∀ i, i < 72 → T 144 (72 * 15 + i) = S 131 i := fun i hi => by rw [e144, show 72 * 15 + i = 1080 + i by omega, b7 i hi, hU 131 (by omega)]
      exact ⟨xRk_iff.mpr (fun i hi => by rw [tnew i hi, er i hi]), xRv_iff.mpr (vr_cg hP v0 (fun i hi => er i hi))⟩
    · obtain ⟨g1, g2⟩ := h6 (j + 1) (by omega)
      have es : (n + 16 - 16 + (j + 1)) % 16 = ((n + 1) % 16 + 16 - 16 + j) % 16 := by omega
      rw [es] at g1
      generalize hs : ((n + 1) % 16 + 16 - 16 + j) % 16 = s at g1
      have er : ∀ i, i < 72 → T 144 (72 * j + i) = S 144 (72 * (j + 1) + i) := fun i hi => by
        rw [e144, b6 _ (by omega), hU 144 (by omega), show 72 * j + i + 72 = 72 * (j + 1) + i by omega]
      refine ⟨xRk_iff.mpr (fun i hi => ?_), xRv_iff.mpr (vr_cg hP (xRv_iff.mp g2) (fun i hi => er i hi))⟩
      rw [told s (by omega) (by omega), er i hi]
      exact xRk_iff.mp g1 i hi
  · rw [if_neg c16]
    obtain ⟨b5, b7⟩ := b5 (by omega)
    intro j hj
    by_cases cj : j = c
    · subst cj
      have es : ((n + 1) % 16 + 16 - (j + 1) + j) % 16 = n := by omega
      rw [es]
      have er : ∀ i, i < 72 → T 144 (72 * j + i) = S 131 i := fun i hi => by rw [e144, b7 i hi, hU 131 (by omega)]
      exact ⟨xRk_iff.mpr (fun i hi => by rw [tnew i hi, er i hi]), xRv_iff.mpr (vr_cg hP v0 (fun i hi => er i hi))⟩
    · obtain ⟨g1, g2⟩ := h6 j (by omega)
      have es : (n + 16 - c + j) % 16 = ((n + 1) % 16 + 16 - (c + 1) + j) % 16 := by omega
      rw [es] at g1
      generalize hs : ((n + 1) % 16 + 16 - (c + 1) + j) % 16 = s at g1
      have er : ∀ i, i < 72 → T 144 (72 * j + i) = S 144 (72 * j + i) := fun i hi => by
        rw [e144, b5 _ (by omega), hU 144 (by omega)]
      refine ⟨xRk_iff.mpr (fun i hi => ?_), xRv_iff.mpr (vr_cg hP (xRv_iff.mp g2) (fun i hi => er i hi))⟩
      rw [told s (by omega) (by omega), er i hi]
      exact xRk_iff.mp g1 i hi
