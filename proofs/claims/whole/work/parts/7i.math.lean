/-! leavers, the end -/
theorem lv_loop {S T : xS} {R P w r : Nat} (hh : xRh S R P) (hk : xRk S 32 131 0) (hv : xRv S R P 131 0) (hr : r < R) (hw : w < 2 ^ P) (x2 x3 x4 : Int32) (eT : ∀ a, a ≠ 132 → T a = S a) : s_X11_leavers_L51 (fu 0 (f_X11_tries T 127 6)) (f_X11_tries T) (nI r) x2 x3 x4 (nI w) 0 ∧ (∀ a, a ≠ 132 → f_X11_leavers_L51 (fu 0 (f_X11_tries T 127 6)) (f_X11_tries T) (nI r) x2 x3 x4 (nI w) 0 a = S a) ∧ (∀ q, q < P → f_X11_leavers_L51 (fu 0 (f_X11_tries T 127 6)) (f_X11_tries T) (nI r) x2 x3 x4 (nI w) 0 132 (2 + q) = nI (rl S w r q)) ∧ ∀ j, j < 72 → (j < 2 ∨ 9 ≤ j) → f_X11_leavers_L51 (fu 0 (f_X11_tries T 127 6)) (f_X11_tries T) (nI r) x2 x3 x4 (nI w) 0 132 j = S 131 j := by
  obtain ⟨-, t2, t3⟩ := tries_ok T
  have hP := xhP hh
  have hR := xhR hh
  have hw2 := p31 hw (by omega)
  have key := xl_a0 (α := xS) (γ := xS × Prop) (fun n a x => (f_X11_leavers_L51 n a (nI r) x2 x3 x4 (nI w) x, s_X11_leavers_L51 n a (nI r) x2 x3 x4 (nI w) x))
    (fun z => z.2 ∧ (∀ a, a ≠ 132 → z.1 a = S a) ∧ (∀ q, q < P → z.1 132 (2 + q) = nI (rl S w r q)) ∧ ∀ j, j < 72 → (j < 2 ∨ 9 ≤ j) → z.1 132 j = S 131 j) P
    (fun i a => (∀ b, b ≠ 132 → a b = S b) ∧ (∀ q, q < i → a 132 (2 + q) = nI (rl S w r q)) ∧ ∀ j, j < 72 → (j < 2 ∨ 9 ≤ j) → a 132 j = S 131 j)
    (fun n a hI => by
      have l : a 127 6 ≤ nI P := by rw [hI.1 127 (by decide)]; exact le_7 hh
      simp only [f_X11_leavers_L51, s_X11_leavers_L51, l, ↓reduceIte, eq_self, n10, not_true_eq_false, not_false_eq_true, true_implies, false_implies, true_and, and_true, implies_true, forall_const, Sum.elim_inl, Sum.elim_inr, and_self]
      exact hI)
    (fun n a i hi hI => by
      obtain ⟨d1, d2, d3⟩ := hI
      have l : ¬ a 127 6 ≤ nI i := by rw [d1 127 (by decide)]; exact nle_7 hh hi
      have m1 := has_k a hw2 (k := i) (by omega)
      have v2 : vp_in (2 + nI i) 72 := by rw [ix2]; exact vp_in_nI (by omega) (by decide)
      obtain ⟨a1, a2⟩ := rm_of hR hv hi
      have e131 : a 131 (2 + i) = nI (rmN S 131 i) := by rw [d1 131 (by decide), a2]
      have go : ∀ b, b = rl S w r i → (∀ k, k ≠ 132 → xu a 132 (2 + i) (nI b) k = S k) ∧ (∀ q, q < i + 1 → xu a 132 (2 + i) (nI b) 132 (2 + q) = nI (rl S w r q)) ∧ ∀ j, j < 72 → (j < 2 ∨ 9 ≤ j) → xu a 132 (2 + i) (nI b) 132 j = S 131 j := fun b hb => by
        refine ⟨fun k hk => by rw [xu_ne hk, d1 k hk], fun q hq => ?_, fun j h1 h2 => by rw [xu_eq, upd_ne (by omega)]; exact d3 j h1 h2⟩
        rw [xu_eq]
        by_cases c : q = i
        · rw [c, upd_eq, hb]
        · rw [upd_ne (by omega)]; exact d2 q (by omega)
      by_cases c : w.testBit i = true
      · rw [if_pos c] at m1
        refine Or.inr ⟨_, go r (by unfold rl; rw [if_pos c]), fun ⟨h1, h2⟩ => ?_⟩
        dsimp only at h1 h2 ⊢
        simp only [f_X11_leavers_L51, s_X11_leavers_L51, l, m1, v2, c2n (show i < 1000000 by omega), nI_1, h1, ↓reduceIte, eq_self, n10, not_true_eq_false, not_false_eq_true, true_implies, false_implies, true_and, and_true, implies_true, forall_const, Sum.elim_inl, Sum.elim_inr, and_self]
        exact h2
      · rw [if_neg c] at m1
        refine Or.inr ⟨_, go (rmN S 131 i) (by unfold rl; rw [if_neg c]), fun ⟨h1, h2⟩ => ?_⟩
        dsimp only at h1 h2 ⊢
        simp only [f_X11_leavers_L51, s_X11_leavers_L51, l, m1, v2, c2n (show i < 1000000 by omega), e131, nI_1, h1, ↓reduceIte, eq_self, n10, not_true_eq_false, not_false_eq_true, true_implies, false_implies, true_and, and_true, implies_true, forall_const, Sum.elim_inl, Sum.elim_inr, and_self]
        exact h2)
    (n := fu 0 (f_X11_tries T 127 6)) (f_X11_tries T) (by rw [t2 127 (by decide), eT 127 (by decide)]; exact fu_7 hh) ⟨fun a ha => by rw [t2 a ha, eT a ha], fun q hq => absurd hq (by omega), fun j h1 _ => by rw [t3 j h1, eT 131 (by decide)]⟩
  exact key
/-- the best set: most, then fewest, then least -/
def isLv (W : Nat → Int32) (N k : Nat) : Prop := k < N ∧ ∀ t, t < N → (W t).toInt < (W k).toInt ∨ ((W t).toInt = (W k).toInt ∧ sle k t)
theorem isLv_u {W : Nat → Int32} {N k l : Nat} (h : isLv W N k) (g : isLv W N l) : k = l := by
  have h1 := h.2 l g.1
  have h2 := g.2 k h.1
  unfold sle at h1 h2
  omega
theorem isLv_1 (W : Nat → Int32) : isLv W 1 0 := ⟨by omega, fun t ht => by rw [show t = 0 by omega]; exact Or.inr ⟨rfl, Or.inr ⟨rfl, Nat.le_refl _⟩⟩⟩
theorem isLv_n {W : Nat → Int32} {i k : Nat} (h : isLv W i k) (c : (W k).toInt < (W i).toInt ∨ ((W k).toInt = (W i).toInt ∧ pc i < pc k)) : isLv W (i + 1) i := by
  refine ⟨by omega, fun t ht => ?_⟩
  rcases Nat.lt_or_ge t i with q | q
  · have := h.2 t q
    unfold sle at this ⊢
    omega
  · rw [show t = i by omega]; exact Or.inr ⟨rfl, Or.inr ⟨rfl, Nat.le_refl _⟩⟩
theorem isLv_s {W : Nat → Int32} {i k : Nat} (h : isLv W i k) (c : ¬ ((W k).toInt < (W i).toInt ∨ ((W k).toInt = (W i).toInt ∧ pc i < pc k))) : isLv W (i + 1) k := by
  have h1 := h.1
  refine ⟨by omega, fun t ht => ?_⟩
  rcases Nat.lt_or_ge t i with q | q
  · exact h.2 t q
  · rw [show t = i by omega]
    unfold sle
    omega
theorem P128 {S : xS} {R P : Nat} (h : xRh S R P) : 2 ^ P ≤ 128 ∧ 0 < 2 ^ P := ⟨Nat.pow_le_pow_right (by decide) (xhP h), Nat.pow_pos (by decide)⟩
theorem bl_ok {S : xS} {R P r : Nat} (hh : xRh S R P) (hs : ∀ w, w < 2 ^ P → s_X9_saidTogether S (nI w) (nI r)) : s_X9_bestLeavers S (nI r) ∧ ∃ k, f_X9_bestLeavers S (nI r) = nI k ∧ isLv (fun w => f_X9_saidTogether S (nI w) (nI r)) (2 ^ P) k := by
  have hP := xhP hh
  obtain ⟨h128, hpos⟩ := P128 hh
  generalize hW : (fun w => f_X9_saidTogether S (nI w) (nI r)) = W
  have eW : ∀ w, f_X9_saidTogether S (nI w) (nI r) = W w := fun w => by rw [← hW]
  have eb : f_X10_bit S (S 9 9) = nI (2 ^ P) := by rw [xhP9 hh, bit_k S (by omega)]
  have i1 : (1 : Int32) = nI 1 := rfl
  have i0 : (0 : Int32) = nI 0 := rfl
  have key := xl_a (α := Int32 × Int32) (γ := Int32 × Prop) (fun m a x => (f_X9_bestLeavers_L12 m S (nI r) a.1 a.2 x, s_X9_bestLeavers_L12 m S (nI r) a.1 a.2 x))
    (fun z => z.2 ∧ ∃ k, z.1 = nI k ∧ isLv W (2 ^ P) k) (2 ^ P) (fun i a => ∃ k, a = (nI k, W k) ∧ isLv W i k)
    (fun m a hI => by
      obtain ⟨k, rfl, k2⟩ := hI
      have l : nI (2 ^ P) ≤ nI (2 ^ P) := nI_le (Nat.le_refl _) (by omega)
      simp only [f_X9_bestLeavers_L12, s_X9_bestLeavers_L12, eb, l, ↓reduceIte, eq_self, n10, not_true_eq_false, not_false_eq_true, true_implies, false_implies, true_and, and_true, implies_true, forall_const, Sum.elim_inl, Sum.elim_inr, and_self]
      exact ⟨k, rfl, k2⟩)
    (fun m a i hi hI => by
      obtain ⟨k, rfl, k2⟩ := hI
      have hk := k2.1
      have l : ¬ nI (2 ^ P) ≤ nI i := nI_ge hi (by omega)
      have es := hs i hi
      have esm := small_eq S (a := i) (b := k) (by omega) (by omega)
      by_cases c : W k < W i
      · refine Or.inr ⟨(nI i, W i), ⟨i, rfl, isLv_n k2 (Or.inl (by rw [i_lt] at c; exact c))⟩, fun ⟨h1, h2⟩ => ?_⟩
        dsimp only at h1 h2 ⊢
        simp only [f_X9_bestLeavers_L12, s_X9_bestLeavers_L12, eb, l, es, eW, c, nI_1, h1, ↓reduceIte, eq_self, n10, not_true_eq_false, not_false_eq_true, true_implies, false_implies, true_and, and_true, implies_true, forall_const, Sum.elim_inl, Sum.elim_inr, and_self]
        exact h2
      · have c' := c
        rw [i_lt] at c'
        by_cases c2 : W i = W k
        · by_cases c3 : pc i < pc k
          · rw [if_pos (Or.inl c3)] at esm
            refine Or.inr ⟨(nI i, W i), ⟨i, rfl, isLv_n k2 (Or.inr ⟨by rw [c2], c3⟩)⟩, fun ⟨h1, h2⟩ => ?_⟩
            dsimp only at h1 h2 ⊢
            rw [c2] at h1 h2
            simp only [f_X9_bestLeavers_L12, s_X9_bestLeavers_L12, eb, l, es, eW, c2, Int32.lt_irrefl, esm, nI_1, h1, ↓reduceIte, eq_self, n10, not_true_eq_false, not_false_eq_true, true_implies, false_implies, true_and, and_true, implies_true, forall_const, Sum.elim_inl, Sum.elim_inr, and_self]
            exact h2
          · rw [if_neg (by omega)] at esm
            refine Or.inr ⟨(nI k, W k), ⟨k, rfl, isLv_s k2 (by omega)⟩, fun ⟨h1, h2⟩ => ?_⟩
            dsimp only at h1 h2 ⊢
            simp only [f_X9_bestLeavers_L12, s_X9_bestLeavers_L12, eb, l, es, eW, c2, Int32.lt_irrefl, esm, nI_1, h1, ↓reduceIte, eq_self, n10, not_true_eq_false, not_false_eq_true, true_implies, false_implies, true_and, and_true, implies_true, forall_const, Sum.elim_inl, Sum.elim_inr, and_self]
            exact h2
        · have c4 : ¬ (W k).toInt = (W i).toInt := fun e => c2 (i_eq e.symm)
          refine Or.inr ⟨(nI k, W k), ⟨k, rfl, isLv_s k2 (by omega)⟩, fun ⟨h1, h2⟩ => ?_⟩
          dsimp only at h1 h2 ⊢
          simp only [f_X9_bestLeavers_L12, s_X9_bestLeavers_L12, eb, l, es, eW, c, c2, nI_1, h1, ↓reduceIte, eq_self, n10, not_true_eq_false, not_false_eq_true, true_implies, false_implies, true_and, and_true, implies_true, forall_const, Sum.elim_inl, Sum.elim_inr, and_self]
          exact h2)
    (2 ^ P - 1) 1 (nI 0, W 0) fuel_X9_bestLeavers_12 (by omega) (by unfold fuel_X9_bestLeavers_12; omega) ⟨0, rfl, isLv_1 W⟩
  unfold s_X9_bestLeavers f_X9_bestLeavers
  dsimp only
  dsimp only at key
  rw [i0, eW 0, i1]
  exact ⟨⟨hs 0 hpos, key.1, trivial⟩, key.2⟩
theorem op_leavers {S : xS} (h : xR S) (p0 p1 : Int32) : s_X10_leavers S p0 p1 ∧ s_X11_leavers S p0 p1 ∧ f_X10_leavers S p0 p1 = (f_X11_leavers S p0 p1).1 ∧ xR ((f_X11_leavers S p0 p1).2) := by
  obtain ⟨h1, h2, ⟨R, P, hh, hk, hv, hpp, hb, hi⟩, h4, h5⟩ := id h
  have hP := xhP hh
  have hR := xhR hh
  obtain ⟨h128, hpos⟩ := P128 hh
  have i1 := room_eq hh p0
  have i2 : f_X11_in S p1.toInt64 0 1 = f_X10_within S p1 0 1 := in_within S S p1 0 1 rfl rfl
  by_cases g1 : f_X2_isRoom S 9 p0 = 0
  · have g1' : f_X11_isRoom S p0 = 0 := i1.trans g1
    have e : f_X10_leavers S p0 p1 = -1000000001 := by unfold f_X10_leavers; dsimp only; rw [if_pos g1]
    have e' : f_X11_leavers S p0 p1 = (-1000000001, S) := by unfold f_X11_leavers; dsimp only; rw [if_pos g1']
    rw [e, e']
    exact ⟨⟨fun _ => trivial, fun q => absurd g1 q⟩, ⟨fun _ => trivial, fun q => absurd g1' q⟩, rfl, h⟩
  · have g1' : ¬ f_X11_isRoom S p0 = 0 := by rw [i1]; exact g1
    by_cases g2 : f_X10_within S p1 0 1 = 0
    · have g2' : f_X11_in S p1.toInt64 0 1 = 0 := i2.trans g2
      have e : f_X10_leavers S p0 p1 = -1000000002 := by unfold f_X10_leavers; dsimp only; rw [if_neg g1, if_pos g2]
      have e' : f_X11_leavers S p0 p1 = (-1000000002, S) := by unfold f_X11_leavers; dsimp only; rw [if_neg g1', if_pos g2']
      rw [e, e']
      exact ⟨⟨fun _ => trivial, fun _ => ⟨fun _ => trivial, fun q => absurd g2 q⟩⟩, ⟨fun _ => trivial, fun _ => ⟨fun _ => trivial, fun q => absurd g2' q⟩⟩, rfl, h⟩
    · have g2' : ¬ f_X11_in S p1.toInt64 0 1 = 0 := by rw [i2]; exact g2
      obtain ⟨r, hr, rfl⟩ := isRoom_ne (by omega) (xhR9 hh) g1
      have one : ∀ (T : xS) (x2 x3 x4 : Int32) (w : Nat), w < 2 ^ P → (∀ a, a ≠ 132 → T a = S a) → s_X9_saidTogether S (nI w) (nI r) ∧ s_X11_leavers_L51 (fu 0 (f_X11_tries T 127 6)) (f_X11_tries T) (nI r) x2 x3 x4 (nI w) 0 ∧ s_X11_saidAll (f_X11_leavers_L51 (fu 0 (f_X11_tries T 127 6)) (f_X11_tries T) (nI r) x2 x3 x4 (nI w) 0) 132 ∧ f_X11_saidAll (f_X11_leavers_L51 (fu 0 (f_X11_tries T 127 6)) (f_X11_tries T) (nI r) x2 x3 x4 (nI w) 0) 132 = f_X9_saidTogether S (nI w) (nI r) ∧ (∀ a, a ≠ 132 → f_X11_leavers_L51 (fu 0 (f_X11_tries T 127 6)) (f_X11_tries T) (nI r) x2 x3 x4 (nI w) 0 a = S a) ∧ -63 ≤ (f_X9_saidTogether S (nI w) (nI r)).toInt := by
        intro T x2 x3 x4 w hw eT
        obtain ⟨l1, l2, l3, l4⟩ := lv_loop hh hk hv hr hw x2 x3 x4 eT
        obtain ⟨o1, o2, o3, o4, -⟩ := together_ok hh hk hv hr hw l2 (l4 0 (by omega) (by omega)) (l4 1 (by omega) (by omega)) l3 (fun j hj => l4 _ (by omega) (by omega))
        exact ⟨o1, l1, o2, o3.symm, l2, o4⟩
      have hsW : ∀ w, w < 2 ^ P → s_X9_saidTogether S (nI w) (nI r) := fun w hw => (one S 0 0 0 w hw (fun _ _ => rfl)).1
      obtain ⟨w1, k, w2, w3⟩ := bl_ok (r := r) hh hsW
      generalize hW : (fun w => f_X9_saidTogether S (nI w) (nI r)) = W at w3
      have eW : ∀ w, f_X9_saidTogether S (nI w) (nI r) = W w := fun w => by rw [← hW]
      have e31 : ∀ T : xS, T 127 = S 127 → (1 : Int32) <<< ((T 127 6) &&& 31) = nI (2 ^ P) := fun T e => by rw [e, xhP7 hh, shl_k (by omega)]
      have key := xl_a0 (α := Int32 × Int32 × xS) (γ := (Int32 × Int32 × xS) × Prop)
        (fun m a x => (f_X11_leavers_L33 m a.2.2 (nI r) p1 a.1 a.2.1 x, s_X11_leavers_L33 m a.2.2 (nI r) p1 a.1 a.2.1 x))
        (fun z => z.2 ∧ (∀ a, a ≠ 132 → z.1.2.2 a = S a) ∧ ∃ k, z.1.1 = nI k ∧ z.1.2.1 = W k ∧ isLv W (2 ^ P) k) (2 ^ P)
        (fun i a => (∀ b, b ≠ 132 → a.2.2 b = S b) ∧ ((i = 0 ∧ a.1 = 0 ∧ a.2.1 = -1000000) ∨ ∃ k, a.1 = nI k ∧ a.2.1 = W k ∧ isLv W i k))
        (fun m a hI => by
          obtain ⟨b, c, T⟩ := a
          obtain ⟨eT, hI⟩ := hI
          dsimp only at eT hI
          have l : nI (2 ^ P) ≤ nI (2 ^ P) := nI_le (Nat.le_refl _) (by omega)
          simp only [f_X11_leavers_L33, s_X11_leavers_L33, e31 T (eT 127 (by decide)), l, ↓reduceIte, eq_self, n10, not_true_eq_false, not_false_eq_true, true_implies, false_implies, true_and, and_true, implies_true, forall_const, Sum.elim_inl, Sum.elim_inr, and_self]
          refine ⟨eT, ?_⟩
          rcases hI with ⟨q, -⟩ | hI
          · exact absurd q (by omega)
          · exact hI)
        (fun m a i hi hI => by
          obtain ⟨b, c, T⟩ := a
          obtain ⟨eT, hI⟩ := hI
          dsimp only at eT hI
          have l : ¬ nI (2 ^ P) ≤ nI i := nI_ge hi (by omega)
          have e31' := e31 T (eT 127 (by decide))
          obtain ⟨t1, -, -⟩ := tries_ok T
          obtain ⟨o1, o2, o3, o4, o5, o6⟩ := one T p1 b c i hi eT
          rw [eW] at o4 o6
          generalize hK : f_X11_leavers_L51 (fu 0 (f_X11_tries T 127 6)) (f_X11_tries T) (nI r) p1 b c (nI i) 0 = K at o3 o4 o5
          rcases hI with ⟨rfl, rfl, rfl⟩ | ⟨k, rfl, rfl, k3⟩
          · have c1 : (-1000000 : Int32) < W 0 := by rw [i_lt, show (-1000000 : Int32).toInt = -1000000 from by decide]; omega
            refine Or.inr ⟨(nI 0, W 0, K), ⟨o5, Or.inr ⟨0, rfl, rfl, isLv_1 W⟩⟩, fun ⟨h1, h2, h3⟩ => ?_⟩
            dsimp only at h1 h2 h3 ⊢
            simp only [f_X11_leavers_L33, s_X11_leavers_L33, e31', l, t1, o2, hK, o3, o4, c1, nI_1, h1, ↓reduceIte, eq_self, n10, not_true_eq_false, not_false_eq_true, true_implies, false_implies, true_and, and_true, implies_true, forall_const, Sum.elim_inl, Sum.elim_inr, and_self]
            exact ⟨h2, h3⟩
          · have hk' := k3.1
            have n1 := ones_eq K (w := i) (by omega)
            have n2 := ones_eq K (w := k) (by omega)
            have s1 := s_ones K (nI i)
            have s2 := s_ones K (nI k)
            have l1 := pc_le (w := i) (by omega)
            have l2 := pc_le (w := k) (by omega)
            by_cases c1 : W k < W i
            · refine Or.inr ⟨(nI i, W i, K), ⟨o5, Or.inr ⟨i, rfl, rfl, isLv_n k3 (Or.inl (by rw [i_lt] at c1; exact c1))⟩⟩, fun ⟨h1, h2, h3⟩ => ?_⟩
              dsimp only at h1 h2 h3 ⊢
              simp only [f_X11_leavers_L33, s_X11_leavers_L33, e31', l, t1, o2, hK, o3, o4, c1, nI_1, h1, ↓reduceIte, eq_self, n10, not_true_eq_false, not_false_eq_true, true_implies, false_implies, true_and, and_true, implies_true, forall_const, Sum.elim_inl, Sum.elim_inr, and_self]
              exact ⟨h2, h3⟩
            · have c1' := c1
              rw [i_lt] at c1'
              by_cases c2 : W i = W k
              · by_cases c3 : pc i < pc k
                · have c4 : ¬ nI (pc k) ≤ nI (pc i) := nI_ge c3 (by omega)
                  refine Or.inr ⟨(nI i, W i, K), ⟨o5, Or.inr ⟨i, rfl, rfl, isLv_n k3 (Or.inr ⟨by rw [c2], c3⟩)⟩⟩, fun ⟨h1, h2, h3⟩ => ?_⟩
                  dsimp only at h1 h2 h3 ⊢
                  rw [c2] at h1 h2 h3
                  simp only [f_X11_leavers_L33, s_X11_leavers_L33, e31', l, t1, o2, hK, o3, o4, c2, Int32.lt_irrefl, n1, n2, s1, s2, c4, nI_1, h1, ↓reduceIte, eq_self, n10, not_true_eq_false, not_false_eq_true, true_implies, false_implies, true_and, and_true, implies_true, forall_const, Sum.elim_inl, Sum.elim_inr, and_self]
                  exact ⟨h2, h3⟩
                · have c4 : nI (pc k) ≤ nI (pc i) := nI_le (by omega) (by omega)
                  refine Or.inr ⟨(nI k, W k, K), ⟨o5, Or.inr ⟨k, rfl, rfl, isLv_s k3 (by omega)⟩⟩, fun ⟨h1, h2, h3⟩ => ?_⟩
                  dsimp only at h1 h2 h3 ⊢
                  simp only [f_X11_leavers_L33, s_X11_leavers_L33, e31', l, t1, o2, hK, o3, o4, c2, Int32.lt_irrefl, n1, n2, s1, s2, c4, nI_1, h1, ↓reduceIte, eq_self, n10, not_true_eq_false, not_false_eq_true, true_implies, false_implies, true_and, and_true, implies_true, forall_const, Sum.elim_inl, Sum.elim_inr, and_self]
                  exact ⟨h2, h3⟩
              · have c4 : ¬ (W k).toInt = (W i).toInt := fun e => c2 (i_eq e.symm)
                refine Or.inr ⟨(nI k, W k, K), ⟨o5, Or.inr ⟨k, rfl, rfl, isLv_s k3 (by omega)⟩⟩, fun ⟨h1, h2, h3⟩ => ?_⟩
                dsimp only at h1 h2 h3 ⊢
                simp only [f_X11_leavers_L33, s_X11_leavers_L33, e31', l, t1, o2, hK, o3, o4, c1, c2, nI_1, h1, ↓reduceIte, eq_self, n10, not_true_eq_false, not_false_eq_true, true_implies, false_implies, true_and, and_true, implies_true, forall_const, Sum.elim_inl, Sum.elim_inr, and_self]
                exact ⟨h2, h3⟩)
        (n := fu 0 (nI (2 ^ P))) (0, -1000000, S) (by rw [fu_0 (by omega)]; omega) ⟨fun _ _ => rfl, Or.inl ⟨rfl, rfl, rfl⟩⟩
      obtain ⟨k1, k2, k', k3, k4, k5⟩ := key
      dsimp only at k1 k2 k3 k4
      have ek := isLv_u w3 k5
      subst ek
      have eS := e31 S rfl
      refine ⟨⟨fun _ => trivial, fun _ => ⟨fun _ => trivial, fun _ => ⟨w1, fun _ => trivial, fun _ => ⟨?_, trivial⟩⟩⟩⟩, ⟨fun _ => trivial, fun _ => ⟨fun _ => trivial, fun _ => ⟨?_, trivial⟩⟩⟩, ?_⟩
      · rw [w2]; exact hsW k w3.1
      · rw [eS]; exact k1
      · unfold f_X10_leavers f_X11_leavers
        dsimp only
        rw [if_neg g1, if_neg g2, if_neg g1', if_neg g2', w2, eW, eS]
        by_cases c : p1 = 0
        · rw [if_pos c, if_pos c]
          exact ⟨k3.symm, xR_tried h (fun a ha _ _ _ => k2 a ha)⟩
        · rw [if_neg c, if_neg c]
          exact ⟨by rw [k4], xR_tried h (fun a ha _ _ _ => k2 a ha)⟩
