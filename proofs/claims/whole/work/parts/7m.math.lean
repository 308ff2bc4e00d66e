/-! THE TEXT'S READING: blanks, numbers -/
def mvC (C C' : xS) (k : Nat) : Prop := (∀ a, a ≠ 1 → C' a = C a) ∧ (∀ j, j ≠ 5 → C' 1 j = C 1 j) ∧ C' 1 5 = nI k
def mvM (M M' : xS) (k : Nat) : Prop := (∀ a, a ≠ 127 → M' a = M a) ∧ (∀ j, j ≠ 21 → M' 127 j = M 127 j) ∧ M' 127 21 = nI k
theorem mvC_u {C a : xS} {i k : Nat} (h : mvC C a i) : mvC C (xu a 1 5 (nI k)) k := ⟨fun b hb => by rw [xu_ne hb]; exact h.1 b hb, fun j hj => by rw [xu_eq, upd_ne hj]; exact h.2.1 j hj, by rw [xu_eq, upd_eq]⟩
theorem mvM_u {C a : xS} {i k : Nat} (h : mvM C a i) : mvM C (xu a 127 21 (nI k)) k := ⟨fun b hb => by rw [xu_ne hb]; exact h.1 b hb, fun j hj => by rw [xu_eq, upd_ne hj]; exact h.2.1 j hj, by rw [xu_eq, upd_eq]⟩
theorem letter_ok {C : xS} {n k : Nat} (t1 : C 1 2 = nI n) (hn : n ≤ 240) (p1 : C 1 5 = nI k) (hk : k ≤ 1000) : f_X8_letter C = if k < n then C 2 k else -1 := by
  unfold f_X8_letter
  rw [p1, t1, if_neg (nI_pos (by omega))]
  by_cases c : k < n
  · rw [if_neg (nI_ge c (by omega)), if_neg (nI_ge (by omega) (by omega)), if_pos c, nI_clamp (by omega)]
  · rw [if_pos (nI_le (by omega) (by omega)), if_neg c]
theorem i_32 : (32 : Int32) = nI 32 := rfl
theorem skip_ok {C M : xS} {n k : Nat} (t1 : C 1 2 = nI n) (t2 : M 127 19 = nI n) (hn : n ≤ 240) (tx : ∀ i, i < n → C 2 i = M 138 i) (p1 : C 1 5 = nI k) (p2 : M 127 21 = nI k) (hk : k ≤ n) :
    s_X8_skipBlanks C ∧ s_X11_here M ∧ ∃ k', k ≤ k' ∧ k' ≤ n ∧ mvC C (f_X8_skipBlanks C) k' ∧ mvM M (f_X11_here M).2 k' ∧ (f_X11_here M).1 = (if k' < n then M 138 k' else -1) ∧ (k' < n → ¬ M 138 k' = 32) := by
  have key := xl_b (α := xS) (β := xS) (γ := xS × Prop) (δ := xS × Prop)
    (fun m a _ => (f_X8_skipBlanks_L0 m a, s_X8_skipBlanks_L0 m a))
    (fun m b _ => (f_X11_here_L0 m b, s_X11_here_L0 m b))
    (fun z w => z.2 ∧ w.2 ∧ ∃ k', k ≤ k' ∧ k' ≤ n ∧ mvC C z.1 k' ∧ mvM M w.1 k' ∧ (k' < n → ¬ M 138 k' = 32)) n (fun i a b => k ≤ i ∧ mvC C a i ∧ mvM M b i)
    (fun m m2 a b hI => by
      obtain ⟨h0, h1, h2⟩ := hI
      have e1 : a 1 2 ≤ a 1 5 := by rw [h1.2.1 2 (by decide), t1, h1.2.2]; exact nI_le (Nat.le_refl _) (by omega)
      have e2 : b 127 19 ≤ b 127 21 := by rw [h2.2.1 19 (by decide), t2, h2.2.2]; exact nI_le (Nat.le_refl _) (by omega)
      simp only [f_X8_skipBlanks_L0, s_X8_skipBlanks_L0, f_X11_here_L0, s_X11_here_L0, e1, e2, ↓reduceIte, eq_self, n10, not_true_eq_false, not_false_eq_true, true_implies, false_implies, true_and, and_true, implies_true, forall_const, Sum.elim_inl, Sum.elim_inr, and_self]
      exact ⟨n, h0, Nat.le_refl _, h1, h2, fun q => absurd q (by omega)⟩)
    (fun m m2 a b i hi hI => by
      obtain ⟨h0, h1, h2⟩ := hI
      have e1 : ¬ a 1 2 ≤ a 1 5 := by rw [h1.2.1 2 (by decide), t1, h1.2.2]; exact nI_ge hi (by omega)
      have e2 : ¬ b 127 19 ≤ b 127 21 := by rw [h2.2.1 19 (by decide), t2, h2.2.2]; exact nI_ge hi (by omega)
      have e3 : f_X8_letter a = M 138 i := by rw [letter_ok (n := n) (by rw [h1.2.1 2 (by decide)]; exact t1) hn h1.2.2 (by omega), if_pos hi, h1.1 2 (by decide)]; exact tx i hi
      have e4 : b 138 (b 127 21).toNatClampNeg = M 138 i := by rw [h2.2.2, nI_clamp (by omega), h2.1 138 (by decide)]
      have v1 : vp_in (b 127 21) 240 := by rw [h2.2.2]; exact vp_in_nI (by omega) (by decide)
      have a5 : a 1 5 + 1 = nI (i + 1) := by rw [h1.2.2, nI_1]
      have b5 : b 127 21 + 1 = nI (i + 1) := by rw [h2.2.2, nI_1]
      by_cases c : M 138 i = 32
      · refine Or.inr ⟨xu a 1 5 (nI (i + 1)), xu b 127 21 (nI (i + 1)), ⟨by omega, mvC_u h1, mvM_u h2⟩, fun ⟨g1, g2, g3⟩ => ?_⟩
        dsimp only at g1 g2 g3 ⊢
        simp only [f_X8_skipBlanks_L0, s_X8_skipBlanks_L0, f_X11_here_L0, s_X11_here_L0, e1, e2, e3, e4, c, v1, a5, b5, ↓reduceIte, eq_self, n10, not_true_eq_false, not_false_eq_true, true_implies, false_implies, true_and, and_true, implies_true, forall_const, Sum.elim_inl, Sum.elim_inr, and_self]
        exact ⟨g1, g2, g3⟩
      · left
        simp only [f_X8_skipBlanks_L0, s_X8_skipBlanks_L0, f_X11_here_L0, s_X11_here_L0, e1, e2, e3, e4, c, v1, ↓reduceIte, eq_self, n10, not_true_eq_false, not_false_eq_true, true_implies, false_implies, true_and, and_true, implies_true, forall_const, Sum.elim_inl, Sum.elim_inr, and_self]
        exact ⟨i, h0, by omega, h1, h2, fun _ => c⟩)
    (n - k) k C M (fu (C 1 5) (C 1 2)) (fu (M 127 21) (M 127 19)) (by omega) (by rw [p1, t1, fu_n hk (by omega)]; omega) (by rw [p2, t2, fu_n hk (by omega)]; omega) ⟨Nat.le_refl _, ⟨fun _ _ => rfl, fun _ _ => rfl, p1⟩, ⟨fun _ _ => rfl, fun _ _ => rfl, p2⟩⟩
  obtain ⟨k1, k2, k', h1, h2, h3, h4, h5⟩ := key
  dsimp only at k1 k2 h3 h4
  have hl : (f_X11_here_L0 (fu (M 127 21) (M 127 19)) M) 127 19 = nI n := by rw [h4.2.1 19 (by decide)]; exact t2
  have eh : f_X11_here M = (if k' < n then M 138 k' else -1, f_X11_here_L0 (fu (M 127 21) (M 127 19)) M) := by
    unfold f_X11_here
    dsimp only
    rw [hl, h4.2.2]
    by_cases c : k' < n
    · rw [if_neg (nI_ge c (by omega)), if_pos c, nI_clamp (by omega), h4.1 138 (by decide)]
    · rw [if_pos (nI_le (by omega) (by omega)), if_neg c]
  refine ⟨⟨k1, trivial⟩, ⟨k2, ?_⟩, k', h1, h2, h3, by rw [eh]; exact h4, by rw [eh], h5⟩
  dsimp only
  refine ⟨fun _ => trivial, fun q => ⟨?_, trivial⟩⟩
  rw [hl, h4.2.2] at q
  rw [h4.2.2]
  have : k' < n := by
    rcases Nat.lt_or_ge k' n with c | c
    · exact c
    · exact absurd (nI_le c (by omega)) q
  exact vp_in_nI (by omega) (by decide)
theorem skipC {C : xS} {n k : Nat} (t1 : C 1 2 = nI n) (hn : n ≤ 240) (p1 : C 1 5 = nI k) (hk : k ≤ 1000) : s_X8_skipBlanks C ∧ ∃ k', k' ≤ 1000 ∧ mvC C (f_X8_skipBlanks C) k' := by
  by_cases c : k ≤ n
  · obtain ⟨h1, -, k', -, h3, h4, -⟩ := skip_ok (C := C) (M := fun a => if a = 127 then (fun j => if j = 19 then nI n else nI k) else C 2) (n := n) (k := k) t1 rfl hn (fun _ _ => rfl) p1 rfl c
    exact ⟨h1, k', by omega, h4⟩
  · have ef : fu (C 1 5) (C 1 2) = 1 + 1 := by
      rw [p1, t1]
      unfold fu
      rw [nI_toInt (by omega), nI_toInt (by omega)]
      omega
    have e1 : C 1 2 ≤ C 1 5 := by rw [p1, t1]; exact nI_le (by omega) (by omega)
    have e2 : f_X8_skipBlanks C = C := by
      unfold f_X8_skipBlanks
      rw [ef]
      simp only [f_X8_skipBlanks_L0, e1, ↓reduceIte, eq_self, n10, not_true_eq_false, not_false_eq_true, true_implies, false_implies, true_and, and_true, implies_true, forall_const, Sum.elim_inl, Sum.elim_inr, and_self]
    refine ⟨⟨?_, trivial⟩, k, hk, by rw [e2]; exact ⟨fun _ _ => rfl, fun _ _ => rfl, p1⟩⟩
    rw [ef]
    simp only [s_X8_skipBlanks_L0, e1, ↓reduceIte, eq_self, n10, not_true_eq_false, not_false_eq_true, true_implies, false_implies, true_and, and_true, implies_true, forall_const, Sum.elim_inl, Sum.elim_inr, and_self]
/-- a figure -/
def dg (c : Int32) : Prop := 48 ≤ c.toInt ∧ c.toInt ≤ 57
theorem dg_w (S : xS) (c : Int32) : (dg c ∧ f_X10_within S c 48 57 = 1) ∨ (¬ dg c ∧ f_X10_within S c 48 57 = 0) := by
  have z1 : (48 : Int32).toInt = 48 := rfl
  have z2 : (57 : Int32).toInt = 57 := rfl
  rw [within_eq, z1, z2]
  unfold dg
  by_cases h : 48 ≤ c.toInt ∧ c.toInt ≤ 57
  · exact Or.inl ⟨h, if_pos h⟩
  · exact Or.inr ⟨h, if_neg h⟩
theorem dg_in (S : xS) (c : Int32) : f_X11_in S c.toInt64 48 57 = f_X10_within S c 48 57 := in_within S S c 48 57 rfl rfl
theorem dg_of {c : Int32} (h : dg c) : ∃ d, 48 ≤ d ∧ d ≤ 57 ∧ c = nI d := by
  obtain ⟨h1, h2⟩ := h
  obtain ⟨d, hd, rfl⟩ := nI_of (x := c) (by rw [i_lt, i_0]; omega)
  rw [nI_toInt hd] at h1 h2
  exact ⟨d, by omega, by omega, rfl⟩
theorem val_c (v d : Nat) (hd : 48 ≤ d) : (nI v * 10 + nI d) - 48 = nI (10 * v + d - 48) := by
  have e10 : (10 : Int32) = nI 10 := rfl
  have e48 : (48 : Int32) = nI 48 := rfl
  rw [e10, e48, nI_mul, nI_add, pk_sub (by omega), Nat.mul_comm]
theorem val_m (v d : Nat) (hd : 48 ≤ d) : (10 * nI v + nI d) - 48 = nI (10 * v + d - 48) := by
  have e10 : (10 : Int32) = nI 10 := rfl
  have e48 : (48 : Int32) = nI 48 := rfl
  rw [e10, e48, nI_mul, nI_add, pk_sub (by omega)]
/-- the reference within a number -/
def nmM (M b : xS) (m i : Nat) : Prop := (∀ a, a ≠ 127 → b a = M a) ∧ (∀ j, j ≠ 21 → j ≠ 22 → j ≠ 23 → b 127 j = M 127 j) ∧ b 127 21 = nI i ∧ b 127 23 = nI m
theorem nmM_u {M b : xS} {m i k : Nat} {y : Int32} (h : nmM M b m i) : nmM M (xu (xu b 127 22 y) 127 21 (nI k)) m k := by
  obtain ⟨h1, h2, h3, h4⟩ := h
  refine ⟨fun a ha => by rw [xu_ne ha, xu_ne ha]; exact h1 a ha, fun j a1 a2 a3 => by rw [xu_eq, upd_ne a1, xu_eq, upd_ne a2]; exact h2 j a1 a2 a3, by rw [xu_eq, upd_eq], by rw [xu_eq, upd_ne (by decide), xu_eq, upd_ne (by decide)]; exact h4⟩
theorem i_3 : (3 : Int32) = nI 3 := rfl
theorem num_loop {C M : xS} {n m : Nat} (t1 : C 1 2 = nI n) (t2 : M 127 19 = nI n) (hn : n ≤ 240) (tx : ∀ i, i < n → C 2 i = M 138 i) (p1 : C 1 5 = nI m) (p2 : nmM M M m m) (hm : m ≤ n) (y0 : M 127 22 = nI 0) (p q : Int32) :
    s_X8_readNumber_L26 (fu (C 1 5) (C 1 2)) C p q 0 0 ∧ s_X11_takeNumber_L42 (fu (M 127 21) (M 127 19)) M p q ∧ ∃ e, m ≤ e ∧ e ≤ n ∧ (f_X8_readNumber_L26 (fu (C 1 5) (C 1 2)) C p q 0 0).1 = nI (e - m) ∧ mvC C (f_X8_readNumber_L26 (fu (C 1 5) (C 1 2)) C p q 0 0).2.2 e ∧ nmM M (f_X11_takeNumber_L42 (fu (M 127 21) (M 127 19)) M p q) m e ∧ (e - m ≤ 3 → ∃ v, v < 1000 ∧ (f_X8_readNumber_L26 (fu (C 1 5) (C 1 2)) C p q 0 0).2.1 = nI v ∧ (f_X11_takeNumber_L42 (fu (M 127 21) (M 127 19)) M p q) 127 22 = nI v) ∧ (e < n → ¬ dg (M 138 e)) := by
  have key := xl_b (α := Int32 × Int32 × xS) (β := xS) (γ := (Int32 × Int32 × xS) × Prop) (δ := xS × Prop)
    (fun l a _ => (f_X8_readNumber_L26 l a.2.2 p q a.1 a.2.1, s_X8_readNumber_L26 l a.2.2 p q a.1 a.2.1))
    (fun l b _ => (f_X11_takeNumber_L42 l b p q, s_X11_takeNumber_L42 l b p q))
    (fun z w => z.2 ∧ w.2 ∧ ∃ e, m ≤ e ∧ e ≤ n ∧ z.1.1 = nI (e - m) ∧ mvC C z.1.2.2 e ∧ nmM M w.1 m e ∧ (e - m ≤ 3 → ∃ v, v < 1000 ∧ z.1.2.1 = nI v ∧ w.1 127 22 = nI v) ∧ (e < n → ¬ dg (M 138 e))) n
    (fun i a b => m ≤ i ∧ a.1 = nI (i - m) ∧ mvC C a.2.2 i ∧ nmM M b m i ∧ (i - m ≤ 3 → ∃ v, v < 10 ^ (i - m) ∧ a.2.1 = nI v ∧ b 127 22 = nI v))
    (fun l l2 a b hI => by
      obtain ⟨g, x, a⟩ := a
      obtain ⟨h0, hg, h1, h2, hv⟩ := hI
      dsimp only at hg h1 h2 hv
      have e1 : a 1 2 ≤ a 1 5 := by rw [h1.2.1 2 (by decide), t1, h1.2.2]; exact nI_le (Nat.le_refl _) (by omega)
      have e2 : b 127 19 ≤ b 127 21 := by rw [h2.2.1 19 (by decide) (by decide) (by decide), t2, h2.2.2.1]; exact nI_le (Nat.le_refl _) (by omega)
      simp only [f_X8_readNumber_L26, s_X8_readNumber_L26, f_X11_takeNumber_L42, s_X11_takeNumber_L42, e1, e2, ↓reduceIte, eq_self, n10, not_true_eq_false, not_false_eq_true, true_implies, false_implies, true_and, and_true, implies_true, forall_const, Sum.elim_inl, Sum.elim_inr, and_self]
      refine ⟨n, h0, Nat.le_refl _, hg, h1, h2, fun c => ?_, fun q => absurd q (by omega)⟩
      obtain ⟨v, v1, v2⟩ := hv c
      have : (10 : Nat) ^ (n - m) ≤ 10 ^ 3 := Nat.pow_le_pow_right (by decide) c
      exact ⟨v, by omega, v2⟩)
    (fun l l2 a b i hi hI => by
      obtain ⟨g, x, a⟩ := a
      obtain ⟨h0, hg, h1, h2, hv⟩ := hI
      dsimp only at hg h1 h2 hv
      subst hg
      have e1 : ¬ a 1 2 ≤ a 1 5 := by rw [h1.2.1 2 (by decide), t1, h1.2.2]; exact nI_ge hi (by omega)
      have e2 : ¬ b 127 19 ≤ b 127 21 := by rw [h2.2.1 19 (by decide) (by decide) (by decide), t2, h2.2.2.1]; exact nI_ge hi (by omega)
      have e3 : f_X8_letter a = M 138 i := by rw [letter_ok (n := n) (by rw [h1.2.1 2 (by decide)]; exact t1) hn h1.2.2 (by omega), if_pos hi, h1.1 2 (by decide)]; exact tx i hi
      have e4 : b 138 (b 127 21).toNatClampNeg = M 138 i := by rw [h2.2.2.1, nI_clamp (by omega), h2.1 138 (by decide)]
      have v1 : vp_in (b 127 21) 240 := by rw [h2.2.2.1]; exact vp_in_nI (by omega) (by decide)
      have a5 : a 1 5 + 1 = nI (i + 1) := by rw [h1.2.2, nI_1]
      have b5 : ∀ y, xu b 127 22 y 127 21 + 1 = nI (i + 1) := fun y => by rw [xu_eq, upd_ne (by decide), h2.2.2.1, nI_1]
      have g1 : nI (i - m) + 1 = nI (i + 1 - m) := by rw [nI_1, show i - m + 1 = i + 1 - m by omega]
      rcases dg_w a (M 138 i) with ⟨d1, d2⟩ | ⟨d1, d2⟩
      · have d3 : f_X11_in b (M 138 i).toInt64 48 57 = 1 := (dg_in b _).trans d2
        obtain ⟨d, dd1, dd2, dd3⟩ := dg_of d1
        by_cases c3 : 3 ≤ i - m
        · have c3' : (3 : Int32) ≤ nI (i - m) := by rw [i_3]; exact nI_le c3 (by omega)
          by_cases cb : b 127 22 ≤ 10000
          · refine Or.inr ⟨(nI (i + 1 - m), x, xu a 1 5 (nI (i + 1))), xu (xu b 127 22 (10 * b 127 22 + M 138 i - 48)) 127 21 (nI (i + 1)), ⟨by omega, rfl, mvC_u h1, nmM_u h2, fun c => absurd c (by omega)⟩, fun ⟨q1, q2, q3⟩ => ?_⟩
            dsimp only at q1 q2 q3 ⊢
            simp only [f_X8_readNumber_L26, s_X8_readNumber_L26, f_X11_takeNumber_L42, s_X11_takeNumber_L42, e1, e2, e3, e4, v1, d2, d3, c3', cb, a5, b5, g1, ↓reduceIte, eq_self, n10, not_true_eq_false, not_false_eq_true, true_implies, false_implies, true_and, and_true, implies_true, forall_const, Sum.elim_inl, Sum.elim_inr, and_self]
            exact ⟨q1, q2, q3⟩
          · refine Or.inr ⟨(nI (i + 1 - m), x, xu a 1 5 (nI (i + 1))), xu (xu b 127 22 (b 127 22)) 127 21 (nI (i + 1)), ⟨by omega, rfl, mvC_u h1, nmM_u h2, fun c => absurd c (by omega)⟩, fun ⟨q1, q2, q3⟩ => ?_⟩
            dsimp only at q1 q2 q3 ⊢
            simp only [f_X8_readNumber_L26, s_X8_readNumber_L26, f_X11_takeNumber_L42, s_X11_takeNumber_L42, e1, e2, e3, e4, v1, d2, d3, c3', cb, a5, b5, g1, ↓reduceIte, eq_self, n10, not_true_eq_false, not_false_eq_true, true_implies, false_implies, true_and, and_true, implies_true, forall_const, Sum.elim_inl, Sum.elim_inr, and_self]
            exact ⟨q1, q2, q3⟩
        · have c3' : ¬ (3 : Int32) ≤ nI (i - m) := by rw [i_3]; exact nI_ge (by omega) (by omega)
          obtain ⟨v, w1, w2, w3⟩ := hv (by omega)
          subst w2
          have hp : (10 : Nat) ^ (i - m) ≤ 10 ^ 2 := Nat.pow_le_pow_right (by decide) (by omega)
          have cb : nI v ≤ (10000 : Int32) := nI_le (b := 10000) (by omega) (by decide)
          have hw : 10 * v + d - 48 < 10 ^ (i + 1 - m) := by
            have hs : i + 1 - m = i - m + 1 := Nat.sub_add_comm h0
            rw [hs, Nat.pow_succ]
            clear hp cb
            generalize 10 ^ (i - m) = T at w1 ⊢
            omega
          refine Or.inr ⟨(nI (i + 1 - m), nI (10 * v + d - 48), xu a 1 5 (nI (i + 1))), xu (xu b 127 22 (nI (10 * v + d - 48))) 127 21 (nI (i + 1)), ⟨by omega, rfl, mvC_u h1, nmM_u h2, fun _ => ⟨_, hw, rfl, by rw [xu_eq, upd_ne (by decide), xu_eq, upd_eq]⟩⟩, fun ⟨q1, q2, q3⟩ => ?_⟩
          dsimp only at q1 q2 q3 ⊢
          rw [dd3] at e3 e4 d2 d3
          simp only [f_X8_readNumber_L26, s_X8_readNumber_L26, f_X11_takeNumber_L42, s_X11_takeNumber_L42, e1, e2, e3, e4, v1, d2, d3, c3', w3, cb, val_c v d dd1, val_m v d dd1, a5, b5, g1, ↓reduceIte, eq_self, n10, not_true_eq_false, not_false_eq_true, true_implies, false_implies, true_and, and_true, implies_true, forall_const, Sum.elim_inl, Sum.elim_inr, and_self]
          exact ⟨q1, q2, q3⟩
      · have d3 : f_X11_in b (M 138 i).toInt64 48 57 = 0 := (dg_in b _).trans d2
        left
        simp only [f_X8_readNumber_L26, s_X8_readNumber_L26, f_X11_takeNumber_L42, s_X11_takeNumber_L42, e1, e2, e3, e4, v1, d2, d3, ↓reduceIte, eq_self, n10, not_true_eq_false, not_false_eq_true, true_implies, false_implies, true_and, and_true, implies_true, forall_const, Sum.elim_inl, Sum.elim_inr, and_self]
        refine ⟨i, h0, by omega, rfl, h1, h2, fun c => ?_, fun _ => d1⟩
        obtain ⟨v, w1, w2⟩ := hv c
        have : (10 : Nat) ^ (i - m) ≤ 10 ^ 3 := Nat.pow_le_pow_right (by decide) c
        exact ⟨v, by omega, w2⟩)
    (n - m) m (0, 0, C) M (fu (C 1 5) (C 1 2)) (fu (M 127 21) (M 127 19)) (by omega) (by rw [p1, t1, fu_n hm (by omega)]; omega) (by rw [p2.2.2.1, t2, fu_n hm (by omega)]; omega) ⟨Nat.le_refl _, by rw [Nat.sub_self]; rfl, ⟨fun _ _ => rfl, fun _ _ => rfl, p1⟩, p2, fun _ => ⟨0, by rw [Nat.sub_self]; decide, rfl, y0⟩⟩
  exact key
