/-! PRAISED, SILENT, COVER, told -/
theorem add_z (x : Int32) : x + 0 = x := by simp
theorem k_m1 {k : Nat} (hk : k < 2147483648) : ¬ nI k = (-1 : Int32) := fun e => by
  have h := nI_pos' (n := k) (by omega)
  rw [e] at h
  exact absurd h (by decide)
section PS
variable {S : xS} {R P : Nat}
theorem sum_ok (h : xRh S R P) (hk : xRk S 32 131 0) (hv : xRv S R P 131 0) {q : Nat} (hq : q < P) (x1 x2 : Int32) : s_X9_saidOf S (nI q) ∧ s_X11_praised_L21 (fu 0 (S 127 6)) S x1 x2 (nI q) 0 0 ∧ f_X9_saidOf S (nI q) = f_X11_praised_L21 (fu 0 (S 127 6)) S x1 x2 (nI q) 0 0 ∧ -63 ≤ (f_X9_saidOf S (nI q)).toInt ∧ (f_X9_saidOf S (nI q)).toInt ≤ 63 := by
  have hP := xhP h
  have key := xl_b0 (α := Int32) (β := Int32) (γ := Int32 × Prop) (δ := Int32 × Prop)
    (fun n a x => (f_X9_saidOf_L4 n S (nI q) a x, s_X9_saidOf_L4 n S (nI q) a x))
    (fun n a x => (f_X11_praised_L21 n S x1 x2 (nI q) a x, s_X11_praised_L21 n S x1 x2 (nI q) a x))
    (fun z w => z.2 ∧ w.2 ∧ z.1 = w.1 ∧ -63 ≤ z.1.toInt ∧ z.1.toInt ≤ 63) P (fun i a b => a = b ∧ -(9 * (i : Int)) ≤ a.toInt ∧ a.toInt ≤ 9 * (i : Int))
    (fun n m a b hI => by
      obtain ⟨rfl, b1, b2⟩ := hI
      have b3 : -63 ≤ a.toInt := by omega
      have b4 : a.toInt ≤ 63 := by omega
      simp only [f_X9_saidOf_L4, s_X9_saidOf_L4, f_X11_praised_L21, s_X11_praised_L21, le_9 h, le_7 h, b3, b4, ↓reduceIte, eq_self, n10, not_true_eq_false, not_false_eq_true, true_implies, false_implies, true_and, and_true, implies_true, forall_const, Sum.elim_inl, Sum.elim_inr, and_self])
    (fun n m a b i hi hI => by
      obtain ⟨rfl, b1, b2⟩ := hI
      by_cases c : i = q
      · subst c
        refine Or.inr ⟨a, a, ⟨rfl, by omega, by omega⟩, fun ⟨h1, h2, h3, h4⟩ => ?_⟩
        dsimp only at h1 h2 h3 h4 ⊢
        simp only [f_X9_saidOf_L4, s_X9_saidOf_L4, f_X11_praised_L21, s_X11_praised_L21, nle_9 h hi, nle_7 h hi, add_z, nI_1, ↓reduceIte, eq_self, n10, not_true_eq_false, not_false_eq_true, true_implies, false_implies, true_and, and_true, implies_true, forall_const, Sum.elim_inl, Sum.elim_inr, and_self]
        exact ⟨h1, h2, h3, h4⟩
      · have e : ¬ nI i = nI q := fun e => c (nI_inj (by omega) (by omega) e)
        obtain ⟨y1, y2⟩ := sy_bd h hk hv hi hq
        have ea : (a + sy S i q).toInt = a.toInt + (sy S i q).toInt := fb_addI (by omega) (by omega)
        have es : f_X11_says S 131 (nI i) (nI q) = sy S i q := rfl
        refine Or.inr ⟨a + sy S i q, a + sy S i q, ⟨rfl, by omega, by omega⟩, fun ⟨h1, h2, h3, h4⟩ => ?_⟩
        dsimp only at h1 h2 h3 h4 ⊢
        simp only [f_X9_saidOf_L4, s_X9_saidOf_L4, f_X11_praised_L21, s_X11_praised_L21, nle_9 h hi, nle_7 h hi, nI_1, e, sy_says h hk hv hi hq, sy_s h hv hi hq, es, ↓reduceIte, eq_self, n10, not_true_eq_false, not_false_eq_true, true_implies, false_implies, true_and, and_true, implies_true, forall_const, Sum.elim_inl, Sum.elim_inr, and_self]
        exact ⟨h1, h2, h3, h4⟩)
    0 0 (fu_9 h) (fu_7 h) ⟨rfl, by decide, by decide⟩
  exact ⟨⟨key.1, trivial⟩, key.2.1, key.2.2.1, key.2.2.2⟩
theorem praised_ok (h : xRh S R P) (hk : xRk S 32 131 0) (hv : xRv S R P 131 0) : s_X9_praised S ∧ s_X11_praised S ∧ f_X9_praised S = f_X11_praised S := by
  have hP := xhP h
  have key := xl_b0 (α := Int32 × Int32) (β := Int32 × Int32) (γ := Int32 × Prop) (δ := Int32 × Prop)
    (fun n a x => (f_X9_praised_L6 n S a.1 a.2 x, s_X9_praised_L6 n S a.1 a.2 x))
    (fun n a x => (f_X11_praised_L7 n S a.1 a.2 x, s_X11_praised_L7 n S a.1 a.2 x))
    (fun z w => z.2 ∧ w.2 ∧ z.1 = w.1) P (fun i a b => (i = 0 ∧ a = (-1, 0) ∧ b = (-1, -1000000)) ∨ ∃ k m, k < i ∧ a = (nI k, m) ∧ b = (nI k, m))
    (fun n m a b hI => by
      have e : a.1 = b.1 := by rcases hI with ⟨-, rfl, rfl⟩ | ⟨k, m, -, rfl, rfl⟩ <;> rfl
      simp only [f_X9_praised_L6, s_X9_praised_L6, f_X11_praised_L7, s_X11_praised_L7, le_9 h, le_7 h, e, ↓reduceIte, eq_self, n10, not_true_eq_false, not_false_eq_true, true_implies, false_implies, true_and, and_true, implies_true, forall_const, Sum.elim_inl, Sum.elim_inr, and_self])
    (fun n m a b i hi hI => by
      obtain ⟨o1, o2, o3, o4, o5⟩ := sum_ok h hk hv hi b.1 b.2
      generalize hx : f_X9_saidOf S (nI i) = x at o3 o4 o5
      have o3 := o3.symm
      rcases hI with ⟨rfl, rfl, rfl⟩ | ⟨k, m, hk2, rfl, rfl⟩
      · refine Or.inr ⟨(nI 0, x), (nI 0, x), Or.inr ⟨0, x, by omega, rfl, rfl⟩, fun ⟨h1, h2, h3⟩ => ?_⟩
        dsimp only at h1 h2 h3 o1 o2 o3 ⊢
        have e : ¬ x ≤ (-1000000 : Int32) := by
          rw [i_le, show (-1000000 : Int32).toInt = -1000000 from by decide]
          omega
        simp only [f_X9_praised_L6, s_X9_praised_L6, f_X11_praised_L7, s_X11_praised_L7, nle_9 h hi, nle_7 h hi, nI_1, o1, o2, o3, e, hx, ↓reduceIte, eq_self, n10, not_true_eq_false, not_false_eq_true, true_implies, false_implies, true_and, and_true, implies_true, forall_const, Sum.elim_inl, Sum.elim_inr, and_self]
        exact ⟨h1, h2, h3⟩
      · have e := k_m1 (k := k) (by omega)
        by_cases c : x ≤ m
        · refine Or.inr ⟨(nI k, m), (nI k, m), Or.inr ⟨k, m, by omega, rfl, rfl⟩, fun ⟨h1, h2, h3⟩ => ?_⟩
          dsimp only at h1 h2 h3 o1 o2 o3 ⊢
          simp only [f_X9_praised_L6, s_X9_praised_L6, f_X11_praised_L7, s_X11_praised_L7, nle_9 h hi, nle_7 h hi, nI_1, o1, o2, o3, c, e, hx, ↓reduceIte, eq_self, n10, not_true_eq_false, not_false_eq_true, true_implies, false_implies, true_and, and_true, implies_true, forall_const, Sum.elim_inl, Sum.elim_inr, and_self]
          exact ⟨h1, h2, h3⟩
        · refine Or.inr ⟨(nI i, x), (nI i, x), Or.inr ⟨i, x, by omega, rfl, rfl⟩, fun ⟨h1, h2, h3⟩ => ?_⟩
          dsimp only at h1 h2 h3 o1 o2 o3 ⊢
          simp only [f_X9_praised_L6, s_X9_praised_L6, f_X11_praised_L7, s_X11_praised_L7, nle_9 h hi, nle_7 h hi, nI_1, o1, o2, o3, c, e, hx, ↓reduceIte, eq_self, n10, not_true_eq_false, not_false_eq_true, true_implies, false_implies, true_and, and_true, implies_true, forall_const, Sum.elim_inl, Sum.elim_inr, and_self]
          exact ⟨h1, h2, h3⟩)
    (-1, 0) (-1, -1000000) (fu_9 h) (fu_7 h) (Or.inl ⟨rfl, rfl, rfl⟩)
  exact ⟨⟨key.1, trivial⟩, ⟨key.2.1, trivial⟩, key.2.2⟩
theorem sil_eq (h : xRh S R P) (hk : xRk S 32 131 0) (hv : xRv S R P 131 0) {p q : Nat} (hp : p < P) (hq : q < P) : f_X9_isSilent S (nI p) (nI q) = if 0 < sy S p q then 0 else if 0 < sy S q p then 0 else 1 := by
  unfold f_X9_isSilent
  dsimp only
  rw [sy_says h hk hv hp hq, sy_says h hk hv hq hp]
theorem fu_9s (h : xRh S R P) {p : Nat} (hp : p < P) : P - (p + 1) + 1 ≤ fu (nI p + 1) (S 9 9) := by
  have := xhP h
  rw [xhP9 h, nI_1, fu_n (by omega) (by omega)]
  omega
theorem fu_7s (h : xRh S R P) {p : Nat} (hp : p < P) : P - (p + 1) + 1 ≤ fu (nI p + 1) (S 127 6) := by
  have := xhP h
  rw [xhP7 h, nI_1, fu_n (by omega) (by omega)]
  omega
theorem silA (h : xRh S R P) (hk : xRk S 32 131 0) (hv : xRv S R P 131 0) {p : Nat} (hp : p < P) {x1 : Int32} (hx : ¬ 0 ≤ x1) {c : Nat} (hc : c ≤ 1000) : s_X9_silentPairs_L19 (fu (nI p + 1) (S 9 9)) S (nI c) (nI p) (nI p + 1) ∧ s_X11_silentBy_L17 (fu (nI p + 1) (S 127 6)) S x1 (nI c) (nI p) (nI p + 1) ∧ ∃ c', c' ≤ c + 7 ∧ f_X9_silentPairs_L19 (fu (nI p + 1) (S 9 9)) S (nI c) (nI p) (nI p + 1) = nI c' ∧ f_X11_silentBy_L17 (fu (nI p + 1) (S 127 6)) S x1 (nI c) (nI p) (nI p + 1) = .inr (nI c') := by
  have hP := xhP h
  have key := xl_b (α := Int32) (β := Int32) (γ := Int32 × Prop) (δ := (Int32 ⊕ Int32) × Prop)
    (fun n a x => (f_X9_silentPairs_L19 n S a (nI p) x, s_X9_silentPairs_L19 n S a (nI p) x))
    (fun n a x => (f_X11_silentBy_L17 n S x1 a (nI p) x, s_X11_silentBy_L17 n S x1 a (nI p) x))
    (fun z w => z.2 ∧ w.2 ∧ ∃ c', c' ≤ c + 7 ∧ z.1 = nI c' ∧ w.1 = .inr (nI c')) P (fun i a b => p < i ∧ ∃ c', c' ≤ c + i ∧ a = nI c' ∧ b = nI c')
    (fun n m a b hI => by
      obtain ⟨-, c', b1, rfl, rfl⟩ := hI
      simp only [f_X9_silentPairs_L19, s_X9_silentPairs_L19, f_X11_silentBy_L17, s_X11_silentBy_L17, le_9 h, le_7 h, ↓reduceIte, eq_self, n10, not_true_eq_false, not_false_eq_true, true_implies, false_implies, true_and, and_true, implies_true, forall_const, Sum.elim_inl, Sum.elim_inr, and_self]
      exact ⟨c', by omega, rfl, rfl⟩)
    (fun n m a b i hi hI => by
      obtain ⟨hpi, c', b1, rfl, rfl⟩ := hI
      have es : f_X11_says S 131 (nI p) (nI i) = sy S p i := rfl
      have es2 : f_X11_says S 131 (nI i) (nI p) = sy S i p := rfl
      by_cases q1 : 0 < sy S p i
      · refine Or.inr ⟨nI c', nI c', ⟨by omega, c', by omega, rfl, rfl⟩, fun ⟨h1, h2, h3⟩ => ?_⟩
        dsimp only at h1 h2 h3 ⊢
        simp only [f_X9_silentPairs_L19, s_X9_silentPairs_L19, f_X11_silentBy_L17, s_X11_silentBy_L17, nle_9 h hi, nle_7 h hi, nI_1, sil_eq h hk hv hp hi, sy_s h hv hi hp, sy_s h hv hp hi, es, es2, q1, add_z, ↓reduceIte, eq_self, n10, not_true_eq_false, not_false_eq_true, true_implies, false_implies, true_and, and_true, implies_true, forall_const, Sum.elim_inl, Sum.elim_inr, and_self]
        exact ⟨h1, h2, h3⟩
      · by_cases q2 : 0 < sy S i p
        · refine Or.inr ⟨nI c', nI c', ⟨by omega, c', by omega, rfl, rfl⟩, fun ⟨h1, h2, h3⟩ => ?_⟩
          dsimp only at h1 h2 h3 ⊢
          simp only [f_X9_silentPairs_L19, s_X9_silentPairs_L19, f_X11_silentBy_L17, s_X11_silentBy_L17, nle_9 h hi, nle_7 h hi, nI_1, sil_eq h hk hv hp hi, sy_s h hv hi hp, sy_s h hv hp hi, es, es2, q1, q2, add_z, ↓reduceIte, eq_self, n10, not_true_eq_false, not_false_eq_true, true_implies, false_implies, true_and, and_true, implies_true, forall_const, Sum.elim_inl, Sum.elim_inr, and_self]
          exact ⟨h1, h2, h3⟩
        · have q3 : ¬ nI c' = x1 := fun e => hx (by rw [← e]; exact nI_pos' (by omega))
          refine Or.inr ⟨nI (c' + 1), nI (c' + 1), ⟨by omega, c' + 1, by omega, rfl, rfl⟩, fun ⟨h1, h2, h3⟩ => ?_⟩
          dsimp only at h1 h2 h3 ⊢
          simp only [f_X9_silentPairs_L19, s_X9_silentPairs_L19, f_X11_silentBy_L17, s_X11_silentBy_L17, nle_9 h hi, nle_7 h hi, nI_1, sil_eq h hk hv hp hi, sy_s h hv hi hp, sy_s h hv hp hi, es, es2, q1, q2, q3, ↓reduceIte, eq_self, n10, not_true_eq_false, not_false_eq_true, true_implies, false_implies, true_and, and_true, implies_true, forall_const, Sum.elim_inl, Sum.elim_inr, and_self]
          exact ⟨h1, h2, h3⟩)
    (P - (p + 1)) (p + 1) (nI c) (nI c) (fu (nI p + 1) (S 9 9)) (fu (nI p + 1) (S 127 6)) (by omega) (fu_9s h hp) (fu_7s h hp) ⟨by omega, c, by omega, rfl, rfl⟩
  rw [nI_succ p] at key
  exact key
theorem silB (h : xRh S R P) (hk : xRk S 32 131 0) (hv : xRv S R P 131 0) {p : Nat} (hp : p < P) (x1 c : Int32) : s_X9_silentPair_L20 (fu (nI p + 1) (S 9 9)) S x1 c (nI p) (nI p + 1) ∧ s_X11_silentBy_L17 (fu (nI p + 1) (S 127 6)) S x1 c (nI p) (nI p + 1) ∧ f_X9_silentPair_L20 (fu (nI p + 1) (S 9 9)) S x1 c (nI p) (nI p + 1) = f_X11_silentBy_L17 (fu (nI p + 1) (S 127 6)) S x1 c (nI p) (nI p + 1) := by
  have hP := xhP h
  have key := xl_b (α := Int32) (β := Int32) (γ := (Int32 ⊕ Int32) × Prop) (δ := (Int32 ⊕ Int32) × Prop)
    (fun n a x => (f_X9_silentPair_L20 n S x1 a (nI p) x, s_X9_silentPair_L20 n S x1 a (nI p) x))
    (fun n a x => (f_X11_silentBy_L17 n S x1 a (nI p) x, s_X11_silentBy_L17 n S x1 a (nI p) x))
    (fun z w => z.2 ∧ w.2 ∧ z.1 = w.1) P (fun i a b => p < i ∧ a = b)
    (fun n m a b hI => by
      obtain ⟨-, rfl⟩ := hI
      simp only [f_X9_silentPair_L20, s_X9_silentPair_L20, f_X11_silentBy_L17, s_X11_silentBy_L17, le_9 h, le_7 h, ↓reduceIte, eq_self, n10, not_true_eq_false, not_false_eq_true, true_implies, false_implies, true_and, and_true, implies_true, forall_const, Sum.elim_inl, Sum.elim_inr, and_self])
    (fun n m a b i hi hI => by
      obtain ⟨hpi, rfl⟩ := hI
      have es : f_X11_says S 131 (nI p) (nI i) = sy S p i := rfl
      have es2 : f_X11_says S 131 (nI i) (nI p) = sy S i p := rfl
      by_cases q1 : 0 < sy S p i
      · refine Or.inr ⟨a, a, ⟨by omega, rfl⟩, fun ⟨h1, h2, h3⟩ => ?_⟩
        dsimp only at h1 h2 h3 ⊢
        simp only [f_X9_silentPair_L20, s_X9_silentPair_L20, f_X11_silentBy_L17, s_X11_silentBy_L17, nle_9 h hi, nle_7 h hi, nI_1, sil_eq h hk hv hp hi, sy_s h hv hi hp, sy_s h hv hp hi, es, es2, q1, ↓reduceIte, eq_self, n10, not_true_eq_false, not_false_eq_true, true_implies, false_implies, true_and, and_true, implies_true, forall_const, Sum.elim_inl, Sum.elim_inr, and_self]
        exact ⟨h1, h2, h3⟩
      · by_cases q2 : 0 < sy S i p
        · refine Or.inr ⟨a, a, ⟨by omega, rfl⟩, fun ⟨h1, h2, h3⟩ => ?_⟩
          dsimp only at h1 h2 h3 ⊢
          simp only [f_X9_silentPair_L20, s_X9_silentPair_L20, f_X11_silentBy_L17, s_X11_silentBy_L17, nle_9 h hi, nle_7 h hi, nI_1, sil_eq h hk hv hp hi, sy_s h hv hi hp, sy_s h hv hp hi, es, es2, q1, q2, ↓reduceIte, eq_self, n10, not_true_eq_false, not_false_eq_true, true_implies, false_implies, true_and, and_true, implies_true, forall_const, Sum.elim_inl, Sum.elim_inr, and_self]
          exact ⟨h1, h2, h3⟩
        · by_cases q3 : a = x1
          · left
            simp only [f_X9_silentPair_L20, s_X9_silentPair_L20, f_X11_silentBy_L17, s_X11_silentBy_L17, nle_9 h hi, nle_7 h hi, nI_1, sil_eq h hk hv hp hi, sy_s h hv hi hp, sy_s h hv hp hi, es, es2, q1, q2, q3, ↓reduceIte, eq_self, n10, not_true_eq_false, not_false_eq_true, true_implies, false_implies, true_and, and_true, implies_true, forall_const, Sum.elim_inl, Sum.elim_inr, and_self]
          · refine Or.inr ⟨a + 1, a + 1, ⟨by omega, rfl⟩, fun ⟨h1, h2, h3⟩ => ?_⟩
            dsimp only at h1 h2 h3 ⊢
            simp only [f_X9_silentPair_L20, s_X9_silentPair_L20, f_X11_silentBy_L17, s_X11_silentBy_L17, nle_9 h hi, nle_7 h hi, nI_1, sil_eq h hk hv hp hi, sy_s h hv hi hp, sy_s h hv hp hi, es, es2, q1, q2, q3, ↓reduceIte, eq_self, n10, not_true_eq_false, not_false_eq_true, true_implies, false_implies, true_and, and_true, implies_true, forall_const, Sum.elim_inl, Sum.elim_inr, and_self]
            exact ⟨h1, h2, h3⟩)
    (P - (p + 1)) (p + 1) c c (fu (nI p + 1) (S 9 9)) (fu (nI p + 1) (S 127 6)) (by omega) (fu_9s h hp) (fu_7s h hp) ⟨by omega, rfl⟩
  rw [nI_succ p] at key
  exact key
theorem silO1 (h : xRh S R P) (hk : xRk S 32 131 0) (hv : xRv S R P 131 0) {x1 : Int32} (hx : ¬ 0 ≤ x1) : s_X9_silentPairs_L4 (fu 0 (S 9 9)) S 0 0 ∧ s_X11_silentBy_L4 (fu 0 (S 127 6)) S x1 0 0 ∧ f_X11_silentBy_L4 (fu 0 (S 127 6)) S x1 0 0 = .inr (f_X9_silentPairs_L4 (fu 0 (S 9 9)) S 0 0) := by
  have hP := xhP h
  have key := xl_b0 (α := Int32) (β := Int32) (γ := Int32 × Prop) (δ := (Int32 ⊕ Int32) × Prop)
    (fun n a x => (f_X9_silentPairs_L4 n S a x, s_X9_silentPairs_L4 n S a x))
    (fun n a x => (f_X11_silentBy_L4 n S x1 a x, s_X11_silentBy_L4 n S x1 a x))
    (fun z w => z.2 ∧ w.2 ∧ w.1 = .inr z.1) P (fun i a b => ∃ c, c ≤ 7 * i ∧ a = nI c ∧ b = nI c)
    (fun n m a b hI => by
      obtain ⟨c, -, rfl, rfl⟩ := hI
      simp only [f_X9_silentPairs_L4, s_X9_silentPairs_L4, f_X11_silentBy_L4, s_X11_silentBy_L4, le_9 h, le_7 h, ↓reduceIte, eq_self, n10, not_true_eq_false, not_false_eq_true, true_implies, false_implies, true_and, and_true, implies_true, forall_const, Sum.elim_inl, Sum.elim_inr, and_self])
    (fun n m a b i hi hI => by
      obtain ⟨c, hc, rfl, rfl⟩ := hI
      obtain ⟨o1, o2, c', o3, o4, o5⟩ := silA h hk hv hi hx (c := c) (by omega)
      refine Or.inr ⟨nI c', nI c', ⟨c', by omega, rfl, rfl⟩, fun ⟨h1, h2, h3⟩ => ?_⟩
      dsimp only at h1 h2 h3 ⊢
      simp only [f_X9_silentPairs_L4, s_X9_silentPairs_L4, f_X11_silentBy_L4, s_X11_silentBy_L4, nle_9 h hi, nle_7 h hi, o1, o2, o4, o5, ↓reduceIte, eq_self, n10, not_true_eq_false, not_false_eq_true, true_implies, false_implies, true_and, and_true, implies_true, forall_const, Sum.elim_inl, Sum.elim_inr, and_self]
      rw [nI_1]
      refine ⟨h1, fun q hq => ?_, h3⟩
      cases hq
      exact h2)
    0 0 (fu_9 h) (fu_7 h) ⟨0, by omega, rfl, rfl⟩
  exact key
theorem silO2 (h : xRh S R P) (hk : xRk S 32 131 0) (hv : xRv S R P 131 0) (x1 : Int32) : s_X9_silentPair_L4 (fu 0 (S 9 9)) S x1 0 0 ∧ s_X11_silentBy_L4 (fu 0 (S 127 6)) S x1 0 0 ∧ ((∃ r, f_X9_silentPair_L4 (fu 0 (S 9 9)) S x1 0 0 = .inl r ∧ f_X11_silentBy_L4 (fu 0 (S 127 6)) S x1 0 0 = .inl r) ∨ (f_X9_silentPair_L4 (fu 0 (S 9 9)) S x1 0 0 = .inr () ∧ ∃ c, f_X11_silentBy_L4 (fu 0 (S 127 6)) S x1 0 0 = .inr c)) := by
  have hP := xhP h
  have key := xl_b0 (α := Int32) (β := Int32) (γ := (Int32 ⊕ Unit) × Prop) (δ := (Int32 ⊕ Int32) × Prop)
    (fun n a x => (f_X9_silentPair_L4 n S x1 a x, s_X9_silentPair_L4 n S x1 a x))
    (fun n a x => (f_X11_silentBy_L4 n S x1 a x, s_X11_silentBy_L4 n S x1 a x))
    (fun z w => z.2 ∧ w.2 ∧ ((∃ r, z.1 = .inl r ∧ w.1 = .inl r) ∨ (z.1 = .inr () ∧ ∃ c, w.1 = .inr c))) P (fun i a b => a = b)
    (fun n m a b hI => by
      have hI : a = b := hI
      subst hI
      simp only [f_X9_silentPair_L4, s_X9_silentPair_L4, f_X11_silentBy_L4, s_X11_silentBy_L4, le_9 h, le_7 h, ↓reduceIte, eq_self, n10, not_true_eq_false, not_false_eq_true, true_implies, false_implies, true_and, and_true, implies_true, forall_const, Sum.elim_inl, Sum.elim_inr, and_self]
      exact Or.inr ⟨a, rfl⟩)
    (fun n m a b i hi hI => by
      have hI : a = b := hI
      subst hI
      obtain ⟨o1, o2, o3⟩ := silB h hk hv hi x1 a
      rcases hr : f_X11_silentBy_L17 (fu (nI i + 1) (S 127 6)) S x1 a (nI i) (nI i + 1) with r | c
      · left
        rw [hr] at o3
        simp only [f_X9_silentPair_L4, s_X9_silentPair_L4, f_X11_silentBy_L4, s_X11_silentBy_L4, nle_9 h hi, nle_7 h hi, o1, o2, o3, hr, ↓reduceIte, eq_self, n10, not_true_eq_false, not_false_eq_true, true_implies, false_implies, true_and, and_true, implies_true, forall_const, Sum.elim_inl, Sum.elim_inr, and_self]
        exact ⟨fun q hq => (by cases hq), fun q hq => (by cases hq), Or.inl ⟨r, rfl, rfl⟩⟩
      · rw [hr] at o3
        refine Or.inr ⟨c, c, rfl, fun ⟨h1, h2, h3⟩ => ?_⟩
        dsimp only at h1 h2 h3 ⊢
        simp only [f_X9_silentPair_L4, s_X9_silentPair_L4, f_X11_silentBy_L4, s_X11_silentBy_L4, nle_9 h hi, nle_7 h hi, o1, o2, o3, hr, ↓reduceIte, eq_self, n10, not_true_eq_false, not_false_eq_true, true_implies, false_implies, true_and, and_true, implies_true, forall_const, Sum.elim_inl, Sum.elim_inr, and_self]
        rw [nI_1]
        exact ⟨fun q hq => (by cases hq; exact h1), fun q hq => (by cases hq; exact h2), h3⟩)
    0 0 (fu_9 h) (fu_7 h) rfl
  exact key
theorem silent_ok (h : xRh S R P) (hk : xRk S 32 131 0) (hv : xRv S R P 131 0) (x1 : Int32) : s_X9_silentPair S x1 ∧ s_X11_silent S x1 ∧ f_X9_silentPair S x1 = f_X11_silent S x1 := by
  obtain ⟨o1, o2, o3⟩ := silO2 h hk hv x1
  refine ⟨⟨o1, fun _ _ => trivial⟩, ⟨fun _ => ⟨⟨o2, fun _ _ => trivial⟩, trivial⟩, fun _ => trivial⟩, ?_⟩
  unfold f_X9_silentPair f_X11_silent f_X11_silentBy
  by_cases hx : 0 ≤ x1
  · rw [if_pos hx]
    have e : ¬ x1 = (-1 : Int32) := fun e => absurd hx (by rw [e]; decide)
    rcases o3 with ⟨r, a1, a2⟩ | ⟨a1, c, a2⟩
    · rw [a1, a2]; rfl
    · rw [a1, a2]
      dsimp only [Sum.elim_inr]
      rw [if_neg e]
  · rw [if_neg hx]
    obtain ⟨-, -, k3⟩ := silO1 h hk hv hx
    rcases o3 with ⟨r, a1, a2⟩ | ⟨a1, c, a2⟩
    · rw [a2] at k3; cases k3
    · rw [a1]; rfl
theorem pairs_ok (h : xRh S R P) (hk : xRk S 32 131 0) (hv : xRv S R P 131 0) : s_X9_silentPairs S ∧ s_X11_silentBy S (-1) ∧ f_X9_silentPairs S = f_X11_silentBy S (-1) := by
  obtain ⟨o1, o2, o3⟩ := silO1 h hk hv (x1 := -1) (by decide)
  refine ⟨⟨o1, trivial⟩, ⟨o2, fun _ _ => trivial⟩, ?_⟩
  unfold f_X9_silentPairs f_X11_silentBy
  rw [o3]
  rfl
end PS
theorem op_silent {S : xS} (h : xR S) (p0 : Int32) : s_X10_silent S p0 ∧ s_X11_silent S p0 ∧ f_X10_silent S p0 = (f_X11_silent S p0) ∧ xR S := by
  obtain ⟨R, P, hh, hk, hv, -⟩ := h.2.2.1
  obtain ⟨o1, o2, o3⟩ := silent_ok hh hk hv p0
  exact ⟨⟨o1, trivial⟩, o2, o3, h⟩
