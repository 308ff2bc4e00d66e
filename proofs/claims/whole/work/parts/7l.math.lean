/-! ask -/
/-- how many of the first n of the set say x -/
def cs (w : Nat) (f : Nat → Int32) (x : Int32) : Nat → Nat | 0 => 0 | n + 1 => cs w f x n + if w.testBit n = true ∧ f n = x then 1 else 0
theorem cs_le (w : Nat) (f : Nat → Int32) (x : Int32) (n : Nat) : cs w f x n ≤ n := by
  induction n with
  | zero => exact Nat.le_refl _
  | succ n ih =>
    show cs w f x n + (if w.testBit n = true ∧ f n = x then 1 else 0) ≤ n + 1
    split <;> omega
theorem cs_pos {w : Nat} {f : Nat → Int32} {x : Int32} {n : Nat} (h : 0 < cs w f x n) : ∃ v, v < n ∧ w.testBit v = true ∧ f v = x := by
  induction n with
  | zero => exact absurd h (by show ¬ 0 < 0; omega)
  | succ n ih =>
    by_cases c : w.testBit n = true ∧ f n = x
    · exact ⟨n, by omega, c⟩
    · have e : cs w f x (n + 1) = cs w f x n := by
        show cs w f x n + (if w.testBit n = true ∧ f n = x then 1 else 0) = _
        rw [if_neg c, Nat.add_zero]
      rw [e] at h
      obtain ⟨v, v1, v2⟩ := ih h
      exact ⟨v, by omega, v2⟩
/-- the numbers that may be said -/
def kd9 (i : Nat) : Int32 := nI i - 9
theorem kd9_i (i : Nat) (h : i < 1000) : (kd9 i).toInt = (i : Int) - 9 := by
  unfold kd9
  have z9 : (9 : Int32).toInt = 9 := rfl
  rw [fb_subI (by rw [nI_toInt (by omega), z9]; omega) (by rw [nI_toInt (by omega), z9]; omega), nI_toInt (by omega), z9]
theorem kd9_s (i : Nat) (h : i < 999) : kd9 i + 1 = kd9 (i + 1) := i_eq (by
  rw [fb_addI (by rw [kd9_i i (by omega), i_1]; omega) (by rw [kd9_i i (by omega), i_1]; omega), kd9_i i (by omega), i_1, kd9_i (i + 1) (by omega)]
  omega)
section AK
variable {S : xS}
/-- what one of kind k says of one liked by v -/
def sk (S : xS) (k t : Int32) (v : Nat) : Int32 := f_X10_words S k (nI v) t
theorem gp_in {w : Nat} (hw : w < 1024) (k t x m : Int32) : s_X5_greatestPart_L20 (fu 0 9) S (nI w) k t m x 0 0 ∧ f_X5_greatestPart_L20 (fu 0 9) S (nI w) k t m x 0 0 = nI (cs w (sk S k t) x 10) := by
  have key := xl_a0 (α := Int32) (γ := Int32 × Prop) (fun n a y => (f_X5_greatestPart_L20 n S (nI w) k t m x a y, s_X5_greatestPart_L20 n S (nI w) k t m x a y))
    (fun z => z.2 ∧ z.1 = nI (cs w (sk S k t) x 10)) 10 (fun i a => a = nI (cs w (sk S k t) x i))
    (fun n a hI => by
      have l : (9 : Int32) < nI 10 := by decide
      simp only [f_X5_greatestPart_L20, s_X5_greatestPart_L20, l, ↓reduceIte, eq_self, n10, not_true_eq_false, not_false_eq_true, true_implies, false_implies, true_and, and_true, implies_true, forall_const, Sum.elim_inl, Sum.elim_inr, and_self]
      exact hI)
    (fun n a i hi hI => by
      have hI : a = nI (cs w (sk S k t) x i) := hI
      subst hI
      have l : ¬ (9 : Int32) < nI i := by rw [i_9]; exact nI_nlt (by omega) (by omega)
      have e := has_k1 S (w := w) (k := i) (by omega) (by omega)
      have ec : cs w (sk S k t) x (i + 1) = cs w (sk S k t) x i + if w.testBit i = true ∧ sk S k t i = x then 1 else 0 := rfl
      have es : f_X10_words S k (nI i) t = sk S k t i := rfl
      by_cases c : w.testBit i = true
      · rw [if_pos c] at e
        by_cases c2 : sk S k t i = x
        · rw [if_pos ⟨c, c2⟩] at ec
          refine Or.inr ⟨nI (cs w (sk S k t) x (i + 1)), rfl, fun ⟨h1, h2⟩ => ?_⟩
          dsimp only at h1 h2 ⊢
          rw [ec] at h1 h2
          simp only [f_X5_greatestPart_L20, s_X5_greatestPart_L20, l, e, es, c2, nI_1, h1, ↓reduceIte, eq_self, n10, not_true_eq_false, not_false_eq_true, true_implies, false_implies, true_and, and_true, implies_true, forall_const, Sum.elim_inl, Sum.elim_inr, and_self]
          exact h2
        · rw [if_neg (fun h => c2 h.2), Nat.add_zero] at ec
          refine Or.inr ⟨nI (cs w (sk S k t) x (i + 1)), rfl, fun ⟨h1, h2⟩ => ?_⟩
          dsimp only at h1 h2 ⊢
          rw [ec] at h1 h2
          simp only [f_X5_greatestPart_L20, s_X5_greatestPart_L20, l, e, es, c2, add_z, nI_1, ↓reduceIte, eq_self, n10, not_true_eq_false, not_false_eq_true, true_implies, false_implies, true_and, and_true, implies_true, forall_const, Sum.elim_inl, Sum.elim_inr, and_self]
          exact ⟨h1, h2⟩
      · rw [if_neg c] at e
        rw [if_neg (fun h => c h.1), Nat.add_zero] at ec
        refine Or.inr ⟨nI (cs w (sk S k t) x (i + 1)), rfl, fun ⟨h1, h2⟩ => ?_⟩
        dsimp only at h1 h2 ⊢
        rw [ec] at h1 h2
        simp only [f_X5_greatestPart_L20, s_X5_greatestPart_L20, l, e, add_z, nI_1, ↓reduceIte, eq_self, n10, not_true_eq_false, not_false_eq_true, true_implies, false_implies, true_and, and_true, implies_true, forall_const, Sum.elim_inl, Sum.elim_inr, and_self]
        exact ⟨h1, h2⟩)
    (n := fu 0 9) 0 (by decide) rfl
  exact key
theorem gp_ok {w : Nat} (hw : w < 1024) (k t : Int32) : s_X5_greatestPart S (nI w) k t ∧ ∃ M, M ≤ 10 ∧ f_X5_greatestPart S (nI w) k t = nI M ∧ (∀ i, i < 19 → cs w (sk S k t) (kd9 i) 10 ≤ M) ∧ (M = 0 ∨ ∃ i, i < 19 ∧ M = cs w (sk S k t) (kd9 i) 10) := by
  have key := xl_k kd9 (α := Int32) (γ := Int32 × Prop) (fun n a y => (f_X5_greatestPart_L7 n S (nI w) k t a y, s_X5_greatestPart_L7 n S (nI w) k t a y))
    (fun z => z.2 ∧ ∃ M, M ≤ 10 ∧ z.1 = nI M ∧ (∀ i, i < 19 → cs w (sk S k t) (kd9 i) 10 ≤ M) ∧ (M = 0 ∨ ∃ i, i < 19 ∧ M = cs w (sk S k t) (kd9 i) 10)) 19
    (fun i a => ∃ M, M ≤ 10 ∧ a = nI M ∧ (∀ j, j < i → cs w (sk S k t) (kd9 j) 10 ≤ M) ∧ (M = 0 ∨ ∃ j, j < i ∧ M = cs w (sk S k t) (kd9 j) 10))
    (fun n a hI => by
      have l : (9 : Int32) < kd9 19 := by decide
      simp only [f_X5_greatestPart_L7, s_X5_greatestPart_L7, l, ↓reduceIte, eq_self, n10, not_true_eq_false, not_false_eq_true, true_implies, false_implies, true_and, and_true, implies_true, forall_const, Sum.elim_inl, Sum.elim_inr, and_self]
      exact hI)
    (fun n a i hi hI => by
      obtain ⟨M, m0, rfl, m1, m2⟩ := hI
      have z9 : (9 : Int32).toInt = 9 := rfl
      have l : ¬ (9 : Int32) < kd9 i := by rw [i_lt, kd9_i i (by omega), z9]; omega
      obtain ⟨o1, o2⟩ := gp_in (S := S) hw k t (kd9 i) (nI M)
      have hle := cs_le w (sk S k t) (kd9 i) 10
      have eκ := kd9_s i (by omega)
      by_cases c : M < cs w (sk S k t) (kd9 i) 10
      · have c' : nI M < nI (cs w (sk S k t) (kd9 i) 10) := nI_lt c (by omega)
        refine Or.inr ⟨nI (cs w (sk S k t) (kd9 i) 10), ⟨_, hle, rfl, fun j hj => ?_, Or.inr ⟨i, by omega, rfl⟩⟩, fun ⟨h1, h2⟩ => ?_⟩
        · rcases Nat.lt_or_ge j i with q | q
          · have := m1 j q; omega
          · rw [show j = i by omega]; exact Nat.le_refl _
        · dsimp only at h1 h2 ⊢
          simp only [f_X5_greatestPart_L7, s_X5_greatestPart_L7, l, o1, o2, c', eκ, h1, ↓reduceIte, eq_self, n10, not_true_eq_false, not_false_eq_true, true_implies, false_implies, true_and, and_true, implies_true, forall_const, Sum.elim_inl, Sum.elim_inr, and_self]
          exact h2
      · have c' : ¬ nI M < nI (cs w (sk S k t) (kd9 i) 10) := nI_nlt (by omega) (by omega)
        refine Or.inr ⟨nI M, ⟨M, m0, rfl, fun j hj => ?_, ?_⟩, fun ⟨h1, h2⟩ => ?_⟩
        · rcases Nat.lt_or_ge j i with q | q
          · exact m1 j q
          · rw [show j = i by omega]; omega
        · rcases m2 with m2 | ⟨j, j1, j2⟩
          · exact Or.inl m2
          · exact Or.inr ⟨j, by omega, j2⟩
        · dsimp only at h1 h2 ⊢
          simp only [f_X5_greatestPart_L7, s_X5_greatestPart_L7, l, o1, o2, c', eκ, h1, ↓reduceIte, eq_self, n10, not_true_eq_false, not_false_eq_true, true_implies, false_implies, true_and, and_true, implies_true, forall_const, Sum.elim_inl, Sum.elim_inr, and_self]
          exact h2)
    19 0 0 (fu (-9) 9) (by omega) (by decide) ⟨0, by omega, rfl, fun j hj => absurd hj (by omega), Or.inl rfl⟩
  have e0 : kd9 0 = -9 := by decide
  rw [e0] at key
  exact ⟨⟨key.1, trivial⟩, key.2⟩
theorem n51 {c w : Nat} (c1 : c ≤ 6) (c3 : S 127 11 = nI c) (hw : ∀ v, w.testBit v = true ↔ (v < 10 ∧ fitN S c v)) {a : Nat} (ha : a < 10) (k b w0 m t f : Int32) (tt : (t = 1 ∧ f = 1) ∨ (¬ t = 1 ∧ f = 0)) : s_X11_ask_L51 (fu 0 10) S k b w0 t m (nI a) 0 0 ∧ f_X11_ask_L51 (fu 0 10) S k b w0 t m (nI a) 0 0 = nI (if w.testBit a = true then cs w (sk S k f) (sk S k f a) 10 else 0) := by
  obtain ⟨a1, a2⟩ := so_ok c1 c3 a
  have key := xl_a0 (α := Int32) (γ := Int32 × Prop) (fun n x y => (f_X11_ask_L51 n S k b w0 t m (nI a) x y, s_X11_ask_L51 n S k b w0 t m (nI a) x y))
    (fun z => z.2 ∧ z.1 = nI (if w.testBit a = true then cs w (sk S k f) (sk S k f a) 10 else 0)) 10 (fun i x => x = nI (if w.testBit a = true then cs w (sk S k f) (sk S k f a) i else 0))
    (fun n x hI => by
      have l : (10 : Int32) ≤ nI 10 := by decide
      simp only [f_X11_ask_L51, s_X11_ask_L51, l, ↓reduceIte, eq_self, n10, not_true_eq_false, not_false_eq_true, true_implies, false_implies, true_and, and_true, implies_true, forall_const, Sum.elim_inl, Sum.elim_inr, and_self]
      exact hI)
    (fun n x i hi hI => by
      have hI : x = nI (if w.testBit a = true then cs w (sk S k f) (sk S k f a) i else 0) := hI
      have l : ¬ (10 : Int32) ≤ nI i := by rw [i_10]; exact nI_ge hi (by omega)
      obtain ⟨o1, o2⟩ := so_ok c1 c3 i
      have ec : cs w (sk S k f) (sk S k f a) (i + 1) = cs w (sk S k f) (sk S k f a) i + if w.testBit i = true ∧ sk S k f i = sk S k f a then 1 else 0 := rfl
      rcases a2 with ⟨a2, a3⟩ | ⟨a2, a3⟩
      · have hb : w.testBit a = true := (hw a).mpr ⟨ha, a3⟩
        rw [if_pos hb] at hI
        subst hI
        rcases o2 with ⟨o2, o3⟩ | ⟨o2, o3⟩
        · have hbi : w.testBit i = true := (hw i).mpr ⟨hi, o3⟩
          by_cases c2 : sk S k f i = sk S k f a
          · rw [if_pos ⟨hbi, c2⟩] at ec
            refine Or.inr ⟨nI (cs w (sk S k f) (sk S k f a) (i + 1)), by rw [if_pos hb], fun ⟨h1, h2⟩ => ?_⟩
            dsimp only at h1 h2 ⊢
            rw [ec] at h1 h2
            have c2' := c2.symm
            unfold sk at c2'
            rcases tt with ⟨t1, rfl⟩ | ⟨t1, rfl⟩
            · simp only [f_X11_ask_L51, s_X11_ask_L51, words_eq _ S, l, a1, a2, o1, o2, t1, c2', nI_1, ↓reduceIte, eq_self, n10, not_true_eq_false, not_false_eq_true, true_implies, false_implies, true_and, and_true, implies_true, forall_const, Sum.elim_inl, Sum.elim_inr, and_self] at h1 h2 ⊢
              exact ⟨h1, h2⟩
            · simp only [f_X11_ask_L51, s_X11_ask_L51, words_eq _ S, l, a1, a2, o1, o2, t1, c2', nI_1, ↓reduceIte, eq_self, n10, not_true_eq_false, not_false_eq_true, true_implies, false_implies, true_and, and_true, implies_true, forall_const, Sum.elim_inl, Sum.elim_inr, and_self] at h1 h2 ⊢
              exact ⟨h1, h2⟩
          · rw [if_neg (fun h => c2 h.2), Nat.add_zero] at ec
            refine Or.inr ⟨nI (cs w (sk S k f) (sk S k f a) (i + 1)), by rw [if_pos hb], fun ⟨h1, h2⟩ => ?_⟩
            dsimp only at h1 h2 ⊢
            rw [ec] at h1 h2
            have c2' : ¬ sk S k f a = sk S k f i := fun e => c2 e.symm
            unfold sk at c2'
            rcases tt with ⟨t1, rfl⟩ | ⟨t1, rfl⟩
            · simp only [f_X11_ask_L51, s_X11_ask_L51, words_eq _ S, l, a1, a2, o1, o2, t1, c2', add_z, nI_1, ↓reduceIte, eq_self, n10, not_true_eq_false, not_false_eq_true, true_implies, false_implies, true_and, and_true, implies_true, forall_const, Sum.elim_inl, Sum.elim_inr, and_self] at h1 h2 ⊢
              exact ⟨h1, h2⟩
            · simp only [f_X11_ask_L51, s_X11_ask_L51, words_eq _ S, l, a1, a2, o1, o2, t1, c2', add_z, nI_1, ↓reduceIte, eq_self, n10, not_true_eq_false, not_false_eq_true, true_implies, false_implies, true_and, and_true, implies_true, forall_const, Sum.elim_inl, Sum.elim_inr, and_self] at h1 h2 ⊢
              exact ⟨h1, h2⟩
        · have hbi : ¬ w.testBit i = true := fun h => o3 ((hw i).mp h).2
          rw [if_neg (fun h => hbi h.1), Nat.add_zero] at ec
          refine Or.inr ⟨nI (cs w (sk S k f) (sk S k f a) (i + 1)), by rw [if_pos hb], fun ⟨h1, h2⟩ => ?_⟩
          dsimp only at h1 h2 ⊢
          rw [ec] at h1 h2
          simp only [f_X11_ask_L51, s_X11_ask_L51, l, a1, a2, o1, o2, add_z, nI_1, ↓reduceIte, eq_self, n10, not_true_eq_false, not_false_eq_true, true_implies, false_implies, true_and, and_true, implies_true, forall_const, Sum.elim_inl, Sum.elim_inr, and_self]
          exact ⟨h1, h2⟩
      · have hb : ¬ w.testBit a = true := fun h => a3 ((hw a).mp h).2
        rw [if_neg hb] at hI
        subst hI
        refine Or.inr ⟨nI 0, by rw [if_neg hb], fun ⟨h1, h2⟩ => ?_⟩
        dsimp only at h1 h2 ⊢
        simp only [f_X11_ask_L51, s_X11_ask_L51, l, a1, a2, add_z, nI_1, h1, ↓reduceIte, eq_self, n10, not_true_eq_false, not_false_eq_true, true_implies, false_implies, true_and, and_true, implies_true, forall_const, Sum.elim_inl, Sum.elim_inr, and_self]
        exact h2)
    (n := fu 0 10) 0 (by decide) (by split <;> rfl)
  exact key
/-- the greatest part that is alike, as the reference tells it -/
def nn (S : xS) (w : Nat) (k f : Int32) (a : Nat) : Nat := if w.testBit a = true then cs w (sk S k f) (sk S k f a) 10 else 0
theorem n38 {c w : Nat} (c1 : c ≤ 6) (c3 : S 127 11 = nI c) (hw : ∀ v, w.testBit v = true ↔ (v < 10 ∧ fitN S c v)) (k b w0 t f : Int32) (tt : (t = 1 ∧ f = 1) ∨ (¬ t = 1 ∧ f = 0)) : s_X11_ask_L38 (fu 0 10) S k b w0 t 0 0 ∧ ∃ M, M ≤ 10 ∧ f_X11_ask_L38 (fu 0 10) S k b w0 t 0 0 = nI M ∧ (∀ i, i < 10 → nn S w k f i ≤ M) ∧ (M = 0 ∨ ∃ i, i < 10 ∧ M = nn S w k f i) := by
  have hnn : ∀ a, nn S w k f a ≤ 10 := fun a => by
    unfold nn
    split
    · exact cs_le _ _ _ _
    · omega
  have key := xl_a0 (α := Int32) (γ := Int32 × Prop) (fun n x y => (f_X11_ask_L38 n S k b w0 t x y, s_X11_ask_L38 n S k b w0 t x y))
    (fun z => z.2 ∧ ∃ M, M ≤ 10 ∧ z.1 = nI M ∧ (∀ i, i < 10 → nn S w k f i ≤ M) ∧ (M = 0 ∨ ∃ i, i < 10 ∧ M = nn S w k f i)) 10
    (fun i x => ∃ M, M ≤ 10 ∧ x = nI M ∧ (∀ j, j < i → nn S w k f j ≤ M) ∧ (M = 0 ∨ ∃ j, j < i ∧ M = nn S w k f j))
    (fun n x hI => by
      have l : (10 : Int32) ≤ nI 10 := by decide
      simp only [f_X11_ask_L38, s_X11_ask_L38, l, ↓reduceIte, eq_self, n10, not_true_eq_false, not_false_eq_true, true_implies, false_implies, true_and, and_true, implies_true, forall_const, Sum.elim_inl, Sum.elim_inr, and_self]
      exact hI)
    (fun n x i hi hI => by
      obtain ⟨M, m0, rfl, m1, m2⟩ := hI
      have l : ¬ (10 : Int32) ≤ nI i := by rw [i_10]; exact nI_ge hi (by omega)
      obtain ⟨o1, o2⟩ := n51 c1 c3 hw hi k b w0 (nI M) t f tt
      have o2 : f_X11_ask_L51 (fu 0 10) S k b w0 t (nI M) (nI i) 0 0 = nI (nn S w k f i) := o2
      have hle := hnn i
      by_cases q : nn S w k f i ≤ M
      · have q' : nI (nn S w k f i) ≤ nI M := nI_le q (by omega)
        refine Or.inr ⟨nI M, ⟨M, m0, rfl, fun j hj => ?_, ?_⟩, fun ⟨h1, h2⟩ => ?_⟩
        · rcases Nat.lt_or_ge j i with q | q
          · exact m1 j q
          · rw [show j = i by omega]; omega
        · rcases m2 with m2 | ⟨j, j1, j2⟩
          · exact Or.inl m2
          · exact Or.inr ⟨j, by omega, j2⟩
        · dsimp only at h1 h2 ⊢
          simp only [f_X11_ask_L38, s_X11_ask_L38, l, o1, o2, q', nI_1, h1, ↓reduceIte, eq_self, n10, not_true_eq_false, not_false_eq_true, true_implies, false_implies, true_and, and_true, implies_true, forall_const, Sum.elim_inl, Sum.elim_inr, and_self]
          exact h2
      · have q' : ¬ nI (nn S w k f i) ≤ nI M := nI_ge (by omega) (by omega)
        refine Or.inr ⟨nI (nn S w k f i), ⟨_, hle, rfl, fun j hj => ?_, Or.inr ⟨i, by omega, rfl⟩⟩, fun ⟨h1, h2⟩ => ?_⟩
        · rcases Nat.lt_or_ge j i with q | q
          · have := m1 j q; omega
          · rw [show j = i by omega]; exact Nat.le_refl _
        · dsimp only at h1 h2 ⊢
          simp only [f_X11_ask_L38, s_X11_ask_L38, l, o1, o2, q', nI_1, h1, ↓reduceIte, eq_self, n10, not_true_eq_false, not_false_eq_true, true_implies, false_implies, true_and, and_true, implies_true, forall_const, Sum.elim_inl, Sum.elim_inr, and_self]
          exact h2)
    (n := fu 0 10) 0 (by decide) ⟨0, by omega, rfl, fun j hj => absurd hj (by omega), Or.inl rfl⟩
  exact key
theorem sk_kd (k f : Int32) {v : Nat} (hv : v < 10) : ∃ i, i < 19 ∧ sk S k f v = kd9 i := by
  have hb := words_bd S k f (v := v) (by omega)
  unfold sk
  refine ⟨((f_X10_words S k (nI v) f).toInt + 9).toNat, by omega, i_eq ?_⟩
  rw [kd9_i _ (by omega)]
  omega
theorem gp_eq {w : Nat} {k f : Int32} {M N : Nat} (m1 : ∀ i, i < 19 → cs w (sk S k f) (kd9 i) 10 ≤ M) (m2 : M = 0 ∨ ∃ i, i < 19 ∧ M = cs w (sk S k f) (kd9 i) 10) (n1 : ∀ i, i < 10 → nn S w k f i ≤ N) (n2 : N = 0 ∨ ∃ i, i < 10 ∧ N = nn S w k f i) : M = N := by
  have h1 : N ≤ M := by
    rcases n2 with n2 | ⟨i, i1, i2⟩
    · omega
    · rw [i2]
      unfold nn
      split
      · obtain ⟨j, j1, j2⟩ := sk_kd (S := S) k f i1
        rw [j2]
        exact m1 j j1
      · omega
  have h2 : M ≤ N := by
    rcases m2 with m2 | ⟨i, i1, i2⟩
    · omega
    · by_cases z : cs w (sk S k f) (kd9 i) 10 = 0
      · omega
      · obtain ⟨v, v1, v2, v3⟩ := cs_pos (Nat.pos_of_ne_zero z)
        have := n1 v v1
        unfold nn at this
        rw [if_pos v2, v3] at this
        omega
  omega
end AK
theorem op_ask {S : xS} (h : xR S) (p0 : Int32) : s_X10_ask S p0 ∧ s_X11_ask S p0 ∧ f_X10_ask S p0 = (f_X11_ask S p0) ∧ xR S := by
  obtain ⟨-, -, -, ⟨c, c1, c2, c3, c4⟩, -⟩ := id h
  have c5 : ∀ i, i < c → S 20 i = S 133 i ∧ S 21 i = S 134 i ∧ S 22 i = S 135 i := fun i hi => by
    obtain ⟨d1, d2, d3, -⟩ := c4 i hi
    exact ⟨d1, d2, d3⟩
  obtain ⟨s1, w, w1, w2, w3⟩ := fit_ok c1 c2 c5
  obtain ⟨t1, t2, -⟩ := th_ok c1 c3 w3 0
  have i1 : f_X11_in S p0.toInt64 0 2 = f_X10_within S p0 0 2 := in_within S S p0 0 2 rfl rfl
  obtain ⟨a1, A, a2, a3, a4, a5⟩ := gp_ok (S := S) w1 p0 0
  obtain ⟨b1, B, b2, b3, b4, b5⟩ := gp_ok (S := S) w1 p0 1
  have th0 : f_X11_thinks S 0 = nI (cb 10 w) := by
    have g : ¬ f_X11_in S (0 : Int32).toInt64 0 2 = 0 := by rw [in_eq, if_pos ⟨by decide, by decide⟩]; decide
    unfold f_X11_thinks
    dsimp only
    rw [if_neg g, if_pos rfl, t2]
  have hcb := cb_le 10 w
  have d0 := fun b w0 => n38 c1 c3 w3 p0 b w0 0 0 (Or.inr ⟨by decide, rfl⟩)
  have d1 := fun b w0 => n38 c1 c3 w3 p0 b w0 1 1 (Or.inl ⟨rfl, rfl⟩)
  have e0 : ∀ b w0, s_X11_ask_L38 (fu 0 10) S p0 b w0 0 0 0 ∧ f_X11_ask_L38 (fu 0 10) S p0 b w0 0 0 0 = nI A := fun b w0 => by
    obtain ⟨x1, N, x2, x3, x4, x5⟩ := d0 b w0
    rw [gp_eq a4 a5 x4 x5]
    exact ⟨x1, x3⟩
  have e1 : ∀ b w0, s_X11_ask_L38 (fu 0 10) S p0 b w0 1 0 0 ∧ f_X11_ask_L38 (fu 0 10) S p0 b w0 1 0 0 = nI B := fun b w0 => by
    obtain ⟨x1, N, x2, x3, x4, x5⟩ := d1 b w0
    rw [gp_eq b4 b5 x4 x5]
    exact ⟨x1, x3⟩
  have ef : fu 0 2 = ((0 + 1) + 1) + 1 + 1 := by decide
  have l0 : ¬ (2 : Int32) ≤ 0 := by decide
  have l1 : ¬ (2 : Int32) ≤ 1 := by decide
  have l2 : (2 : Int32) ≤ 1 + 1 := by decide
  have z1 : (0 : Int32) + 1 = 1 := by decide
  have m26 : s_X11_ask_L26 (fu 0 2) S p0 (-1) (nI (cb 10 w)) 0 ∧ f_X11_ask_L26 (fu 0 2) S p0 (-1) (nI (cb 10 w)) 0 = if A < cb 10 w then (if B < A then 1 else 0) else (if B < cb 10 w then 1 else -1) := by
    rw [ef]
    by_cases q1 : A < cb 10 w
    · have q1' : ¬ nI (cb 10 w) ≤ nI A := nI_ge q1 (by omega)
      rw [if_pos q1]
      by_cases q2 : B < A
      · have q2' : ¬ nI A ≤ nI B := nI_ge q2 (by omega)
        rw [if_pos q2]
        simp only [f_X11_ask_L26, s_X11_ask_L26, l0, (e0 (-1) (nI (cb 10 w))).1, (e0 (-1) (nI (cb 10 w))).2, q1', z1, l1, (e1 0 (nI A)).1, (e1 0 (nI A)).2, q2', l2, ↓reduceIte, eq_self, n10, not_true_eq_false, not_false_eq_true, true_implies, false_implies, true_and, and_true, implies_true, forall_const, Sum.elim_inl, Sum.elim_inr, and_self]
      · have q2' : nI A ≤ nI B := nI_le (by omega) (by omega)
        rw [if_neg q2]
        simp only [f_X11_ask_L26, s_X11_ask_L26, l0, (e0 (-1) (nI (cb 10 w))).1, (e0 (-1) (nI (cb 10 w))).2, q1', z1, l1, (e1 0 (nI A)).1, (e1 0 (nI A)).2, q2', l2, ↓reduceIte, eq_self, n10, not_true_eq_false, not_false_eq_true, true_implies, false_implies, true_and, and_true, implies_true, forall_const, Sum.elim_inl, Sum.elim_inr, and_self]
    · have q1' : nI (cb 10 w) ≤ nI A := nI_le (by omega) (by omega)
      rw [if_neg q1]
      by_cases q2 : B < cb 10 w
      · have q2' : ¬ nI (cb 10 w) ≤ nI B := nI_ge q2 (by omega)
        rw [if_pos q2]
        simp only [f_X11_ask_L26, s_X11_ask_L26, l0, (e0 (-1) (nI (cb 10 w))).1, (e0 (-1) (nI (cb 10 w))).2, q1', z1, l1, (e1 (-1) (nI (cb 10 w))).1, (e1 (-1) (nI (cb 10 w))).2, q2', l2, ↓reduceIte, eq_self, n10, not_true_eq_false, not_false_eq_true, true_implies, false_implies, true_and, and_true, implies_true, forall_const, Sum.elim_inl, Sum.elim_inr, and_self]
      · have q2' : nI (cb 10 w) ≤ nI B := nI_le (by omega) (by omega)
        rw [if_neg q2]
        simp only [f_X11_ask_L26, s_X11_ask_L26, l0, (e0 (-1) (nI (cb 10 w))).1, (e0 (-1) (nI (cb 10 w))).2, q1', z1, l1, (e1 (-1) (nI (cb 10 w))).1, (e1 (-1) (nI (cb 10 w))).2, q2', l2, ↓reduceIte, eq_self, n10, not_true_eq_false, not_false_eq_true, true_implies, false_implies, true_and, and_true, implies_true, forall_const, Sum.elim_inl, Sum.elim_inr, and_self]
  refine ⟨⟨fun _ => trivial, fun _ => ⟨⟨s1, ?_⟩, trivial⟩⟩, ⟨fun _ => trivial, fun _ => ⟨⟨fun _ => trivial, fun _ => ⟨t1, trivial⟩⟩, ?_⟩⟩, ?_, h⟩
  · dsimp only
    rw [w2]
    exact ⟨a1, b1, trivial⟩
  · dsimp only
    rw [th0]
    exact ⟨m26.1, trivial⟩
  · unfold f_X10_ask f_X11_ask
    dsimp only
    by_cases g : f_X10_within S p0 0 2 = 0
    · rw [if_pos g, if_pos (i1.trans g)]
    · rw [if_neg g, if_neg (by rw [i1]; exact g), th0, m26.2]
      unfold f_X5_bestQuestion
      dsimp only
      rw [w2, a3, b3, bc_eq S w1, cb_pc w w1]
      by_cases q : B < A
      · rw [if_pos (nI_lt q (by omega)), if_neg (nI_ge q (by omega))]
        by_cases q2 : B < cb 10 w
        · rw [if_pos (nI_lt q2 (by omega))]
          by_cases q3 : A < cb 10 w
          · rw [if_pos q3, if_pos q]
          · rw [if_neg q3, if_pos q2]
        · rw [if_neg (nI_nlt (by omega) (by omega)), if_neg (show ¬ A < cb 10 w by omega), if_neg q2]
      · rw [if_neg (nI_nlt (by omega) (by omega)), if_pos (nI_le (by omega) (by omega))]
        by_cases q3 : A < cb 10 w
        · rw [if_pos (nI_lt q3 (by omega)), if_pos q3, if_neg q]
        · rw [if_neg (nI_nlt (by omega) (by omega)), if_neg q3, if_neg (show ¬ B < cb 10 w by omega)]
