/-! thinks, ask -/
/-- a loop whose counter goes up by one from anywhere -/
theorem xl_k {α γ : Type} (κ : Nat → Int32) (F : Nat → α → Int32 → γ) (P : γ → Prop) (N : Nat) (Inv : Nat → α → Prop)
    (h0 : ∀ n a, Inv N a → P (F (n + 1) a (κ N)))
    (h1 : ∀ n a i, i < N → Inv i a → P (F (n + 1) a (κ i)) ∨ ∃ a', Inv (i + 1) a' ∧ (P (F n a' (κ (i + 1))) → P (F (n + 1) a (κ i)))) :
    ∀ d i a n, i + d = N → d + 1 ≤ n → Inv i a → P (F n a (κ i)) := by
  intro d
  induction d with
  | zero =>
    intro i a n hi hn hI
    have hi : i = N := hi
    subst hi
    cases n with
    | zero => exact absurd hn (by omega)
    | succ n => exact h0 n a hI
  | succ d ih =>
    intro i a n hi hn hI
    cases n with
    | zero => exact absurd hn (by omega)
    | succ n =>
      rcases h1 n a i (by omega) hI with h | ⟨a', h2, h3⟩
      · exact h
      · exact h3 (ih (i + 1) a' n (by omega) (by omega) h2)
/-- what is noted at i is so by v -/
def okN (S : xS) (v i : Nat) : Prop := f_X10_words S (S 133 i) (nI v) (if S 135 i = 1 then 1 else 0) = S 134 i
def fitN (S : xS) (c v : Nat) : Prop := ∀ i, i < c → okN S v i
section NT
variable {S : xS}
theorem fits_ok {c : Nat} (c1 : c ≤ 6) (c2 : S 19 3 = nI c) (c4 : ∀ i, i < c → S 20 i = S 133 i ∧ S 21 i = S 134 i ∧ S 22 i = S 135 i) (v : Nat) : s_X5_fits S (nI v) ∧ ((f_X5_fits S (nI v) = 1 ∧ fitN S c v) ∨ (f_X5_fits S (nI v) = 0 ∧ ¬ fitN S c v)) := by
  have key := xl_a0 (α := Unit) (γ := (Int32 ⊕ Unit) × Prop) (fun n _ x => (f_X5_fits_L2 n S (nI v) x, s_X5_fits_L2 n S (nI v) x))
    (fun z => z.2 ∧ ((z.1 = .inr () ∧ fitN S c v) ∨ (z.1 = .inl 0 ∧ ¬ fitN S c v))) c (fun i _ => ∀ j, j < i → okN S v j)
    (fun n a hI => by
      have l : nI c ≤ nI c := nI_le (Nat.le_refl _) (by omega)
      simp only [f_X5_fits_L2, s_X5_fits_L2, c2, l, ↓reduceIte, eq_self, n10, not_true_eq_false, not_false_eq_true, true_implies, false_implies, true_and, and_true, implies_true, forall_const, Sum.elim_inl, Sum.elim_inr, and_self]
      exact Or.inl hI)
    (fun n a i hi hI => by
      have l : ¬ nI c ≤ nI i := nI_ge hi (by omega)
      obtain ⟨d1, d2, d3⟩ := c4 i hi
      have e1 : f_X10_at S 20 (nI i) = S 133 i := by rw [at_in (N := 6) rfl (by omega) (by decide), d1]
      have e2 : f_X10_at S 21 (nI i) = S 134 i := by rw [at_in (N := 6) rfl (by omega) (by decide), d2]
      have e3 : f_X10_at S 22 (nI i) = S 135 i := by rw [at_in (N := 6) rfl (by omega) (by decide), d3]
      have go : okN S v i → ∀ j, j < i + 1 → okN S v j := fun hc j hj => by
        rcases Nat.lt_or_ge j i with q | q
        · exact hI j q
        · rw [show j = i by omega]; exact hc
      by_cases o : okN S v i
      · refine Or.inr ⟨(), go o, fun ⟨h1, h2⟩ => ?_⟩
        dsimp only at h1 h2 ⊢
        unfold okN at o
        by_cases t : S 135 i = 1
        · rw [if_pos t] at o
          simp only [f_X5_fits_L2, s_X5_fits_L2, c2, l, e1, e2, e3, t, o, nI_1, h1, ↓reduceIte, eq_self, n10, not_true_eq_false, not_false_eq_true, true_implies, false_implies, true_and, and_true, implies_true, forall_const, Sum.elim_inl, Sum.elim_inr, and_self]
          exact h2
        · rw [if_neg t] at o
          simp only [f_X5_fits_L2, s_X5_fits_L2, c2, l, e1, e2, e3, t, o, nI_1, h1, ↓reduceIte, eq_self, n10, not_true_eq_false, not_false_eq_true, true_implies, false_implies, true_and, and_true, implies_true, forall_const, Sum.elim_inl, Sum.elim_inr, and_self]
          exact h2
      · left
        have hno : ¬ fitN S c v := fun h => o (h i hi)
        unfold okN at o
        by_cases t : S 135 i = 1
        · rw [if_pos t] at o
          simp only [f_X5_fits_L2, s_X5_fits_L2, c2, l, e1, e2, e3, t, o, ↓reduceIte, eq_self, n10, not_true_eq_false, not_false_eq_true, true_implies, false_implies, true_and, and_true, implies_true, forall_const, Sum.elim_inl, Sum.elim_inr, and_self]
          exact Or.inr hno
        · rw [if_neg t] at o
          simp only [f_X5_fits_L2, s_X5_fits_L2, c2, l, e1, e2, e3, t, o, ↓reduceIte, eq_self, n10, not_true_eq_false, not_false_eq_true, true_implies, false_implies, true_and, and_true, implies_true, forall_const, Sum.elim_inl, Sum.elim_inr, and_self]
          exact Or.inr hno)
    (n := fu 0 (nI c)) () (by rw [fu_0 (by omega)]; omega) (fun j hj => absurd hj (by omega))
  rw [← c2] at key
  refine ⟨⟨key.1, fun _ _ => trivial⟩, ?_⟩
  unfold f_X5_fits
  rcases key.2 with ⟨a, b⟩ | ⟨a, b⟩
  · dsimp only at a
    rw [a]
    exact Or.inl ⟨rfl, b⟩
  · dsimp only at a
    rw [a]
    exact Or.inr ⟨rfl, b⟩
theorem so_ok {c : Nat} (c1 : c ≤ 6) (c3 : S 127 11 = nI c) (v : Nat) : s_X11_isSo S (nI v) ∧ ((f_X11_isSo S (nI v) = 1 ∧ fitN S c v) ∨ (f_X11_isSo S (nI v) = 0 ∧ ¬ fitN S c v)) := by
  have key := xl_a0 (α := Int32) (γ := Int32 × Prop) (fun n a x => (f_X11_isSo_L4 n S (nI v) a x, s_X11_isSo_L4 n S (nI v) a x))
    (fun z => z.2 ∧ ((z.1 = 1 ∧ fitN S c v) ∨ (z.1 = 0 ∧ ¬ fitN S c v))) c (fun i a => (a = 1 ∧ ∀ j, j < i → okN S v j) ∨ (a = 0 ∧ ¬ fitN S c v))
    (fun n a hI => by
      have l : nI c ≤ nI c := nI_le (Nat.le_refl _) (by omega)
      simp only [f_X11_isSo_L4, s_X11_isSo_L4, c3, l, ↓reduceIte, eq_self, n10, not_true_eq_false, not_false_eq_true, true_implies, false_implies, true_and, and_true, implies_true, forall_const, Sum.elim_inl, Sum.elim_inr, and_self]
      exact hI)
    (fun n a i hi hI => by
      have l : ¬ nI c ≤ nI i := nI_ge hi (by omega)
      have v1 : vp_in (nI i) 6 := vp_in_nI (by omega) (by decide)
      rcases hI with ⟨rfl, hI⟩ | ⟨rfl, hI⟩
      · have go : okN S v i → ∀ j, j < i + 1 → okN S v j := fun hc j hj => by
          rcases Nat.lt_or_ge j i with q | q
          · exact hI j q
          · rw [show j = i by omega]; exact hc
        by_cases o : okN S v i
        · refine Or.inr ⟨1, Or.inl ⟨rfl, go o⟩, fun ⟨h1, h2⟩ => ?_⟩
          dsimp only at h1 h2 ⊢
          unfold okN at o
          by_cases t : S 135 i = 1
          · rw [if_pos t] at o
            simp only [f_X11_isSo_L4, s_X11_isSo_L4, words_eq _ S, c3, l, cn (show i < 1000000 by omega), v1, t, o, nI_1, h1, ↓reduceIte, eq_self, n10, not_true_eq_false, not_false_eq_true, true_implies, false_implies, true_and, and_true, implies_true, forall_const, Sum.elim_inl, Sum.elim_inr, and_self]
            exact h2
          · rw [if_neg t] at o
            simp only [f_X11_isSo_L4, s_X11_isSo_L4, words_eq _ S, c3, l, cn (show i < 1000000 by omega), v1, t, o, nI_1, h1, ↓reduceIte, eq_self, n10, not_true_eq_false, not_false_eq_true, true_implies, false_implies, true_and, and_true, implies_true, forall_const, Sum.elim_inl, Sum.elim_inr, and_self]
            exact h2
        · refine Or.inr ⟨0, Or.inr ⟨rfl, fun h => o (h i hi)⟩, fun ⟨h1, h2⟩ => ?_⟩
          dsimp only at h1 h2 ⊢
          unfold okN at o
          by_cases t : S 135 i = 1
          · rw [if_pos t] at o
            simp only [f_X11_isSo_L4, s_X11_isSo_L4, words_eq _ S, c3, l, cn (show i < 1000000 by omega), v1, t, o, nI_1, h1, ↓reduceIte, eq_self, n10, not_true_eq_false, not_false_eq_true, true_implies, false_implies, true_and, and_true, implies_true, forall_const, Sum.elim_inl, Sum.elim_inr, and_self]
            exact h2
          · rw [if_neg t] at o
            simp only [f_X11_isSo_L4, s_X11_isSo_L4, words_eq _ S, c3, l, cn (show i < 1000000 by omega), v1, t, o, nI_1, h1, ↓reduceIte, eq_self, n10, not_true_eq_false, not_false_eq_true, true_implies, false_implies, true_and, and_true, implies_true, forall_const, Sum.elim_inl, Sum.elim_inr, and_self]
            exact h2
      · refine Or.inr ⟨0, Or.inr ⟨rfl, hI⟩, fun ⟨h1, h2⟩ => ?_⟩
        dsimp only at h1 h2 ⊢
        simp only [f_X11_isSo_L4, s_X11_isSo_L4, c3, l, nI_1, h1, ↓reduceIte, eq_self, n10, not_true_eq_false, not_false_eq_true, true_implies, false_implies, true_and, and_true, implies_true, forall_const, Sum.elim_inl, Sum.elim_inr, and_self]
        exact h2)
    (n := fu 0 (nI c)) 1 (by rw [fu_0 (by omega)]; omega) (Or.inl ⟨rfl, fun j hj => absurd hj (by omega)⟩)
  rw [← c3] at key
  obtain ⟨k1, k2⟩ := key
  dsimp only at k1 k2
  exact ⟨⟨k1, k2.elim (fun h => Or.inr h.1) (fun h => Or.inl h.1), trivial⟩, k2⟩
theorem i_9 : (9 : Int32) = nI 9 := rfl
theorem i_10 : (10 : Int32) = nI 10 := rfl
theorem fit_ok {c : Nat} (c1 : c ≤ 6) (c2 : S 19 3 = nI c) (c4 : ∀ i, i < c → S 20 i = S 133 i ∧ S 21 i = S 134 i ∧ S 22 i = S 135 i) : s_X5_fitting S ∧ ∃ w, w < 1024 ∧ f_X5_fitting S = nI w ∧ ∀ v, w.testBit v = true ↔ (v < 10 ∧ fitN S c v) := by
  have key := xl_a0 (α := Int32) (γ := Int32 × Prop) (fun n a x => (f_X5_fitting_L4 n S a x, s_X5_fitting_L4 n S a x))
    (fun z => z.2 ∧ ∃ w, w < 2 ^ 10 ∧ z.1 = nI w ∧ ∀ v, w.testBit v = true ↔ (v < 10 ∧ fitN S c v)) 10 (fun i a => ∃ w, w < 2 ^ 10 ∧ a = nI w ∧ ∀ v, w.testBit v = true ↔ (v < i ∧ fitN S c v))
    (fun n a hI => by
      have l : (9 : Int32) < nI 10 := by decide
      simp only [f_X5_fitting_L4, s_X5_fitting_L4, l, ↓reduceIte, eq_self, n10, not_true_eq_false, not_false_eq_true, true_implies, false_implies, true_and, and_true, implies_true, forall_const, Sum.elim_inl, Sum.elim_inr, and_self]
      exact hI)
    (fun n a i hi hI => by
      obtain ⟨w, w1, rfl, w2⟩ := hI
      have l : ¬ (9 : Int32) < nI i := by rw [i_9]; exact nI_nlt (by omega) (by omega)
      obtain ⟨o1, o2⟩ := fits_ok c1 c2 c4 i
      rcases o2 with ⟨o2, o3⟩ | ⟨o2, o3⟩
      · refine Or.inr ⟨nI (w ||| 2 ^ i), ⟨_, or_lt w1 (pw_lt hi), rfl, fun v => ?_⟩, fun ⟨h1, h2⟩ => ?_⟩
        · rw [tb_or, Bool.or_eq_true, w2, decide_eq_true_eq]
          constructor
          · rintro (⟨h1, h2⟩ | h)
            · exact ⟨by omega, h2⟩
            · subst h; exact ⟨by omega, o3⟩
          · rintro ⟨h1, h2⟩
            by_cases q : i = v
            · exact Or.inr q
            · exact Or.inl ⟨by omega, h2⟩
        · dsimp only at h1 h2 ⊢
          simp only [f_X5_fitting_L4, s_X5_fitting_L4, l, o1, o2, bit_k S (show i ≤ 30 by omega), fa_or, nI_1, h1, ↓reduceIte, eq_self, n10, not_true_eq_false, not_false_eq_true, true_implies, false_implies, true_and, and_true, implies_true, forall_const, Sum.elim_inl, Sum.elim_inr, and_self]
          exact h2
      · refine Or.inr ⟨nI w, ⟨w, w1, rfl, fun v => ?_⟩, fun ⟨h1, h2⟩ => ?_⟩
        · rw [w2]
          constructor
          · rintro ⟨h1, h2⟩
            exact ⟨by omega, h2⟩
          · rintro ⟨h1, h2⟩
            by_cases q : v = i
            · subst q; exact absurd h2 o3
            · exact ⟨by omega, h2⟩
        · dsimp only at h1 h2 ⊢
          simp only [f_X5_fitting_L4, s_X5_fitting_L4, l, o1, o2, or_z, nI_1, h1, ↓reduceIte, eq_self, n10, not_true_eq_false, not_false_eq_true, true_implies, false_implies, true_and, and_true, implies_true, forall_const, Sum.elim_inl, Sum.elim_inr, and_self]
          exact h2)
    (n := fu 0 9) 0 (by decide) ⟨0, by decide, rfl, fun v => by simp⟩
  exact ⟨⟨key.1, trivial⟩, key.2⟩
theorem cb_pc : ∀ w, w < 1024 → pc w = cb 10 w := by
  have h : ∀ w : Fin 1024, pc w.val = cb 10 w.val := by decide +kernel
  exact fun w hw => h ⟨w, hw⟩
/-- many, least, most of the first i -/
def mlm (w i : Nat) (m l g : Int32) : Prop := m = nI (cb i w) ∧ ((cb i w = 0 ∧ l = -1 ∧ g = -1 ∧ ∀ j, j < i → ¬ w.testBit j = true) ∨ (0 < cb i w ∧ ∃ a b, l = nI a ∧ g = nI b ∧ a < i ∧ b < i ∧ w.testBit a = true ∧ w.testBit b = true ∧ (∀ j, j < a → ¬ w.testBit j = true) ∧ ∀ j, b < j → j < i → ¬ w.testBit j = true))
theorem th_ok {c w : Nat} (c1 : c ≤ 6) (c3 : S 127 11 = nI c) (hw : ∀ v, w.testBit v = true ↔ (v < 10 ∧ fitN S c v)) (p0 : Int32) : s_X11_thinks_L25 (fu 0 10) S p0 0 (-1) (-1) 0 ∧ mlm w 10 (f_X11_thinks_L25 (fu 0 10) S p0 0 (-1) (-1) 0).1 (f_X11_thinks_L25 (fu 0 10) S p0 0 (-1) (-1) 0).2.1 (f_X11_thinks_L25 (fu 0 10) S p0 0 (-1) (-1) 0).2.2 := by
  have key := xl_a0 (α := Int32 × Int32 × Int32) (γ := (Int32 × Int32 × Int32) × Prop) (fun n a x => (f_X11_thinks_L25 n S p0 a.1 a.2.1 a.2.2 x, s_X11_thinks_L25 n S p0 a.1 a.2.1 a.2.2 x))
    (fun z => z.2 ∧ mlm w 10 z.1.1 z.1.2.1 z.1.2.2) 10 (fun i a => mlm w i a.1 a.2.1 a.2.2)
    (fun n a hI => by
      have l : (10 : Int32) ≤ nI 10 := by decide
      simp only [f_X11_thinks_L25, s_X11_thinks_L25, l, ↓reduceIte, eq_self, n10, not_true_eq_false, not_false_eq_true, true_implies, false_implies, true_and, and_true, implies_true, forall_const, Sum.elim_inl, Sum.elim_inr, and_self]
      exact hI)
    (fun n a i hi hI => by
      obtain ⟨m, l0, g⟩ := a
      have hJ : mlm w i m l0 g := hI
      clear hI
      have l : ¬ (10 : Int32) ≤ nI i := by rw [i_10]; exact nI_ge hi (by omega)
      obtain ⟨o1, o2⟩ := so_ok c1 c3 i
      obtain ⟨rfl, hI⟩ := hJ
      have hle := cb_le i w
      have ecb : cb (i + 1) w = cb i w + if w.testBit i = true then 1 else 0 := rfl
      rcases o2 with ⟨o2, o3⟩ | ⟨o2, o3⟩
      · have hb : w.testBit i = true := (hw i).mpr ⟨hi, o3⟩
        rw [if_pos hb] at ecb
        rcases hI with ⟨z0, rfl, rfl, z3⟩ | ⟨z0, a, b, rfl, rfl, a1, a2, a3, a4, a5, a6⟩
        · have e0 : nI (cb i w) = (0 : Int32) := by rw [z0]; rfl
          refine Or.inr ⟨(nI (cb (i + 1) w), nI i, nI i), ⟨rfl, Or.inr ⟨by omega, i, i, rfl, rfl, by omega, by omega, hb, hb, z3, fun j h1 h2 => absurd h2 (by omega)⟩⟩, fun ⟨h1, h2⟩ => ?_⟩
          dsimp only at h1 h2 ⊢
          rw [ecb, ← nI_1, e0] at h1 h2
          simp only [f_X11_thinks_L25, s_X11_thinks_L25, l, o1, o2, e0, nI_1, h1, ↓reduceIte, eq_self, n10, not_true_eq_false, not_false_eq_true, true_implies, false_implies, true_and, and_true, implies_true, forall_const, Sum.elim_inl, Sum.elim_inr, and_self]
          exact h2
        · have e0 : ¬ nI (cb i w) = (0 : Int32) := nI_ne0 z0 (by omega)
          refine Or.inr ⟨(nI (cb (i + 1) w), nI a, nI i), ⟨rfl, Or.inr ⟨by omega, a, i, rfl, rfl, by omega, by omega, a3, hb, a5, fun j h1 h2 => absurd h2 (by omega)⟩⟩, fun ⟨h1, h2⟩ => ?_⟩
          dsimp only at h1 h2 ⊢
          rw [ecb] at h1 h2
          simp only [f_X11_thinks_L25, s_X11_thinks_L25, l, o1, o2, e0, nI_1, h1, ↓reduceIte, eq_self, n10, not_true_eq_false, not_false_eq_true, true_implies, false_implies, true_and, and_true, implies_true, forall_const, Sum.elim_inl, Sum.elim_inr, and_self]
          exact h2
      · have hb : ¬ w.testBit i = true := fun h => o3 ((hw i).mp h).2
        rw [if_neg hb, Nat.add_zero] at ecb
        refine Or.inr ⟨(nI (cb (i + 1) w), l0, g), ⟨rfl, ?_⟩, fun ⟨h1, h2⟩ => ?_⟩
        · rcases hI with ⟨z0, z1, z2, z3⟩ | ⟨z0, a, b, z1, z2, a1, a2, a3, a4, a5, a6⟩
          · refine Or.inl ⟨by omega, z1, z2, fun j hj => ?_⟩
            rcases Nat.lt_or_ge j i with q | q
            · exact z3 j q
            · rw [show j = i by omega]; exact hb
          · refine Or.inr ⟨by omega, a, b, z1, z2, by omega, by omega, a3, a4, a5, fun j h1 h2 => ?_⟩
            rcases Nat.lt_or_ge j i with q | q
            · exact a6 j h1 q
            · rw [show j = i by omega]; exact hb
        · dsimp only at h1 h2 ⊢
          rw [ecb] at h1 h2
          simp only [f_X11_thinks_L25, s_X11_thinks_L25, l, o1, o2, nI_1, ↓reduceIte, eq_self, n10, not_true_eq_false, not_false_eq_true, true_implies, false_implies, true_and, and_true, implies_true, forall_const, Sum.elim_inl, Sum.elim_inr, and_self]
          exact ⟨h1, h2⟩)
    (n := fu 0 10) (0, -1, -1) (by decide) ⟨rfl, Or.inl ⟨rfl, rfl, rfl, fun j hj => absurd hj (by omega)⟩⟩
  exact key
theorem least_ok {w : Nat} (hw : w < 1024) : s_X5_leastFitting_L7 (fu 0 9) S (nI w) 0 ∧ ((∃ a, a < 10 ∧ f_X5_leastFitting_L7 (fu 0 9) S (nI w) 0 = .inl (nI a) ∧ w.testBit a = true ∧ ∀ j, j < a → ¬ w.testBit j = true) ∨ (f_X5_leastFitting_L7 (fu 0 9) S (nI w) 0 = .inr () ∧ ∀ j, j < 10 → ¬ w.testBit j = true)) := by
  have key := xl_a0 (α := Unit) (γ := (Int32 ⊕ Unit) × Prop) (fun n _ x => (f_X5_leastFitting_L7 n S (nI w) x, s_X5_leastFitting_L7 n S (nI w) x))
    (fun z => z.2 ∧ ((∃ a, a < 10 ∧ z.1 = .inl (nI a) ∧ w.testBit a = true ∧ ∀ j, j < a → ¬ w.testBit j = true) ∨ (z.1 = .inr () ∧ ∀ j, j < 10 → ¬ w.testBit j = true))) 10 (fun i _ => ∀ j, j < i → ¬ w.testBit j = true)
    (fun n a hI => by
      have l : (9 : Int32) < nI 10 := by decide
      simp only [f_X5_leastFitting_L7, s_X5_leastFitting_L7, l, ↓reduceIte, eq_self, n10, not_true_eq_false, not_false_eq_true, true_implies, false_implies, true_and, and_true, implies_true, forall_const, Sum.elim_inl, Sum.elim_inr, and_self]
      exact Or.inr hI)
    (fun n a i hi hI => by
      have l : ¬ (9 : Int32) < nI i := by rw [i_9]; exact nI_nlt (by omega) (by omega)
      have e := has_k1 S (w := w) (k := i) (by omega) (by omega)
      by_cases c : w.testBit i = true
      · left
        rw [if_pos c] at e
        simp only [f_X5_leastFitting_L7, s_X5_leastFitting_L7, l, e, ↓reduceIte, eq_self, n10, not_true_eq_false, not_false_eq_true, true_implies, false_implies, true_and, and_true, implies_true, forall_const, Sum.elim_inl, Sum.elim_inr, and_self]
        exact Or.inl ⟨i, hi, rfl, c, hI⟩
      · rw [if_neg c] at e
        refine Or.inr ⟨(), fun j hj => ?_, fun ⟨h1, h2⟩ => ?_⟩
        · rcases Nat.lt_or_ge j i with q | q
          · exact hI j q
          · rw [show j = i by omega]; exact c
        · dsimp only at h1 h2 ⊢
          simp only [f_X5_leastFitting_L7, s_X5_leastFitting_L7, l, e, nI_1, h1, ↓reduceIte, eq_self, n10, not_true_eq_false, not_false_eq_true, true_implies, false_implies, true_and, and_true, implies_true, forall_const, Sum.elim_inl, Sum.elim_inr, and_self]
          exact h2)
    (n := fu 0 9) () (by decide) (fun j hj => absurd hj (by omega))
  exact key
theorem greatest_ok {w : Nat} (hw : w < 1024) : s_X5_greatestFitting_L8 (fd 9) S (nI w) 9 ∧ ((∃ a, a < 10 ∧ f_X5_greatestFitting_L8 (fd 9) S (nI w) 9 = .inl (nI a) ∧ w.testBit a = true ∧ ∀ j, a < j → j < 10 → ¬ w.testBit j = true) ∨ (f_X5_greatestFitting_L8 (fd 9) S (nI w) 9 = .inr () ∧ ∀ j, j < 10 → ¬ w.testBit j = true)) := by
  have key := xl_d (α := Unit) (γ := (Int32 ⊕ Unit) × Prop) (fun n _ x => (f_X5_greatestFitting_L8 n S (nI w) x, s_X5_greatestFitting_L8 n S (nI w) x))
    (fun z => z.2 ∧ ((∃ a, a < 10 ∧ z.1 = .inl (nI a) ∧ w.testBit a = true ∧ ∀ j, a < j → j < 10 → ¬ w.testBit j = true) ∨ (z.1 = .inr () ∧ ∀ j, j < 10 → ¬ w.testBit j = true))) (fun i _ => i ≤ 10 ∧ ∀ j, i ≤ j → j < 10 → ¬ w.testBit j = true)
    (fun n a hI => by
      have l : (-1 : Int32) < 0 := by decide
      simp only [f_X5_greatestFitting_L8, s_X5_greatestFitting_L8, l, ↓reduceIte, eq_self, n10, not_true_eq_false, not_false_eq_true, true_implies, false_implies, true_and, and_true, implies_true, forall_const, Sum.elim_inl, Sum.elim_inr, and_self]
      exact Or.inr (fun j hj => hI.2 j (by omega) hj))
    (fun n a i hI => by
      obtain ⟨hi, hI⟩ := hI
      have l : ¬ nI i < 0 := nI_pos (by omega)
      have e := has_k1 S (w := w) (k := i) (by omega) (by omega)
      by_cases c : w.testBit i = true
      · left
        rw [if_pos c] at e
        simp only [f_X5_greatestFitting_L8, s_X5_greatestFitting_L8, l, e, ↓reduceIte, eq_self, n10, not_true_eq_false, not_false_eq_true, true_implies, false_implies, true_and, and_true, implies_true, forall_const, Sum.elim_inl, Sum.elim_inr, and_self]
        exact Or.inl ⟨i, by omega, rfl, c, fun j h1 h2 => hI j (by omega) h2⟩
      · rw [if_neg c] at e
        refine Or.inr ⟨(), ⟨by omega, fun j h1 h2 => ?_⟩, fun ⟨h1, h2⟩ => ?_⟩
        · rcases Nat.lt_or_ge i j with q | q
          · exact hI j (by omega) h2
          · rw [show j = i by omega]; exact c
        · dsimp only at h1 h2 ⊢
          simp only [f_X5_greatestFitting_L8, s_X5_greatestFitting_L8, l, e, h1, ↓reduceIte, eq_self, n10, not_true_eq_false, not_false_eq_true, true_implies, false_implies, true_and, and_true, implies_true, forall_const, Sum.elim_inl, Sum.elim_inr, and_self]
          exact h2)
    10 () (fd 9) (by decide) ⟨by omega, fun j h1 h2 => absurd h2 (by omega)⟩
  have e9 : nI 10 + (-1) = (9 : Int32) := by decide
  rw [e9] at key
  exact key
end NT
theorem op_thinks {S : xS} (h : xR S) (p0 : Int32) : s_X10_thinks S p0 ∧ s_X11_thinks S p0 ∧ f_X10_thinks S p0 = (f_X11_thinks S p0) ∧ xR S := by
  obtain ⟨-, -, -, ⟨c, c1, c2, c3, c4⟩, -⟩ := id h
  have c5 : ∀ i, i < c → S 20 i = S 133 i ∧ S 21 i = S 134 i ∧ S 22 i = S 135 i := fun i hi => by
    obtain ⟨d1, d2, d3, -⟩ := c4 i hi
    exact ⟨d1, d2, d3⟩
  obtain ⟨s1, w, w1, w2, w3⟩ := fit_ok c1 c2 c5
  obtain ⟨t1, t2⟩ := th_ok c1 c3 w3 p0
  obtain ⟨l1, l2⟩ := least_ok (S := S) w1
  obtain ⟨g1, g2⟩ := greatest_ok (S := S) w1
  have i1 : f_X11_in S p0.toInt64 0 2 = f_X10_within S p0 0 2 := in_within S S p0 0 2 rfl rfl
  have sL : s_X5_leastFitting S := ⟨s1, by dsimp only; rw [w2]; exact ⟨l1, fun _ _ => trivial⟩⟩
  have sG : s_X5_greatestFitting S := ⟨s1, by dsimp only; rw [w2]; exact ⟨g1, fun _ _ => trivial⟩⟩
  refine ⟨⟨fun _ => ⟨s1, trivial⟩, fun _ => ⟨fun _ => ⟨sL, trivial⟩, fun _ => ⟨fun _ => ⟨sG, trivial⟩, fun _ => trivial⟩⟩⟩, ⟨fun _ => trivial, fun _ => ⟨t1, trivial⟩⟩, ?_, h⟩
  obtain ⟨m1, m2⟩ := t2
  by_cases g : f_X10_within S p0 0 2 = 0
  · have e' : f_X11_thinks S p0 = -1000000002 := by unfold f_X11_thinks; dsimp only; rw [if_pos (i1.trans g)]
    rw [e']
    have n0 : ¬ p0 = 0 := fun e => by rw [e, within_eq, if_pos ⟨by decide, by decide⟩] at g; exact absurd g (by decide)
    have n1 : ¬ p0 = 1 := fun e => by rw [e, within_eq, if_pos ⟨by decide, by decide⟩] at g; exact absurd g (by decide)
    have n2 : ¬ p0 = 2 := fun e => by rw [e, within_eq, if_pos ⟨by decide, by decide⟩] at g; exact absurd g (by decide)
    unfold f_X10_thinks
    rw [if_neg n0, if_neg n1, if_neg n2]
  · have g' : ¬ f_X11_in S p0.toInt64 0 2 = 0 := by rw [i1]; exact g
    obtain ⟨n, -, hn, rfl⟩ := wi_of (a := 0) (b := 2) (by omega) (by omega) g
    have hn3 : n = 0 ∨ n = 1 ∨ n = 2 := by omega
    unfold f_X10_thinks f_X11_thinks
    dsimp only
    rw [if_neg g']
    rcases hn3 with rfl | rfl | rfl
    · rw [if_pos (show nI 0 = (0 : Int32) from rfl), if_pos (show nI 0 = (0 : Int32) from rfl), m1, w2, bc_eq S w1, cb_pc w w1]
    · have n0 : ¬ nI 1 = (0 : Int32) := by decide
      rw [if_neg n0, if_neg n0, if_pos (show nI 1 = (1 : Int32) from rfl), if_pos (show nI 1 = (1 : Int32) from rfl)]
      unfold f_X5_leastFitting
      dsimp only
      rw [w2]
      rcases l2 with ⟨a, a1, a2, a3, a4⟩ | ⟨a2, a4⟩
      · rw [a2]
        rcases m2 with ⟨z0, z1, z2, z3⟩ | ⟨z0, b, d, z1, z2, b1, b2, b3, b4, b5, b6⟩
        · exact absurd a3 (z3 a a1)
        · rw [z1]
          have e : a = b := by
            rcases Nat.lt_or_ge a b with q | q
            · exact absurd a3 (b5 a q)
            · rcases Nat.lt_or_ge b a with q2 | q2
              · exact absurd b3 (a4 b q2)
              · omega
          rw [e]
          rfl
      · rw [a2]
        rcases m2 with ⟨z0, z1, z2, z3⟩ | ⟨z0, b, d, z1, z2, b1, b2, b3, b4, b5, b6⟩
        · rw [z1]; rfl
        · exact absurd b3 (a4 b b1)
    · have n0 : ¬ nI 2 = (0 : Int32) := by decide
      have n1 : ¬ nI 2 = (1 : Int32) := by decide
      rw [if_neg n0, if_neg n0, if_neg n1, if_neg n1, if_pos (show nI 2 = (2 : Int32) from rfl)]
      unfold f_X5_greatestFitting
      dsimp only
      rw [w2]
      rcases g2 with ⟨a, a1, a2, a3, a4⟩ | ⟨a2, a4⟩
      · rw [a2]
        rcases m2 with ⟨z0, z1, z2, z3⟩ | ⟨z0, b, d, z1, z2, b1, b2, b3, b4, b5, b6⟩
        · exact absurd a3 (z3 a a1)
        · rw [z2]
          have e : a = d := by
            rcases Nat.lt_or_ge a d with q | q
            · exact absurd b4 (a4 d q b2)
            · rcases Nat.lt_or_ge d a with q2 | q2
              · exact absurd a3 (b6 a q2 a1)
              · omega
          rw [e]
          rfl
      · rw [a2]
        rcases m2 with ⟨z0, z1, z2, z3⟩ | ⟨z0, b, d, z1, z2, b1, b2, b3, b4, b5, b6⟩
        · rw [z2]; rfl
        · exact absurd b4 (a4 d b2)
