/-! carried -/
section KN
variable {S : xS} {R P : Nat}
theorem pin_ok (hh : xRh S R P) (hk : xRk S 32 131 0) (hv : xRv S R P 131 0) {w : Nat} (hw : w < 2 ^ 6) : s_X4_personsIn S (nI w) ∧ ∃ u, u < 2 ^ P ∧ f_X4_personsIn S (nI w) = nI u ∧ ∀ q, u.testBit q = (decide (q < P) && w.testBit (rmN S 131 q)) := by
  have hP := xhP hh
  have hR := xhR hh
  have key := xl_a0 (α := Int32) (γ := Int32 × Prop) (fun n a x => (f_X4_personsIn_L4 n S (nI w) a x, s_X4_personsIn_L4 n S (nI w) a x))
    (fun z => z.2 ∧ ∃ u, u < 2 ^ P ∧ z.1 = nI u ∧ ∀ q, u.testBit q = (decide (q < P) && w.testBit (rmN S 131 q))) P
    (fun i a => ∃ u, u < 2 ^ P ∧ a = nI u ∧ ∀ q, u.testBit q = (decide (q < i) && w.testBit (rmN S 131 q)))
    (fun n a hI => by
      simp only [f_X4_personsIn_L4, s_X4_personsIn_L4, le_9 hh, ↓reduceIte, eq_self, n10, not_true_eq_false, not_false_eq_true, true_implies, false_implies, true_and, and_true, implies_true, forall_const, Sum.elim_inl, Sum.elim_inr, and_self]
      exact hI)
    (fun n a i hi hI => by
      obtain ⟨u, u1, rfl, u2⟩ := hI
      obtain ⟨a1, a2⟩ := rm_of hR hv hi
      have e2 := has_k1 S (w := w) (k := rmN S 131 i) (by omega) (by omega)
      by_cases c : w.testBit (rmN S 131 i) = true
      · rw [if_pos c] at e2
        refine Or.inr ⟨nI (u ||| 2 ^ i), ⟨u ||| 2 ^ i, or_lt u1 (pw_lt hi), rfl, fun q => ?_⟩, fun ⟨h1, h2⟩ => ?_⟩
        · rw [tb_or, u2]
          by_cases q1 : q < i
          · have q2 : q < i + 1 := by omega
            have q3 : ¬ i = q := by omega
            simp [q1, q2, q3]
          · by_cases q2 : i = q
            · subst q2
              simp [c]
            · have q3 : ¬ q < i + 1 := by omega
              simp [q1, q2, q3]
        · dsimp only at h1 h2 ⊢
          simp only [f_X4_personsIn_L4, s_X4_personsIn_L4, nle_9 hh hi, at_rm hh hk hv hi, e2, bit_k S (show i ≤ 30 by omega), fa_or, nI_1, h1, ↓reduceIte, eq_self, n10, not_true_eq_false, not_false_eq_true, true_implies, false_implies, true_and, and_true, implies_true, forall_const, Sum.elim_inl, Sum.elim_inr, and_self]
          exact h2
      · rw [if_neg c] at e2
        refine Or.inr ⟨nI u, ⟨u, u1, rfl, fun q => ?_⟩, fun ⟨h1, h2⟩ => ?_⟩
        · rw [u2]
          by_cases q1 : q < i
          · have q2 : q < i + 1 := by omega
            simp [q1, q2]
          · by_cases q2 : q = i
            · subst q2
              simp [c]
            · have q3 : ¬ q < i + 1 := by omega
              simp [q1, q3]
        · dsimp only at h1 h2 ⊢
          simp only [f_X4_personsIn_L4, s_X4_personsIn_L4, nle_9 hh hi, at_rm hh hk hv hi, e2, nI_1, h1, ↓reduceIte, eq_self, n10, not_true_eq_false, not_false_eq_true, true_implies, false_implies, true_and, and_true, implies_true, forall_const, Sum.elim_inl, Sum.elim_inr, and_self]
          exact h2)
    0 (fu_9 hh) ⟨0, Nat.pow_pos (by decide), rfl, fun q => by simp⟩
  exact ⟨⟨key.1, trivial⟩, key.2⟩
/-- q hears p -/
def Hp (S : xS) (p q : Nat) : Prop := rmN S 131 p = rmN S 131 q ∨ (hdN S (rmN S 131 p)).testBit (rmN S 131 q) = true
theorem Hp_eq (hh : xRh S R P) (hv : xRv S R P 131 0) {p q : Nat} (hp : p < P) (hq : q < P) : (Hp S p q ∧ f_X11_hears S 131 (nI p) (nI q) = 1) ∨ (¬ Hp S p q ∧ f_X11_hears S 131 (nI p) (nI q) = 0) := by
  have hP := xhP hh
  have hR := xhR hh
  obtain ⟨a1, a2⟩ := rm_of hR hv hp
  obtain ⟨b1, b2⟩ := rm_of hR hv hq
  obtain ⟨d1, d2⟩ := hd_of hh a1
  have e := hears_eq (S := S) (k0 := 131) (p := p) (q := q) (by omega) (by omega) (show rmN S 131 p < 6 by omega) (show rmN S 131 q < 6 by omega) (xhA hh (by omega)).1 a2 b2
  rw [reaches_eq (by omega) (by omega) (xhA hh (by omega)).1, d2, has_k S (p31 d1 (by omega)) (by omega)] at e
  unfold Hp
  by_cases c1 : rmN S 131 p = rmN S 131 q
  · rw [if_pos c1] at e
    exact Or.inl ⟨Or.inl c1, e⟩
  · rw [if_neg c1] at e
    by_cases c2 : (hdN S (rmN S 131 p)).testBit (rmN S 131 q) = true
    · rw [if_pos c2, if_neg (by decide)] at e
      exact Or.inl ⟨Or.inr c2, e⟩
    · rw [if_neg c2, if_pos rfl] at e
      exact Or.inr ⟨fun h => h.elim c1 c2, e⟩
theorem spread_ok (hh : xRh S R P) (hk : xRk S 32 131 0) (hv : xRv S R P 131 0) {w : Nat} (hw : w < 2 ^ P) : s_X9_spread S (nI w) ∧ ∃ u, u < 2 ^ P ∧ f_X9_spread S (nI w) = nI u ∧ ∀ q, u.testBit q = true ↔ (w.testBit q = true ∨ (q < P ∧ ∃ p, p < P ∧ w.testBit p = true ∧ Hp S p q)) := by
  have hP := xhP hh
  have hR := xhR hh
  have hw2 := p31 hw (by omega)
  have h26 : (2 : Nat) ^ R ≤ 2 ^ 6 := Nat.pow_le_pow_right (by decide) hR
  have key := xl_a0 (α := Int32) (γ := Int32 × Prop) (fun n a x => (f_X9_spread_L4 n S (nI w) a x, s_X9_spread_L4 n S (nI w) a x))
    (fun z => z.2 ∧ ∃ u, u < 2 ^ R ∧ z.1 = nI u ∧ ∀ r, u.testBit r = true ↔ ∃ p, p < P ∧ w.testBit p = true ∧ (rmN S 131 p = r ∨ (hdN S (rmN S 131 p)).testBit r = true)) P
    (fun i a => ∃ u, u < 2 ^ R ∧ a = nI u ∧ ∀ r, u.testBit r = true ↔ ∃ p, p < i ∧ w.testBit p = true ∧ (rmN S 131 p = r ∨ (hdN S (rmN S 131 p)).testBit r = true))
    (fun n a hI => by
      simp only [f_X9_spread_L4, s_X9_spread_L4, le_9 hh, ↓reduceIte, eq_self, n10, not_true_eq_false, not_false_eq_true, true_implies, false_implies, true_and, and_true, implies_true, forall_const, Sum.elim_inl, Sum.elim_inr, and_self]
      exact hI)
    (fun n a i hi hI => by
      obtain ⟨u, u1, rfl, u2⟩ := hI
      obtain ⟨a1, a2⟩ := rm_of hR hv hi
      obtain ⟨d1, d2⟩ := hd_of hh a1
      have e2 := has_k1 S hw2 (k := i) (by omega)
      have e3 : f_X10_at S 10 (nI (rmN S 131 i)) = nI (hdN S (rmN S 131 i)) := by rw [at_in (N := 6) rfl (by omega) (by decide), (xhA hh (by omega)).1, d2]
      by_cases c : w.testBit i = true
      · rw [if_pos c] at e2
        refine Or.inr ⟨nI (u ||| (2 ^ (rmN S 131 i) ||| hdN S (rmN S 131 i))), ⟨_, or_lt u1 (or_lt (pw_lt a1) d1), rfl, fun r => ?_⟩, fun ⟨h1, h2⟩ => ?_⟩
        · rw [Nat.testBit_or, Nat.testBit_or, Nat.testBit_two_pow, Bool.or_eq_true, Bool.or_eq_true, u2, decide_eq_true_eq]
          constructor
          · rintro (⟨p, p1, p2⟩ | h)
            · exact ⟨p, by omega, p2⟩
            · exact ⟨i, by omega, c, h⟩
          · rintro ⟨p, p1, p2, p3⟩
            by_cases q : p = i
            · subst q; exact Or.inr p3
            · exact Or.inl ⟨p, by omega, p2, p3⟩
        · dsimp only at h1 h2 ⊢
          simp only [f_X9_spread_L4, s_X9_spread_L4, nle_9 hh hi, at_rm hh hk hv hi, e2, e3, bit_k S (show rmN S 131 i ≤ 30 by omega), fa_or, nI_1, h1, ↓reduceIte, eq_self, n10, not_true_eq_false, not_false_eq_true, true_implies, false_implies, true_and, and_true, implies_true, forall_const, Sum.elim_inl, Sum.elim_inr, and_self]
          exact h2
      · rw [if_neg c] at e2
        refine Or.inr ⟨nI u, ⟨u, u1, rfl, fun r => ?_⟩, fun ⟨h1, h2⟩ => ?_⟩
        · rw [u2]
          constructor
          · rintro ⟨p, p1, p2⟩
            exact ⟨p, by omega, p2⟩
          · rintro ⟨p, p1, p2, p3⟩
            by_cases q : p = i
            · subst q; exact absurd p2 c
            · exact ⟨p, by omega, p2, p3⟩
        · dsimp only at h1 h2 ⊢
          simp only [f_X9_spread_L4, s_X9_spread_L4, nle_9 hh hi, e2, nI_1, h1, ↓reduceIte, eq_self, n10, not_true_eq_false, not_false_eq_true, true_implies, false_implies, true_and, and_true, implies_true, forall_const, Sum.elim_inl, Sum.elim_inr, and_self]
          exact h2)
    0 (fu_9 hh) ⟨0, Nat.pow_pos (by decide), rfl, fun r => by simp⟩
  obtain ⟨k1, u, u1, u2, u3⟩ := key
  dsimp only at k1 u2
  obtain ⟨o1, x, x1, x2, x3⟩ := pin_ok hh hk hv (w := u) (by omega)
  unfold s_X9_spread f_X9_spread
  dsimp only
  rw [u2, x2, fa_or]
  refine ⟨⟨k1, o1, trivial⟩, w ||| x, or_lt hw x1, rfl, fun q => ?_⟩
  rw [Nat.testBit_or, Bool.or_eq_true, x3, Bool.and_eq_true, decide_eq_true_eq, u3]
  unfold Hp
  exact Iff.rfl
theorem know_in (hh : xRh S R P) (hv : xRv S R P 131 0) {w p v : Nat} (hw : w < 2 ^ P) (hp : p < P) (hv2 : v < 2 ^ P) : s_X11_knowThen_L15 (fu 0 (S 127 6)) S (nI w) (nI v) (nI p) 0 ∧ ∃ u, u < 2 ^ P ∧ f_X11_knowThen_L15 (fu 0 (S 127 6)) S (nI w) (nI v) (nI p) 0 = nI u ∧ ∀ q, u.testBit q = true ↔ (v.testBit q = true ∨ (q < P ∧ w.testBit p = true ∧ Hp S p q)) := by
  have hP := xhP hh
  have hR := xhR hh
  have hw2 := p31 hw (by omega)
  have key := xl_a0 (α := Int32) (γ := Int32 × Prop) (fun n a x => (f_X11_knowThen_L15 n S (nI w) a (nI p) x, s_X11_knowThen_L15 n S (nI w) a (nI p) x))
    (fun z => z.2 ∧ ∃ u, u < 2 ^ P ∧ z.1 = nI u ∧ ∀ q, u.testBit q = true ↔ (v.testBit q = true ∨ (q < P ∧ w.testBit p = true ∧ Hp S p q))) P
    (fun i a => ∃ u, u < 2 ^ P ∧ a = nI u ∧ ∀ q, u.testBit q = true ↔ (v.testBit q = true ∨ (q < i ∧ w.testBit p = true ∧ Hp S p q)))
    (fun n a hI => by
      simp only [f_X11_knowThen_L15, s_X11_knowThen_L15, le_7 hh, ↓reduceIte, eq_self, n10, not_true_eq_false, not_false_eq_true, true_implies, false_implies, true_and, and_true, implies_true, forall_const, Sum.elim_inl, Sum.elim_inr, and_self]
      exact hI)
    (fun n a i hi hI => by
      obtain ⟨u, u1, rfl, u2⟩ := hI
      have e2 := has_k S hw2 (k := p) (by omega)
      obtain ⟨a1, a2⟩ := rm_of hR hv hp
      have sh : s_X11_hears S 131 (nI p) (nI i) := s_hears rfl (by omega) (by omega) (by omega) a2
      have keep : ¬ (w.testBit p = true ∧ Hp S p i) → ∀ q, u.testBit q = true ↔ (v.testBit q = true ∨ (q < i + 1 ∧ w.testBit p = true ∧ Hp S p q)) := fun hn q => by
        rw [u2]
        constructor
        · rintro (h | ⟨h1, h2⟩)
          · exact Or.inl h
          · exact Or.inr ⟨by omega, h2⟩
        · rintro (h | ⟨h1, h2⟩)
          · exact Or.inl h
          · by_cases c : q = i
            · subst c; exact absurd h2 hn
            · exact Or.inr ⟨by omega, h2⟩
      by_cases c : w.testBit p = true
      · rw [if_pos c] at e2
        rcases Hp_eq hh hv hp hi with ⟨g1, g2⟩ | ⟨g1, g2⟩
        · refine Or.inr ⟨nI (u ||| 2 ^ i), ⟨_, or_lt u1 (pw_lt hi), rfl, fun q => ?_⟩, fun ⟨h1, h2⟩ => ?_⟩
          · rw [tb_or, Bool.or_eq_true, u2, decide_eq_true_eq]
            constructor
            · rintro ((h | ⟨h1, h2⟩) | h)
              · exact Or.inl h
              · exact Or.inr ⟨by omega, h2⟩
              · subst h; exact Or.inr ⟨by omega, c, g1⟩
            · rintro (h | ⟨h1, h2⟩)
              · exact Or.inl (Or.inl h)
              · by_cases c : i = q
                · exact Or.inr c
                · exact Or.inl (Or.inr ⟨by omega, h2⟩)
          · dsimp only at h1 h2 ⊢
            simp only [f_X11_knowThen_L15, s_X11_knowThen_L15, nle_7 hh hi, e2, sh, g2, shl_k (show i ≤ 30 by omega), fa_or, nI_1, h1, ↓reduceIte, eq_self, n10, not_true_eq_false, not_false_eq_true, true_implies, false_implies, true_and, and_true, implies_true, forall_const, Sum.elim_inl, Sum.elim_inr, and_self]
            exact h2
        · refine Or.inr ⟨nI u, ⟨u, u1, rfl, keep (fun h => g1 h.2)⟩, fun ⟨h1, h2⟩ => ?_⟩
          dsimp only at h1 h2 ⊢
          simp only [f_X11_knowThen_L15, s_X11_knowThen_L15, nle_7 hh hi, e2, sh, g2, or_z, nI_1, h1, ↓reduceIte, eq_self, n10, not_true_eq_false, not_false_eq_true, true_implies, false_implies, true_and, and_true, implies_true, forall_const, Sum.elim_inl, Sum.elim_inr, and_self]
          exact h2
      · rw [if_neg c] at e2
        refine Or.inr ⟨nI u, ⟨u, u1, rfl, keep (fun h => c h.1)⟩, fun ⟨h1, h2⟩ => ?_⟩
        dsimp only at h1 h2 ⊢
        simp only [f_X11_knowThen_L15, s_X11_knowThen_L15, nle_7 hh hi, e2, or_z, nI_1, h1, ↓reduceIte, eq_self, n10, not_true_eq_false, not_false_eq_true, true_implies, false_implies, true_and, and_true, implies_true, forall_const, Sum.elim_inl, Sum.elim_inr, and_self]
        exact h2)
    (n := fu 0 (S 127 6)) (nI v) (fu_7 hh) ⟨v, hv2, rfl, fun q => by simp⟩
  exact key
theorem know_ok (hh : xRh S R P) (hv : xRv S R P 131 0) {w : Nat} (hw : w < 2 ^ P) : s_X11_knowThen S (nI w) ∧ ∃ u, u < 2 ^ P ∧ f_X11_knowThen S (nI w) = nI u ∧ ∀ q, u.testBit q = true ↔ (w.testBit q = true ∨ (q < P ∧ ∃ p, p < P ∧ w.testBit p = true ∧ Hp S p q)) := by
  have hP := xhP hh
  have key := xl_a0 (α := Int32) (γ := Int32 × Prop) (fun n a x => (f_X11_knowThen_L4 n S (nI w) a x, s_X11_knowThen_L4 n S (nI w) a x))
    (fun z => z.2 ∧ ∃ u, u < 2 ^ P ∧ z.1 = nI u ∧ ∀ q, u.testBit q = true ↔ (w.testBit q = true ∨ (q < P ∧ ∃ p, p < P ∧ w.testBit p = true ∧ Hp S p q))) P
    (fun i a => ∃ u, u < 2 ^ P ∧ a = nI u ∧ ∀ q, u.testBit q = true ↔ (w.testBit q = true ∨ (q < P ∧ ∃ p, p < i ∧ w.testBit p = true ∧ Hp S p q)))
    (fun n a hI => by
      simp only [f_X11_knowThen_L4, s_X11_knowThen_L4, le_7 hh, ↓reduceIte, eq_self, n10, not_true_eq_false, not_false_eq_true, true_implies, false_implies, true_and, and_true, implies_true, forall_const, Sum.elim_inl, Sum.elim_inr, and_self]
      exact hI)
    (fun n a i hi hI => by
      obtain ⟨u, u1, rfl, u2⟩ := hI
      obtain ⟨o1, x, x1, x2, x3⟩ := know_in hh hv hw hi u1
      refine Or.inr ⟨nI x, ⟨x, x1, rfl, fun q => ?_⟩, fun ⟨h1, h2⟩ => ?_⟩
      · rw [x3, u2]
        constructor
        · rintro ((h | ⟨h1, p, h2, h3⟩) | ⟨h1, h2⟩)
          · exact Or.inl h
          · exact Or.inr ⟨h1, p, by omega, h3⟩
          · exact Or.inr ⟨h1, i, by omega, h2⟩
        · rintro (h | ⟨h1, p, h2, h3⟩)
          · exact Or.inl (Or.inl h)
          · by_cases c : p = i
            · subst c; exact Or.inr ⟨h1, h3⟩
            · exact Or.inl (Or.inr ⟨h1, p, by omega, h3⟩)
      · dsimp only at h1 h2 ⊢
        simp only [f_X11_knowThen_L4, s_X11_knowThen_L4, nle_7 hh hi, o1, x2, nI_1, h1, ↓reduceIte, eq_self, n10, not_true_eq_false, not_false_eq_true, true_implies, false_implies, true_and, and_true, implies_true, forall_const, Sum.elim_inl, Sum.elim_inr, and_self]
        exact h2)
    (n := fu 0 (S 127 6)) (nI w) (fu_7 hh) ⟨w, hw, rfl, fun q => by simp⟩
  exact ⟨⟨key.1, trivial⟩, key.2⟩
/-- who knows an hour on -/
def gK (S : xS) (w : Nat) : Nat := (f_X11_knowThen S (nI w)).toNatClampNeg
theorem gK_ok (hh : xRh S R P) (hk : xRk S 32 131 0) (hv : xRv S R P 131 0) {w : Nat} (hw : w < 2 ^ P) : gK S w < 2 ^ P ∧ s_X9_spread S (nI w) ∧ s_X11_knowThen S (nI w) ∧ f_X9_spread S (nI w) = nI (gK S w) ∧ f_X11_knowThen S (nI w) = nI (gK S w) ∧ ∀ q, w.testBit q = true → (gK S w).testBit q = true := by
  have hP := xhP hh
  obtain ⟨a1, u, a2, a3, a4⟩ := spread_ok hh hk hv hw
  obtain ⟨b1, v, b2, b3, b4⟩ := know_ok hh hv hw
  have e : u = v := Nat.eq_of_testBit_eq (fun q => by
    have := (a4 q).trans (b4 q).symm
    cases h1 : u.testBit q <;> cases h2 : v.testBit q <;> simp [h1, h2] at this ⊢)
  subst e
  have eg : gK S w = u := by unfold gK; rw [b3, nI_clamp (p31 b2 (by omega))]
  rw [eg]
  exact ⟨b2, a1, b1, a3, b3, fun q hq => (b4 q).mpr (Or.inl hq)⟩
def Kn (S : xS) (p : Nat) : Nat → Nat | 0 => 2 ^ p | i + 1 => gK S (Kn S p i)
theorem Kn_lt (hh : xRh S R P) (hk : xRk S 32 131 0) (hv : xRv S R P 131 0) {p : Nat} (hp : p < P) : ∀ i, Kn S p i < 2 ^ P := by
  intro i
  induction i with
  | zero => exact pw_lt hp
  | succ i ih => exact (gK_ok hh hk hv ih).1
/-- how many of the first n bits -/
def cb : Nat → Nat → Nat | 0, _ => 0 | n + 1, w => cb n w + if w.testBit n = true then 1 else 0
theorem cb_le (n w : Nat) : cb n w ≤ n := by
  induction n with
  | zero => exact Nat.le_refl _
  | succ n ih =>
    show cb n w + (if w.testBit n = true then 1 else 0) ≤ n + 1
    split <;> omega
theorem cb_mono {w v : Nat} (h : ∀ q, w.testBit q = true → v.testBit q = true) (n : Nat) : cb n w ≤ cb n v := by
  induction n with
  | zero => exact Nat.le_refl _
  | succ n ih =>
    show cb n w + (if w.testBit n = true then 1 else 0) ≤ cb n v + (if v.testBit n = true then 1 else 0)
    by_cases c : w.testBit n = true
    · rw [if_pos c, if_pos (h n c)]; omega
    · rw [if_neg c]; omega
theorem cb_lt {w v : Nat} (h : ∀ q, w.testBit q = true → v.testBit q = true) {n q : Nat} (hq : q < n) (h1 : v.testBit q = true) (h2 : ¬ w.testBit q = true) : cb n w < cb n v := by
  induction n with
  | zero => exact absurd hq (by omega)
  | succ n ih =>
    show cb n w + (if w.testBit n = true then 1 else 0) < cb n v + (if v.testBit n = true then 1 else 0)
    by_cases c : q = n
    · subst c
      rw [if_neg h2, if_pos h1]
      have := cb_mono h q
      omega
    · have := ih (by omega)
      by_cases c2 : w.testBit n = true
      · rw [if_pos c2, if_pos (h n c2)]; omega
      · rw [if_neg c2]; omega
theorem Kn_never (hh : xRh S R P) (hk : xRk S 32 131 0) (hv : xRv S R P 131 0) {p f : Nat} (hp : p < P) (h : ∀ i, i ≤ P → Kn S p i ≠ f) : ∀ i, Kn S p i ≠ f := by
  have grow : ∀ j, (∀ i, i < j → Kn S p (i + 1) ≠ Kn S p i) → j + 1 ≤ cb P (Kn S p j) := by
    intro j
    induction j with
    | zero =>
      intro _
      have h1 : cb P 0 < cb P (2 ^ p) := cb_lt (q := p) (fun q hq => by simp at hq) hp (by rw [Nat.testBit_two_pow]; simp) (by simp)
      show 0 + 1 ≤ cb P (2 ^ p)
      omega
    | succ j ih =>
      intro hn
      have h1 := ih (fun i hi => hn i (by omega))
      have h2 := hn j (by omega)
      have hl := Kn_lt hh hk hv hp j
      have hl2 := Kn_lt hh hk hv hp (j + 1)
      have hsub := (gK_ok hh hk hv hl).2.2.2.2.2
      have hex : ∃ q, q < P ∧ (Kn S p (j + 1)).testBit q = true ∧ ¬ (Kn S p j).testBit q = true := by
        refine Classical.byContradiction (fun hno => h2 (Nat.eq_of_testBit_eq (fun q => ?_)))
        by_cases hq : q < P
        · by_cases c : (Kn S p j).testBit q = true
          · rw [c]; exact hsub q c
          · have c2 : ¬ (Kn S p (j + 1)).testBit q = true := fun e => hno ⟨q, hq, e, c⟩
            cases h3 : (Kn S p (j + 1)).testBit q <;> cases h4 : (Kn S p j).testBit q <;> simp [h3, h4] at c c2 ⊢
        · have hpw : (2 : Nat) ^ P ≤ 2 ^ q := Nat.pow_le_pow_right (by decide) (by omega)
          rw [Nat.testBit_lt_two_pow (by omega), Nat.testBit_lt_two_pow (by omega)]
      obtain ⟨q, q1, q2, q3⟩ := hex
      have := cb_lt hsub q1 q2 q3
      show j + 1 + 1 ≤ cb P (gK S (Kn S p j))
      omega
  have hst : ∃ i, i < P ∧ Kn S p (i + 1) = Kn S p i := by
    refine Classical.byContradiction (fun hno => ?_)
    have := grow P (fun i hi e => hno ⟨i, hi, e⟩)
    have := cb_le P (Kn S p P)
    omega
  obtain ⟨i, i1, i2⟩ := hst
  have hconst : ∀ d, Kn S p (i + d) = Kn S p i := by
    intro d
    induction d with
    | zero => rfl
    | succ d ih =>
      show gK S (Kn S p (i + d)) = Kn S p i
      rw [ih]
      exact i2
  intro j
  by_cases c : j ≤ P
  · exact h j c
  · have e := hconst (j - i)
    rw [show i + (j - i) = j by omega] at e
    rw [e]
    exact h i (by omega)
theorem pc_full : ∀ P, P ≤ 7 → ∀ w, w < 2 ^ P → (pc w = P ↔ w = 2 ^ P - 1) := by
  have h : ∀ P : Fin 8, ∀ w : Fin 128, w.val < 2 ^ P.val → (pc w.val = P.val ↔ w.val = 2 ^ P.val - 1) := by decide +kernel
  intro P hP w hw
  have : (2 : Nat) ^ P ≤ 2 ^ 7 := Nat.pow_le_pow_right (by decide) hP
  exact h ⟨P, by omega⟩ ⟨w, by omega⟩ hw
end KN
theorem op_carried {S : xS} (h : xR S) (p0 p1 : Int32) : s_X10_carried S p0 p1 ∧ s_X11_carried S p0 p1 ∧ f_X10_carried S p0 p1 = (f_X11_carried S p0 p1) ∧ xR S := by
  obtain ⟨h1, h2, ⟨R, P, hh, hk, hv, hpp, hb, hi⟩, h4, h5⟩ := id h
  have hP := xhP hh
  have hR := xhR hh
  obtain ⟨h128, hpos⟩ := P128 hh
  have i1 := person_eq hh p0
  by_cases g1 : f_X2_isPerson S 9 p0 = 0
  · have g1' : f_X11_isPerson S p0 = 0 := i1.trans g1
    have e : f_X10_carried S p0 p1 = -1000000001 := by unfold f_X10_carried; dsimp only; rw [if_pos g1]
    have e' : f_X11_carried S p0 p1 = -1000000001 := by unfold f_X11_carried; dsimp only; rw [if_pos g1']
    rw [e, e']
    exact ⟨⟨fun _ => trivial, fun q => absurd g1 q⟩, ⟨fun _ => trivial, fun q => absurd g1' q⟩, rfl, h⟩
  · have g1' : ¬ f_X11_isPerson S p0 = 0 := by rw [i1]; exact g1
    obtain ⟨p, hp, rfl⟩ := isPerson_ne (by omega) (xhP9 hh) g1
    have eb := bit_k S (k := p) (by omega)
    have es := shl_k (k := p) (by omega)
    by_cases cm : p1 = -1
    · subst cm
      have g2' : ¬ f_X11_in S (-1 : Int32).toInt64 (-1) 20 = 0 := by
        rw [in_eq, if_pos ⟨by decide, by decide⟩]
        decide
      have ebP : f_X10_bit S (S 9 9) = nI (2 ^ P) := by rw [xhP9 hh, bit_k S (by omega)]
      have eful : nI (2 ^ P) - 1 = nI (2 ^ P - 1) := by
        have := nI_pred (2 ^ P - 1)
        rw [show 2 ^ P - 1 + 1 = 2 ^ P by omega] at this
        exact this
      have k1 := xl_a0 (α := Int32) (γ := (Int32 ⊕ Unit) × Prop) (fun n a x => (f_X9_hoursTillAllKnow_L7 n S a x, s_X9_hoursTillAllKnow_L7 n S a x))
        (fun z => z.2 ∧ ((∃ j, j ≤ P ∧ Kn S p j = 2 ^ P - 1 ∧ (∀ i, i < j → Kn S p i ≠ 2 ^ P - 1) ∧ z.1 = .inl (nI j)) ∨ (z.1 = .inr () ∧ ∀ i, i ≤ P → Kn S p i ≠ 2 ^ P - 1))) (P + 1)
        (fun i a => a = nI (Kn S p i) ∧ ∀ j, j < i → Kn S p j ≠ 2 ^ P - 1)
        (fun n a hI => by
          have l : S 9 9 < nI (P + 1) := by rw [xhP9 hh]; exact nI_lt (by omega) (by omega)
          simp only [f_X9_hoursTillAllKnow_L7, s_X9_hoursTillAllKnow_L7, l, ↓reduceIte, eq_self, n10, not_true_eq_false, not_false_eq_true, true_implies, false_implies, true_and, and_true, implies_true, forall_const, Sum.elim_inl, Sum.elim_inr, and_self]
          exact Or.inr (fun i hi => hI.2 i (by omega)))
        (fun n a i hi hI => by
          obtain ⟨rfl, hI⟩ := hI
          have l : ¬ S 9 9 < nI i := by rw [xhP9 hh]; exact nI_nlt (by omega) (by omega)
          have hlt := Kn_lt hh hk hv hp i
          obtain ⟨o1, o2, o3, o4, o5, -⟩ := gK_ok hh hk hv hlt
          by_cases c : Kn S p i = 2 ^ P - 1
          · left
            have c' : nI (Kn S p i) = nI (2 ^ P) - 1 := by rw [eful, c]
            simp only [f_X9_hoursTillAllKnow_L7, s_X9_hoursTillAllKnow_L7, l, ebP, c', ↓reduceIte, eq_self, n10, not_true_eq_false, not_false_eq_true, true_implies, false_implies, true_and, and_true, implies_true, forall_const, Sum.elim_inl, Sum.elim_inr, and_self]
            exact Or.inl ⟨i, by omega, c, hI, rfl⟩
          · have c' : ¬ nI (Kn S p i) = nI (2 ^ P) - 1 := by rw [eful]; exact fun e => c (nI_inj (by omega) (by omega) e)
            refine Or.inr ⟨nI (Kn S p (i + 1)), ⟨rfl, fun j hj => ?_⟩, fun ⟨h1, h2⟩ => ?_⟩
            · rcases Nat.lt_or_ge j i with q | q
              · exact hI j q
              · rw [show j = i by omega]; exact c
            · dsimp only at h1 h2 ⊢
              have e5 : nI (Kn S p (i + 1)) = nI (gK S (Kn S p i)) := rfl
              rw [e5] at h1 h2
              simp only [f_X9_hoursTillAllKnow_L7, s_X9_hoursTillAllKnow_L7, l, ebP, c', o2, o4, nI_1, h1, ↓reduceIte, eq_self, n10, not_true_eq_false, not_false_eq_true, true_implies, false_implies, true_and, and_true, implies_true, forall_const, Sum.elim_inl, Sum.elim_inr, and_self]
              exact h2)
        (n := fu 0 (S 9 9)) (nI (2 ^ p)) (by rw [xhP9 hh, fu_0 (by omega)]; omega) ⟨rfl, fun j hj => absurd hj (by omega)⟩
      have k2 := xl_a0 (α := Int32) (γ := (Int32 ⊕ Unit) × Prop) (fun n a x => (f_X11_carried_L62 n S a x, s_X11_carried_L62 n S a x))
        (fun z => z.2 ∧ ((∃ j, j ≤ 7 ∧ Kn S p j = 2 ^ P - 1 ∧ (∀ i, i < j → Kn S p i ≠ 2 ^ P - 1) ∧ z.1 = .inl (nI j)) ∨ (z.1 = .inr () ∧ ∀ i, i ≤ 7 → Kn S p i ≠ 2 ^ P - 1))) 8
        (fun i a => a = nI (Kn S p i) ∧ ∀ j, j < i → Kn S p j ≠ 2 ^ P - 1)
        (fun n a hI => by
          have l : (7 : Int32) < nI 8 := by decide
          simp only [f_X11_carried_L62, s_X11_carried_L62, l, ↓reduceIte, eq_self, n10, not_true_eq_false, not_false_eq_true, true_implies, false_implies, true_and, and_true, implies_true, forall_const, Sum.elim_inl, Sum.elim_inr, and_self]
          exact Or.inr (fun i hi => hI.2 i (by omega)))
        (fun n a i hi hI => by
          obtain ⟨rfl, hI⟩ := hI
          have l : ¬ (7 : Int32) < nI i := by rw [i_7]; exact nI_nlt (by omega) (by omega)
          have hlt := Kn_lt hh hk hv hp i
          obtain ⟨o1, o2, o3, o4, o5, -⟩ := gK_ok hh hk hv hlt
          have so := s_ones S (nI (Kn S p i))
          have eo := ones_eq S (w := Kn S p i) (by omega)
          have hfl := pc_full P hP (Kn S p i) hlt
          have hpl := pc_le (w := Kn S p i) (by omega)
          by_cases c : Kn S p i = 2 ^ P - 1
          · left
            have c' : nI (pc (Kn S p i)) = S 127 6 := by rw [xhP7 hh, hfl.mpr c]
            simp only [f_X11_carried_L62, s_X11_carried_L62, l, so, eo, c', ↓reduceIte, eq_self, n10, not_true_eq_false, not_false_eq_true, true_implies, false_implies, true_and, and_true, implies_true, forall_const, Sum.elim_inl, Sum.elim_inr, and_self]
            exact Or.inl ⟨i, by omega, c, hI, rfl⟩
          · have c' : ¬ nI (pc (Kn S p i)) = S 127 6 := by rw [xhP7 hh]; exact fun e => c (hfl.mp (nI_inj (by omega) (by omega) e))
            refine Or.inr ⟨nI (Kn S p (i + 1)), ⟨rfl, fun j hj => ?_⟩, fun ⟨h1, h2⟩ => ?_⟩
            · rcases Nat.lt_or_ge j i with q | q
              · exact hI j q
              · rw [show j = i by omega]; exact c
            · dsimp only at h1 h2 ⊢
              have e5 : nI (Kn S p (i + 1)) = nI (gK S (Kn S p i)) := rfl
              rw [e5] at h1 h2
              simp only [f_X11_carried_L62, s_X11_carried_L62, l, so, eo, c', o3, o5, nI_1, h1, ↓reduceIte, eq_self, n10, not_true_eq_false, not_false_eq_true, true_implies, false_implies, true_and, and_true, implies_true, forall_const, Sum.elim_inl, Sum.elim_inr, and_self]
              exact h2)
        (n := fu 0 7) (nI (2 ^ p)) (by rw [i_7, fu_0 (by omega)]; omega) ⟨rfl, fun j hj => absurd hj (by omega)⟩
      obtain ⟨k1a, k1b⟩ := k1
      obtain ⟨k2a, k2b⟩ := k2
      dsimp only at k1a k1b k2a k2b
      have m0 : (-1 : Int32) < 0 := by decide
      refine ⟨⟨fun _ => trivial, fun _ => ⟨fun _ => ⟨?_, trivial⟩, fun q => absurd rfl q⟩⟩, ⟨fun _ => trivial, fun _ => ⟨fun _ => trivial, fun _ => ⟨fun _ => ⟨?_, fun _ _ => trivial⟩, fun q => absurd m0 q⟩⟩⟩, ?_, h⟩
      · unfold s_X9_hoursTillAllKnow
        dsimp only
        rw [eb]
        exact ⟨k1a, fun _ _ => trivial⟩
      · rw [es]; exact k2a
      · unfold f_X10_carried f_X11_carried f_X9_hoursTillAllKnow
        dsimp only
        rw [if_neg g1, if_pos rfl, if_neg g1', if_neg g2', if_pos m0, eb, es]
        rcases k1b with ⟨j, j1, j2, j3, j4⟩ | ⟨j4, j3⟩
        · rw [j4]
          rcases k2b with ⟨l, l1, l2, l3, l4⟩ | ⟨l4, l3⟩
          · rw [l4]
            have e : j = l := by
              rcases Nat.lt_or_ge j l with q | q
              · exact absurd j2 (l3 j q)
              · rcases Nat.lt_or_ge l j with q2 | q2
                · exact absurd l2 (j3 l q2)
                · omega
            rw [e]
          · exact absurd j2 (l3 j (by omega))
        · rw [j4]
          rcases k2b with ⟨l, l1, l2, l3, l4⟩ | ⟨l4, l3⟩
          · exact absurd l2 (Kn_never hh hk hv hp j3 l)
          · rw [l4]
    · have hin : f_X11_in S p1.toInt64 (-1) 20 = f_X10_within S p1 0 20 := by
        have e1 : f_X11_in S p1.toInt64 (-1) 20 = f_X10_within S p1 (-1) 20 := in_within S S p1 (-1) 20 (by decide) rfl
        rw [e1, within_eq, within_eq]
        have m1 : (-1 : Int32).toInt = -1 := by decide
        have hne : p1.toInt ≠ -1 := fun e => cm (i_eq (e.trans m1.symm))
        rw [m1, i_0]
        by_cases c : 0 ≤ p1.toInt ∧ p1.toInt ≤ (20 : Int32).toInt
        · rw [if_pos c, if_pos ⟨by omega, c.2⟩]
        · rw [if_neg c, if_neg (by omega)]
      by_cases g2 : f_X10_within S p1 0 20 = 0
      · have g2' : f_X11_in S p1.toInt64 (-1) 20 = 0 := hin.trans g2
        have e : f_X10_carried S (nI p) p1 = -1000000002 := by unfold f_X10_carried; dsimp only; rw [if_neg g1, if_neg cm, if_pos g2]
        have e' : f_X11_carried S (nI p) p1 = -1000000002 := by unfold f_X11_carried; dsimp only; rw [if_neg g1', if_pos g2']
        rw [e, e']
        exact ⟨⟨fun _ => trivial, fun _ => ⟨fun q => absurd q cm, fun _ => ⟨fun _ => trivial, fun q => absurd g2 q⟩⟩⟩, ⟨fun _ => trivial, fun _ => ⟨fun _ => trivial, fun q => absurd g2' q⟩⟩, rfl, h⟩
      · have g2' : ¬ f_X11_in S p1.toInt64 (-1) 20 = 0 := by rw [hin]; exact g2
        obtain ⟨n, -, hn, rfl⟩ := wi_of (a := 0) (b := 20) (by omega) (by omega) g2
        have m0 : ¬ nI n < (0 : Int32) := nI_pos (by omega)
        have key := xl_b0 (α := Int32) (β := Int32) (γ := Int32 × Prop) (δ := Int32 × Prop)
          (fun m a x => (f_X9_knownBehind_L8 m S (nI n) a x, s_X9_knownBehind_L8 m S (nI n) a x))
          (fun m a x => (f_X11_carried_L39 m S (nI n) a x, s_X11_carried_L39 m S (nI n) a x))
          (fun z w => z.2 ∧ w.2 ∧ z.1 = w.1) n (fun i a b => ∃ w, w < 2 ^ P ∧ a = nI w ∧ b = nI w)
          (fun m k a b hI => by
            obtain ⟨w, w1, rfl, rfl⟩ := hI
            have l : nI n ≤ nI n := nI_le (Nat.le_refl _) (by omega)
            simp only [f_X9_knownBehind_L8, s_X9_knownBehind_L8, f_X11_carried_L39, s_X11_carried_L39, l, ↓reduceIte, eq_self, n10, not_true_eq_false, not_false_eq_true, true_implies, false_implies, true_and, and_true, implies_true, forall_const, Sum.elim_inl, Sum.elim_inr, and_self])
          (fun m k a b i hi hI => by
            obtain ⟨w, w1, rfl, rfl⟩ := hI
            have l : ¬ nI n ≤ nI i := nI_ge hi (by omega)
            obtain ⟨o1, o2, o3, o4, o5, -⟩ := gK_ok hh hk hv w1
            refine Or.inr ⟨nI (gK S w), nI (gK S w), ⟨_, o1, rfl, rfl⟩, fun ⟨h1, h2, h3⟩ => ?_⟩
            dsimp only at h1 h2 h3 ⊢
            simp only [f_X9_knownBehind_L8, s_X9_knownBehind_L8, f_X11_carried_L39, s_X11_carried_L39, l, o2, o3, o4, o5, nI_1, ↓reduceIte, eq_self, n10, not_true_eq_false, not_false_eq_true, true_implies, false_implies, true_and, and_true, implies_true, forall_const, Sum.elim_inl, Sum.elim_inr, and_self]
            exact ⟨h1, h2, h3⟩)
          (n := fu 0 (nI n)) (m := fu 0 (nI n)) (nI (2 ^ p)) (nI (2 ^ p)) (by rw [fu_0 (by omega)]; omega) (by rw [fu_0 (by omega)]; omega) ⟨2 ^ p, pw_lt hp, rfl, rfl⟩
        obtain ⟨k1, k2, k3⟩ := key
        dsimp only at k1 k2 k3
        refine ⟨⟨fun _ => trivial, fun _ => ⟨fun q => absurd q cm, fun _ => ⟨fun _ => trivial, fun _ => ⟨?_, trivial⟩⟩⟩⟩, ⟨fun _ => trivial, fun _ => ⟨fun _ => trivial, fun _ => ⟨fun q => absurd q m0, fun _ => ⟨?_, trivial⟩⟩⟩⟩, ?_, h⟩
        · unfold s_X9_knownBehind
          dsimp only
          rw [eb]
          exact ⟨k1, trivial⟩
        · rw [es]; exact k2
        · unfold f_X10_carried f_X11_carried f_X9_knownBehind
          dsimp only
          rw [if_neg g1, if_neg cm, if_neg g2, if_neg g1', if_neg g2', if_neg m0, eb, es]
          exact k3
