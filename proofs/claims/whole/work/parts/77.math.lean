/-! COVER, told -/
/-- a loop that counts down -/
theorem xl_d {α γ : Type} (F : Nat → α → Int32 → γ) (P : γ → Prop) (Inv : Nat → α → Prop)
    (h0 : ∀ n a, Inv 0 a → P (F (n + 1) a (-1)))
    (h1 : ∀ n a i, Inv (i + 1) a → P (F (n + 1) a (nI i)) ∨ ∃ a', Inv i a' ∧ (P (F n a' (nI i + (-1))) → P (F (n + 1) a (nI i)))) :
    ∀ i a n, i + 1 ≤ n → Inv i a → P (F n a (nI i + (-1))) := by
  intro i
  induction i with
  | zero =>
    intro a n hn hI
    cases n with
    | zero => exact absurd hn (by omega)
    | succ n => exact h0 n a hI
  | succ i ih =>
    intro a n hn hI
    have e : nI (i + 1) + (-1) = nI i := by
      have := nI_pred i
      rw [Int32.sub_eq_add_neg] at this
      exact this
    rw [e]
    cases n with
    | zero => exact absurd hn (by omega)
    | succ n =>
      rcases h1 n a i hI with h | ⟨a', h2, h3⟩
      · exact h
      · exact h3 (ih a' n (by omega) h2)
theorem fb_bit_nat (n j : Nat) : n &&& 2 ^ j = 0 ↔ n.testBit j = false := by
  constructor
  · intro h
    have h1 : (n &&& 2 ^ j).testBit j = false := by rw [h]; simp
    rw [Nat.testBit_and] at h1
    simpa using h1
  · intro h
    apply Nat.eq_of_testBit_eq
    intro i
    rw [Nat.testBit_and]
    by_cases hi : j = i
    · subst hi; simp [h]
    · first | (simp [Nat.testBit_two_pow, hi]; done) | (simp [Nat.testBit_two_pow_of_ne hi]; done)
/-- how many bits a small set has -/
def pc (w : Nat) : Nat := (f_J6_bitCount_0f7a4 (fun _ _ => 0) (nI w)).toNatClampNeg
theorem pc_all : ∀ w, w < 1024 → f_J6_bitCount_0f7a4 (fun _ _ => 0) (nI w) = nI (pc w) ∧ pc w ≤ 10 := by
  have h : ∀ w : Fin 1024, f_J6_bitCount_0f7a4 (fun _ _ => 0) (nI w.val) = nI (pc w.val) ∧ pc w.val ≤ 10 := by decide +kernel
  exact fun w hw => h ⟨w, hw⟩
theorem bc_eq (S : xS) {w : Nat} (hw : w < 1024) : f_J6_bitCount_0f7a4 S (nI w) = nI (pc w) := (pc_all w hw).1
theorem pc_le {w : Nat} (hw : w < 1024) : pc w ≤ 10 := (pc_all w hw).2
theorem ones_all : ∀ w, w < 128 → f_X11_ones (fun _ _ => 0) (nI w) = nI (pc w) := by
  have h : ∀ w : Fin 128, f_X11_ones (fun _ _ => 0) (nI w.val) = nI (pc w.val) := by decide +kernel
  exact fun w hw => h ⟨w, hw⟩
theorem ones_SL (S T : xS) (x : Int32) : ∀ (n : Nat) (a b : Int32), f_X11_ones_L4 n S x a b = f_X11_ones_L4 n T x a b := by
  intro n
  induction n with
  | zero => intro a b; rfl
  | succ n ih =>
    intro a b
    simp only [f_X11_ones_L4]
    rw [ih]
theorem ones_eq (S : xS) {w : Nat} (hw : w < 128) : f_X11_ones S (nI w) = nI (pc w) := by
  rw [← ones_all w hw]
  exact ones_SL S _ _ _ _ _
theorem i_7 : (7 : Int32) = nI 7 := rfl
theorem s_ones (S : xS) (x : Int32) : s_X11_ones S x := by
  have key := xl_a0 (α := Int32) (γ := Prop) (fun n a y => s_X11_ones_L4 n S x a y) (fun z => z) 7 (fun _ _ => True)
    (fun n a _ => by
      have c : (7 : Int32) ≤ nI 7 := by decide
      simp only [s_X11_ones_L4, c, ↓reduceIte, eq_self, n10, not_true_eq_false, not_false_eq_true, true_implies, false_implies, true_and, and_true, implies_true, forall_const, Sum.elim_inl, Sum.elim_inr, and_self])
    (fun n a i hi _ => by
      have c : ¬ (7 : Int32) ≤ nI i := by rw [i_7]; exact nI_ge hi (by omega)
      refine Or.inr ⟨a + ((x >>> (nI i &&& 31)) &&& 1), trivial, fun h1 => ?_⟩
      simp only [s_X11_ones_L4, c, nI_1, h1, ↓reduceIte, eq_self, n10, not_true_eq_false, not_false_eq_true, true_implies, false_implies, true_and, and_true, implies_true, forall_const, Sum.elim_inl, Sum.elim_inr, and_self])
    (n := fu 0 7) 0 (by rw [i_7, fu_0 (by omega)]; omega) trivial
  exact ⟨key, trivial⟩
/-- fewer, or as many and not greater -/
def sle (a b : Nat) : Prop := pc a < pc b ∨ (pc a = pc b ∧ a ≤ b)
theorem small_eq (S : xS) {a b : Nat} (ha : a < 1024) (hb : b < 1024) : f_X10_isSmaller S (nI a) (nI b) = if pc a < pc b ∨ (pc a = pc b ∧ a < b) then 1 else 0 := by
  have h1 := pc_le ha
  have h2 := pc_le hb
  unfold f_X10_isSmaller
  dsimp only
  rw [bc_eq S ha, bc_eq S hb]
  have e : (nI (pc a) - nI (pc b)).toInt = (pc a : Int) - pc b := by rw [fb_subI (by rw [nI_toInt (by omega), nI_toInt (by omega)]; omega) (by rw [nI_toInt (by omega), nI_toInt (by omega)]; omega), nI_toInt (by omega), nI_toInt (by omega)]
  by_cases c1 : pc a < pc b
  · rw [if_pos (by rw [i_lt, e, i_0]; omega), if_pos (Or.inl c1)]
  · rw [if_neg (by rw [i_lt, e, i_0]; omega)]
    by_cases c2 : pc a = pc b
    · have e2 : nI (pc a) - nI (pc b) = 0 := by rw [c2]; exact Int32.sub_self _
      rw [if_pos e2]
      by_cases c3 : a < b
      · rw [if_neg (nI_ge c3 (by omega)), if_pos (Or.inr ⟨c2, c3⟩)]
      · rw [if_pos (nI_le (by omega) (by omega)), if_neg (by omega)]
    · have e2 : ¬ nI (pc a) - nI (pc b) = 0 := fun e3 => by
        rw [e3, i_0] at e
        omega
      rw [if_neg e2, if_neg (by omega)]
section CV
variable {S : xS} {R P : Nat}
/-- where what is said in a room is heard, as a number -/
def hdN (S : xS) (r : Nat) : Nat := (S 128 r).toNatClampNeg
theorem hd_of (h : xRh S R P) {r : Nat} (hr : r < R) : hdN S r < 2 ^ R ∧ S 128 r = nI (hdN S r) := by
  obtain ⟨w, h1, h2⟩ := xhH h hr
  have := xhR h
  have h3 := p31 h1 (by omega)
  unfold hdN
  rw [h2, nI_clamp h3]
  exact ⟨h1, rfl⟩
def covR (S : xS) (w r : Nat) : Prop := w.testBit r = true ∨ ¬ hdN S r &&& w = 0
def cov (S : xS) (R w : Nat) : Prop := ∀ r, r < R → covR S w r
theorem R64 (h : xRh S R P) : 2 ^ R ≤ 64 ∧ 0 < 2 ^ R := ⟨Nat.pow_le_pow_right (by decide) (xhR h), Nat.pow_pos (by decide)⟩
theorem covers_ok (h : xRh S R P) {w : Nat} (hw : w < 2 ^ R) : s_X9_covers S (nI w) ∧ ((f_X9_covers S (nI w) = 1 ∧ cov S R w) ∨ (f_X9_covers S (nI w) = 0 ∧ ¬ cov S R w)) := by
  have hR := xhR h
  have hw2 := (R64 h).1
  have key := xl_a0 (α := Unit) (γ := (Int32 ⊕ Unit) × Prop)
    (fun n _ x => (f_X9_covers_L2 n S (nI w) x, s_X9_covers_L2 n S (nI w) x))
    (fun z => z.2 ∧ ((z.1 = .inr () ∧ cov S R w) ∨ (z.1 = .inl 0 ∧ ¬ cov S R w))) R (fun i _ => ∀ r, r < i → covR S w r)
    (fun n a hI => by
      simp only [f_X9_covers_L2, s_X9_covers_L2, le_9R h, ↓reduceIte, eq_self, n10, not_true_eq_false, not_false_eq_true, true_implies, false_implies, true_and, and_true, implies_true, forall_const, Sum.elim_inl, Sum.elim_inr, and_self]
      exact Or.inl hI)
    (fun n a i hi hI => by
      obtain ⟨d1, d2⟩ := hd_of h hi
      have e1 := has_k1 S (w := w) (k := i) (by omega) (by omega)
      have e2 : f_X10_at S 10 (nI i) = nI (hdN S i) := by rw [at_in (N := 6) rfl (by omega) (by decide), (xhA h (by omega)).1, d2]
      have go : covR S w i → ∀ r, r < i + 1 → covR S w r := fun hc r hr => by
        rcases Nat.lt_or_ge r i with q | q
        · exact hI r q
        · rw [show r = i by omega]; exact hc
      by_cases c1 : w.testBit i = true
      · rw [if_pos c1] at e1
        refine Or.inr ⟨(), go (Or.inl c1), fun ⟨h1, h2⟩ => ?_⟩
        dsimp only at h1 h2 ⊢
        simp only [f_X9_covers_L2, s_X9_covers_L2, nle_9R h hi, e1, nI_1, h1, ↓reduceIte, eq_self, n10, not_true_eq_false, not_false_eq_true, true_implies, false_implies, true_and, and_true, implies_true, forall_const, Sum.elim_inl, Sum.elim_inr, and_self]
        exact h2
      · rw [if_neg c1] at e1
        by_cases c2 : hdN S i &&& w = 0
        · left
          have e3 : nI (hdN S i) &&& nI w = 0 := by rw [fa_and, c2]; rfl
          simp only [f_X9_covers_L2, s_X9_covers_L2, nle_9R h hi, e1, e2, e3, ↓reduceIte, eq_self, n10, not_true_eq_false, not_false_eq_true, true_implies, false_implies, true_and, and_true, implies_true, forall_const, Sum.elim_inl, Sum.elim_inr, and_self]
          exact Or.inr (fun hc => (hc i hi).elim c1 (fun q => q c2))
        · have e3 : ¬ nI (hdN S i) &&& nI w = 0 := by
            rw [fa_and]
            exact nI_ne0 (by omega) (by have := Nat.and_le_right (n := hdN S i) (m := w); omega)
          refine Or.inr ⟨(), go (Or.inr c2), fun ⟨h1, h2⟩ => ?_⟩
          dsimp only at h1 h2 ⊢
          simp only [f_X9_covers_L2, s_X9_covers_L2, nle_9R h hi, e1, e2, e3, nI_1, h1, ↓reduceIte, eq_self, n10, not_true_eq_false, not_false_eq_true, true_implies, false_implies, true_and, and_true, implies_true, forall_const, Sum.elim_inl, Sum.elim_inr, and_self]
          exact h2)
    () (fu_9R h) (fun r hr => absurd hr (by omega))
  refine ⟨⟨key.1, fun _ _ => trivial⟩, ?_⟩
  unfold f_X9_covers
  rcases key.2 with ⟨a, b⟩ | ⟨a, b⟩
  · left
    dsimp only at a
    rw [a]
    exact ⟨rfl, b⟩
  · right
    dsimp only at a
    rw [a]
    exact ⟨rfl, b⟩
theorem covers2_ok (h : xRh S R P) {w : Nat} (hw : w < 2 ^ R) (x1 : Int32) : s_X11_cover_L27 (fu 0 (S 127 0)) S x1 (nI w) 1 0 ∧ ((f_X11_cover_L27 (fu 0 (S 127 0)) S x1 (nI w) 1 0 = 1 ∧ cov S R w) ∨ (f_X11_cover_L27 (fu 0 (S 127 0)) S x1 (nI w) 1 0 = 0 ∧ ¬ cov S R w)) := by
  have hR := xhR h
  have hw2 := (R64 h).1
  have key := xl_a0 (α := Int32) (γ := Int32 × Prop)
    (fun n a x => (f_X11_cover_L27 n S x1 (nI w) a x, s_X11_cover_L27 n S x1 (nI w) a x))
    (fun z => z.2 ∧ ((z.1 = 1 ∧ cov S R w) ∨ (z.1 = 0 ∧ ¬ cov S R w))) R (fun i a => (a = 1 ∧ ∀ r, r < i → covR S w r) ∨ (a = 0 ∧ ¬ cov S R w))
    (fun n a hI => by
      simp only [f_X11_cover_L27, s_X11_cover_L27, le_7R h, ↓reduceIte, eq_self, n10, not_true_eq_false, not_false_eq_true, true_implies, false_implies, true_and, and_true, implies_true, forall_const, Sum.elim_inl, Sum.elim_inr, and_self]
      exact hI)
    (fun n a i hi hI => by
      rcases hI with ⟨rfl, hI⟩ | ⟨rfl, hI⟩
      · obtain ⟨d1, d2⟩ := hd_of h hi
        have v1 : vp_in (nI i) 6 := vp_in_nI (by omega) (by decide)
        have e2 : (((S 128 i) ||| nI (2 ^ i)) &&& nI w) = nI ((hdN S i &&& w) ||| (2 ^ i &&& w)) := by rw [d2, fa_or, fa_and, Nat.and_or_distrib_right]
        by_cases c : covR S w i
        · have e3 : ¬ (((S 128 i) ||| nI (2 ^ i)) &&& nI w) = 0 := by
            rw [e2]
            have b1 := Nat.and_le_right (n := hdN S i) (m := w)
            have b2 := Nat.and_le_right (n := 2 ^ i) (m := w)
            have b3 : (hdN S i &&& w) ||| (2 ^ i &&& w) < 2 ^ 6 := Nat.or_lt_two_pow (by omega) (by omega)
            refine nI_ne0 (Nat.pos_of_ne_zero (fun e => ?_)) (by omega)
            have e := Nat.or_eq_zero_iff.mp e
            rcases c with c | c
            · have := e.2
              rw [Nat.and_comm] at this
              rw [(fb_bit_nat w i).mp this] at c
              cases c
            · exact c e.1
          refine Or.inr ⟨1, Or.inl ⟨rfl, fun r hr => ?_⟩, fun ⟨h1, h2⟩ => ?_⟩
          · rcases Nat.lt_or_ge r i with q | q
            · exact hI r q
            · rw [show r = i by omega]; exact c
          · dsimp only at h1 h2 ⊢
            simp only [f_X11_cover_L27, s_X11_cover_L27, nle_7R h hi, nI_1, cn (show i < 1000000 by omega), shl_k (show i ≤ 30 by omega), e3, v1, h1, ↓reduceIte, eq_self, n10, not_true_eq_false, not_false_eq_true, true_implies, false_implies, true_and, and_true, implies_true, forall_const, Sum.elim_inl, Sum.elim_inr, and_self]
            exact h2
        · have e3 : (((S 128 i) ||| nI (2 ^ i)) &&& nI w) = 0 := by
            rw [e2]
            unfold covR at c
            have q1 : hdN S i &&& w = 0 := Classical.byContradiction (fun q => c (Or.inr q))
            have q2 : w.testBit i = false := by
              cases q : w.testBit i
              · rfl
              · exact absurd (Or.inl q) c
            rw [q1, Nat.and_comm, (fb_bit_nat w i).mpr q2]
            rfl
          refine Or.inr ⟨0, Or.inr ⟨rfl, fun hc => c (hc i hi)⟩, fun ⟨h1, h2⟩ => ?_⟩
          dsimp only at h1 h2 ⊢
          simp only [f_X11_cover_L27, s_X11_cover_L27, nle_7R h hi, nI_1, cn (show i < 1000000 by omega), shl_k (show i ≤ 30 by omega), e3, v1, h1, ↓reduceIte, eq_self, n10, not_true_eq_false, not_false_eq_true, true_implies, false_implies, true_and, and_true, implies_true, forall_const, Sum.elim_inl, Sum.elim_inr, and_self]
          exact h2
      · refine Or.inr ⟨0, Or.inr ⟨rfl, hI⟩, fun ⟨h1, h2⟩ => ?_⟩
        dsimp only at h1 h2 ⊢
        simp only [f_X11_cover_L27, s_X11_cover_L27, nle_7R h hi, nI_1, h1, ↓reduceIte, eq_self, n10, not_true_eq_false, not_false_eq_true, true_implies, false_implies, true_and, and_true, implies_true, forall_const, Sum.elim_inl, Sum.elim_inr, and_self]
        exact h2)
    1 (fu_7R h) (Or.inl ⟨rfl, fun r hr => absurd hr (by omega)⟩)
  exact key
theorem full_cov : cov S R (2 ^ R - 1) := fun r hr => Or.inl (by rw [Nat.testBit_two_pow_sub_one]; exact decide_eq_true hr)
theorem cover_ok (h : xRh S R P) : s_X9_cover S ∧ s_X11_cover S ∧ f_X9_cover S = f_X11_cover S := by
  have hR := xhR h
  obtain ⟨h64, hpos⟩ := R64 h
  have eb : f_X10_bit S (S 9 5) = nI (2 ^ R) := by rw [xhR9 h, bit_k S (by omega)]
  have eb2 : (1 : Int32) <<< ((S 127 0) &&& 31) = nI (2 ^ R) := by rw [xhR7 h, shl_k (by omega)]
  have em : nI (2 ^ R) - 1 = nI (2 ^ R - 1) := by
    have := nI_pred (2 ^ R - 1)
    rw [show 2 ^ R - 1 + 1 = 2 ^ R by omega] at this
    exact this
  have k1 := xl_a0 (α := Int32) (γ := Int32 × Prop)
    (fun n a x => (f_X9_cover_L15 n S a x, s_X9_cover_L15 n S a x))
    (fun z => z.2 ∧ ∃ b, z.1 = nI b ∧ b < 2 ^ R ∧ cov S R b ∧ ∀ t, t < 2 ^ R → cov S R t → sle b t) (2 ^ R) (fun i a => ∃ b, a = nI b ∧ b < 2 ^ R ∧ cov S R b ∧ ∀ t, t < i → cov S R t → sle b t)
    (fun n a hI => by
      have c : nI (2 ^ R) ≤ nI (2 ^ R) := nI_le (Nat.le_refl _) (by omega)
      simp only [f_X9_cover_L15, s_X9_cover_L15, eb, c, ↓reduceIte, eq_self, n10, not_true_eq_false, not_false_eq_true, true_implies, false_implies, true_and, and_true, implies_true, forall_const, Sum.elim_inl, Sum.elim_inr, and_self]
      exact hI)
    (fun n a i hi hI => by
      obtain ⟨b, rfl, b1, b2, b3⟩ := hI
      have c : ¬ nI (2 ^ R) ≤ nI i := nI_ge hi (by omega)
      obtain ⟨o1, o2⟩ := covers_ok h hi
      rcases o2 with ⟨o2, o3⟩ | ⟨o2, o3⟩
      · have e := small_eq S (a := i) (b := b) (by omega) (by omega)
        by_cases c2 : pc i < pc b ∨ (pc i = pc b ∧ i < b)
        · rw [if_pos c2] at e
          refine Or.inr ⟨nI i, ⟨i, rfl, hi, o3, fun t ht hc => ?_⟩, fun ⟨h1, h2⟩ => ?_⟩
          · rcases Nat.lt_or_ge t i with q | q
            · have := b3 t q hc
              unfold sle at this ⊢
              omega
            · rw [show t = i by omega]
              exact Or.inr ⟨rfl, Nat.le_refl _⟩
          · dsimp only at h1 h2 ⊢
            simp only [f_X9_cover_L15, s_X9_cover_L15, eb, c, o1, o2, e, nI_1, h1, ↓reduceIte, eq_self, n10, not_true_eq_false, not_false_eq_true, true_implies, false_implies, true_and, and_true, implies_true, forall_const, Sum.elim_inl, Sum.elim_inr, and_self]
            exact h2
        · rw [if_neg c2] at e
          refine Or.inr ⟨nI b, ⟨b, rfl, b1, b2, fun t ht hc => ?_⟩, fun ⟨h1, h2⟩ => ?_⟩
          · rcases Nat.lt_or_ge t i with q | q
            · exact b3 t q hc
            · rw [show t = i by omega]
              unfold sle
              omega
          · dsimp only at h1 h2 ⊢
            simp only [f_X9_cover_L15, s_X9_cover_L15, eb, c, o1, o2, e, nI_1, h1, ↓reduceIte, eq_self, n10, not_true_eq_false, not_false_eq_true, true_implies, false_implies, true_and, and_true, implies_true, forall_const, Sum.elim_inl, Sum.elim_inr, and_self]
            exact h2
      · refine Or.inr ⟨nI b, ⟨b, rfl, b1, b2, fun t ht hc => ?_⟩, fun ⟨h1, h2⟩ => ?_⟩
        · rcases Nat.lt_or_ge t i with q | q
          · exact b3 t q hc
          · rw [show t = i by omega] at hc
            exact absurd hc o3
        · dsimp only at h1 h2 ⊢
          simp only [f_X9_cover_L15, s_X9_cover_L15, eb, c, o1, o2, nI_1, h1, ↓reduceIte, eq_self, n10, not_true_eq_false, not_false_eq_true, true_implies, false_implies, true_and, and_true, implies_true, forall_const, Sum.elim_inl, Sum.elim_inr, and_self]
          exact h2)
    (n := fuel_X9_cover_15) (nI (2 ^ R - 1)) (by unfold fuel_X9_cover_15; omega) ⟨2 ^ R - 1, rfl, by omega, full_cov, fun t ht => absurd ht (by omega)⟩
  have k2 := xl_d (α := Int32) (γ := Int32 × Prop)
    (fun n a x => (f_X11_cover_L18 n S a x, s_X11_cover_L18 n S a x))
    (fun z => z.2 ∧ ∃ b, z.1 = nI b ∧ b < 2 ^ R ∧ cov S R b ∧ ∀ t, t < 2 ^ R → cov S R t → sle b t) (fun i a => i ≤ 2 ^ R ∧ ∃ b, a = nI b ∧ b < 2 ^ R ∧ cov S R b ∧ ∀ t, i ≤ t → t < 2 ^ R → cov S R t → sle b t)
    (fun n a hI => by
      obtain ⟨-, b, b0, b1, b2, b3⟩ := hI
      have c : (-1 : Int32) < 0 := by decide
      simp only [f_X11_cover_L18, s_X11_cover_L18, c, ↓reduceIte, eq_self, n10, not_true_eq_false, not_false_eq_true, true_implies, false_implies, true_and, and_true, implies_true, forall_const, Sum.elim_inl, Sum.elim_inr, and_self]
      exact ⟨b, b0, b1, b2, fun t ht hc => b3 t (by omega) ht hc⟩)
    (fun n a i hI => by
      obtain ⟨hi, b, rfl, b1, b2, b3⟩ := hI
      have c : ¬ nI i < 0 := nI_pos (by omega)
      obtain ⟨o1, o2⟩ := covers2_ok h (w := i) (by omega) (nI b)
      have n1 := ones_eq S (w := i) (by omega)
      have n2 := ones_eq S (w := b) (by omega)
      have l1 := pc_le (w := i) (by omega)
      have l2 := pc_le (w := b) (by omega)
      have s1 := s_ones S (nI i)
      have s2 := s_ones S (nI b)
      rcases o2 with ⟨o2, o3⟩ | ⟨o2, o3⟩
      · by_cases c2 : pc b < pc i
        · have e : nI (pc b) < nI (pc i) := nI_lt c2 (by omega)
          refine Or.inr ⟨nI b, ⟨by omega, b, rfl, b1, b2, fun t ht ht2 hc => ?_⟩, fun ⟨h1, h2⟩ => ?_⟩
          · rcases Nat.lt_or_ge i t with q | q
            · exact b3 t q ht2 hc
            · rw [show t = i by omega]
              exact Or.inl c2
          · dsimp only at h1 h2 ⊢
            simp only [f_X11_cover_L18, s_X11_cover_L18, c, o1, o2, n1, n2, s1, s2, e, h1, ↓reduceIte, eq_self, n10, not_true_eq_false, not_false_eq_true, true_implies, false_implies, true_and, and_true, implies_true, forall_const, Sum.elim_inl, Sum.elim_inr, and_self]
            exact h2
        · have e : ¬ nI (pc b) < nI (pc i) := nI_nlt (by omega) (by omega)
          refine Or.inr ⟨nI i, ⟨by omega, i, rfl, by omega, o3, fun t ht ht2 hc => ?_⟩, fun ⟨h1, h2⟩ => ?_⟩
          · rcases Nat.lt_or_ge i t with q | q
            · have := b3 t q ht2 hc
              unfold sle at this ⊢
              omega
            · rw [show t = i by omega]
              exact Or.inr ⟨rfl, Nat.le_refl _⟩
          · dsimp only at h1 h2 ⊢
            simp only [f_X11_cover_L18, s_X11_cover_L18, c, o1, o2, n1, n2, s1, s2, e, h1, ↓reduceIte, eq_self, n10, not_true_eq_false, not_false_eq_true, true_implies, false_implies, true_and, and_true, implies_true, forall_const, Sum.elim_inl, Sum.elim_inr, and_self]
            exact h2
      · refine Or.inr ⟨nI b, ⟨by omega, b, rfl, b1, b2, fun t ht ht2 hc => ?_⟩, fun ⟨h1, h2⟩ => ?_⟩
        · rcases Nat.lt_or_ge i t with q | q
          · exact b3 t q ht2 hc
          · rw [show t = i by omega] at hc
            exact absurd hc o3
        · dsimp only at h1 h2 ⊢
          simp only [f_X11_cover_L18, s_X11_cover_L18, c, o1, o2, h1, ↓reduceIte, eq_self, n10, not_true_eq_false, not_false_eq_true, true_implies, false_implies, true_and, and_true, implies_true, forall_const, Sum.elim_inl, Sum.elim_inr, and_self]
          exact h2)
    (2 ^ R) (nI (2 ^ R - 1)) (fd (nI (2 ^ R - 1))) (by rw [fd_n (by omega)]; omega) ⟨Nat.le_refl _, 2 ^ R - 1, rfl, by omega, full_cov, fun t ht ht2 => absurd ht (by omega)⟩
  rw [← Int32.sub_eq_add_neg, em] at k2
  obtain ⟨k1a, b, k1b, b1, b2, b3⟩ := k1
  obtain ⟨k2a, b', k2b, b1', b2', b3'⟩ := k2
  have hb : b = b' := by
    have q1 := b3 b' b1' b2'
    have q2 := b3' b b1 b2
    unfold sle at q1 q2
    omega
  refine ⟨?_, ?_, ?_⟩
  · unfold s_X9_cover
    dsimp only
    rw [eb, em]
    exact ⟨k1a, trivial⟩
  · unfold s_X11_cover
    dsimp only
    rw [eb2, em]
    exact ⟨k2a, trivial⟩
  · unfold f_X9_cover f_X11_cover
    dsimp only
    rw [eb, eb2, em]
    dsimp only at k1b k2b
    rw [k1b, k2b, hb]
end CV
theorem op_told {S : xS} (h : xR S) (p0 : Int32) : s_X10_told S p0 ∧ s_X11_told S p0 ∧ f_X10_told S p0 = (f_X11_told S p0) ∧ xR S := by
  obtain ⟨⟨tn, -, t1, t2, -⟩, -, ⟨R, P, hh, hk, hv, ⟨pn, pc0, -, -, -, u1, u2, -⟩, ⟨bn, -, w1, w2, -⟩, -⟩, ⟨nn, -, n1, n2, -⟩, -⟩ := id h
  obtain ⟨a1, a2, a3⟩ := praised_ok hh hk hv
  obtain ⟨b1, b2, b3⟩ := pairs_ok hh hk hv
  obtain ⟨c1, c2, c3⟩ := cover_ok hh
  have e0 : S 9 5 = S 127 0 := by rw [xhR9 hh, xhR7 hh]
  have e4 : S 9 9 = S 127 6 := by rw [xhP9 hh, xhP7 hh]
  have e2 : S 9 7 = S 127 2 := hh.2.2.2.2.2.2.2.2.1
  have e3 : S 9 8 = S 127 3 := hh.2.2.2.2.2.2.2.2.2.1
  refine ⟨?_, ?_, ?_, h⟩
  · unfold s_X10_told
    simp only [a1, b1, c1, ↓reduceIte, eq_self, n10, not_true_eq_false, not_false_eq_true, true_implies, false_implies, true_and, and_true, implies_true, forall_const, Sum.elim_inl, Sum.elim_inr, and_self]
  · unfold s_X11_told
    simp only [a2, b2, c2, ↓reduceIte, eq_self, n10, not_true_eq_false, not_false_eq_true, true_implies, false_implies, true_and, and_true, implies_true, forall_const, Sum.elim_inl, Sum.elim_inr, and_self]
  · unfold f_X10_told f_X11_told
    dsimp only
    rw [a3, b3, c3, e0, e4, e2, e3, xhC hh, t1, t2, u1, u2, w1, w2, n1, n2, kH hk, kC hk, c_1]
    rfl
