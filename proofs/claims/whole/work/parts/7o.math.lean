/-! THE DRAFT AND THE HILL THAT IS READ -/
def hR (C M : xS) (R P : Nat) : Prop := R ≤ 6 ∧ P ≤ 7 ∧ (R = 0 ∨ 2 ≤ R) ∧ (R = 0 → P = 0) ∧ C 3 5 = nI R ∧ M 127 24 = nI R ∧ C 3 6 = M 127 25 ∧ C 3 9 = nI P ∧ M 127 30 = nI P ∧ (∃ b, b ≤ 9 ∧ C 3 7 = nI b ∧ M 127 26 = nI b) ∧ (∃ b, b ≤ 9 ∧ C 3 8 = nI b ∧ M 127 27 = nI b) ∧ (∃ b, b ≤ 20 ∧ C 1 7 = nI b ∧ M 127 33 = nI b) ∧ (∀ r, r < 6 → C 4 r = M 139 r ∧ ∃ w, w < 2 ^ R ∧ M 139 r = nI w) ∧ (∀ r, r < 6 → C 5 r = M 140 r ∧ ∃ w, w < 2 ^ R ∧ M 140 r = nI w) ∧ (∀ p, p < P → C 6 p = M 141 p ∧ (∃ d, d < 4 ∧ M 141 p = nI d) ∧ ∃ h, h < R ∧ C 7 p = nI h ∧ M 142 p = nI h) ∧ (∀ p, P ≤ p → p < 7 → C 7 p = 0) ∧ ∀ j, j < 49 → C 8 j = M 143 j ∧ ∃ v, v ≤ 9 ∧ M 143 j = nI v
theorem hR_cg {C M C' M' : xS} {R P : Nat} (e : ∀ a, 3 ≤ a → a ≤ 8 → C' a = C a) (f : ∀ a, 139 ≤ a → a ≤ 143 → M' a = M a) (g : ∀ j, (j = 24 ∨ j = 25 ∨ j = 26 ∨ j = 27 ∨ j = 30 ∨ j = 33) → M' 127 j = M 127 j) (e17 : C' 1 7 = C 1 7) (h : hR C M R P) : hR C' M' R P := by
  unfold hR at h ⊢
  rw [e17, e 3 (by omega) (by omega), e 4 (by omega) (by omega), e 5 (by omega) (by omega), e 6 (by omega) (by omega), e 7 (by omega) (by omega), e 8 (by omega) (by omega), f 139 (by omega) (by omega), f 140 (by omega) (by omega), f 141 (by omega) (by omega), f 142 (by omega) (by omega), f 143 (by omega) (by omega), g 24 (by omega), g 25 (by omega), g 26 (by omega), g 27 (by omega), g 30 (by omega), g 33 (by omega)]
  exact h
/-- class and reference stand at the same place of the text, without a fault -/
def sd (C0 M0 : xS) (n k R P : Nat) (C M : xS) : Prop := txt C M n ∧ hR C M R P ∧ pos C M k ∧ k ≤ n ∧ C 1 3 = 0 ∧ C 1 4 = C0 1 4 ∧ M 127 20 = M0 127 20 ∧ frC C0 C ∧ frM M0 M
theorem sd_u7 {C0 M0 C M C' M' : xS} {n k R P R' P' : Nat} (h : sd C0 M0 n k R P C M) (d : hR C' M' R' P') (e : ∀ a, (a < 3 ∨ 8 < a) → a ≠ 1 → C' a = C a) (e1 : ∀ j, j ≠ 7 → C' 1 j = C 1 j) (f : ∀ a, (a < 139 ∨ 143 < a) → a ≠ 127 → M' a = M a) (g : ∀ j, j < 24 → M' 127 j = M 127 j) (g36 : M' 127 36 = M 127 36) : sd C0 M0 n k R' P' C' M' := by
  obtain ⟨t, -, hp, hk, hf, h4, h20, fc, fm⟩ := h
  have f1 : frC C C' := ⟨e, e1 2 (by decide)⟩
  have f2 : frM M M' := ⟨f, fun j hj => by
    rcases hj with q | q
    · exact g j (by omega)
    · rw [q]; exact g36⟩
  exact ⟨txt_f t f1 f2, d, ⟨by rw [e1 5 (by decide)]; exact hp.1, by rw [g 21 (by decide)]; exact hp.2⟩, hk, by rw [e1 3 (by decide)]; exact hf, by rw [e1 4 (by decide)]; exact h4, by rw [g 20 (by decide)]; exact h20, frC_t fc f1, frM_t fm f2⟩
theorem sd_u {C0 M0 C M C' M' : xS} {n k R P R' P' : Nat} (h : sd C0 M0 n k R P C M) (d : hR C' M' R' P') (e : ∀ a, (a < 3 ∨ 8 < a) → C' a = C a) (f : ∀ a, (a < 139 ∨ 143 < a) → a ≠ 127 → M' a = M a) (g : ∀ j, j < 24 → M' 127 j = M 127 j) (g36 : M' 127 36 = M 127 36) : sd C0 M0 n k R' P' C' M' :=
  sd_u7 h d (fun a q _ => e a q) (fun j _ => by rw [e 1 (by omega)]) f g g36
theorem fl_m {C0 M0 C M M' : xS} {r : Int32} (h : fl C0 M0 r C M) (g : frM M M') (g20 : M' 127 20 = M 127 20) : fl C0 M0 r C M' := by
  obtain ⟨f, x, k, h1, h2, h3, h4, h5, h6, h7, h8, h9, h10, h11⟩ := h
  exact ⟨f, x, k, h1, h2, h3, h4, h5, h6, h7, by rw [g20]; exact h8, h9, h10, frM_t h11 g⟩
/-- what the reading of a number leaves, with a fault or without -/
def frT (M M' : xS) : Prop := (∀ a, a ≠ 127 → M' a = M a) ∧ ∀ j, j ≠ 20 → j ≠ 21 → j ≠ 22 → j ≠ 23 → M' 127 j = M 127 j
theorem frT_r (M : xS) : frT M M := ⟨fun _ _ => rfl, fun _ _ _ _ _ => rfl⟩
theorem frT_u {M M' : xS} {x : Nat} {y : Int32} (h : frT M M') (h1 : 20 ≤ x) (h2 : x ≤ 23) : frT M (xu M' 127 x y) := ⟨fun a q => by rw [xu_ne q]; exact h.1 a q, fun j a b c d => by rw [xu_eq, upd_ne (by omega)]; exact h.2 j a b c d⟩
theorem here_fr : ∀ (l : Nat) (S T : xS), frT T S → frT T (f_X11_here_L0 l S)
  | 0, _, _, h => h
  | l + 1, S, T, h => by
    by_cases c1 : S 127 19 ≤ S 127 21
    · simp only [f_X11_here_L0, c1, ↓reduceIte, eq_self, n10, not_true_eq_false, not_false_eq_true, true_implies, false_implies, true_and, and_true, implies_true, forall_const, Sum.elim_inl, Sum.elim_inr, and_self]
      exact h
    · by_cases c2 : S 138 (S 127 21).toNatClampNeg = 32
      · simp only [f_X11_here_L0, c1, c2, ↓reduceIte, eq_self, n10, not_true_eq_false, not_false_eq_true, true_implies, false_implies, true_and, and_true, implies_true, forall_const, Sum.elim_inl, Sum.elim_inr, and_self]
        exact here_fr l _ T (frT_u h (by decide) (by decide))
      · simp only [f_X11_here_L0, c1, c2, ↓reduceIte, eq_self, n10, not_true_eq_false, not_false_eq_true, true_implies, false_implies, true_and, and_true, implies_true, forall_const, Sum.elim_inl, Sum.elim_inr, and_self]
        exact h
theorem tn42_fr (p q : Int32) : ∀ (l : Nat) (S T : xS), frT T S → frT T (f_X11_takeNumber_L42 l S p q)
  | 0, _, _, h => h
  | l + 1, S, T, h => by
    by_cases c1 : S 127 19 ≤ S 127 21
    · simp only [f_X11_takeNumber_L42, c1, ↓reduceIte, eq_self, n10, not_true_eq_false, not_false_eq_true, true_implies, false_implies, true_and, and_true, implies_true, forall_const, Sum.elim_inl, Sum.elim_inr, and_self]
      exact h
    · by_cases c2 : f_X11_in S (S 138 (S 127 21).toNatClampNeg).toInt64 48 57 = 0
      · simp only [f_X11_takeNumber_L42, c1, c2, ↓reduceIte, eq_self, n10, not_true_eq_false, not_false_eq_true, true_implies, false_implies, true_and, and_true, implies_true, forall_const, Sum.elim_inl, Sum.elim_inr, and_self]
        exact h
      · by_cases c3 : S 127 22 ≤ 10000
        · simp only [f_X11_takeNumber_L42, c1, c2, c3, ↓reduceIte, eq_self, n10, not_true_eq_false, not_false_eq_true, true_implies, false_implies, true_and, and_true, implies_true, forall_const, Sum.elim_inl, Sum.elim_inr, and_self]
          exact tn42_fr p q l _ T (frT_u (frT_u h (by decide) (by decide)) (by decide) (by decide))
        · simp only [f_X11_takeNumber_L42, c1, c2, c3, ↓reduceIte, eq_self, n10, not_true_eq_false, not_false_eq_true, true_implies, false_implies, true_and, and_true, implies_true, forall_const, Sum.elim_inl, Sum.elim_inr, and_self]
          exact tn42_fr p q l _ T (frT_u (frT_u h (by decide) (by decide)) (by decide) (by decide))
theorem tn_fr (M : xS) (p q : Int32) : frT M (f_X11_takeNumber M p q).2 := by
  have eh : frT M (f_X11_here M).2 := by
    have e := here_fr (fu (M 127 21) (M 127 19)) M M (frT_r M)
    unfold f_X11_here
    dsimp only
    split
    · exact e
    · exact e
  unfold f_X11_takeNumber
  dsimp only
  have e2 := tn42_fr p q (fu (xu (xu (f_X11_here M).2 127 23 ((f_X11_here M).2 127 21)) 127 22 0 127 21) (xu (xu (f_X11_here M).2 127 23 ((f_X11_here M).2 127 21)) 127 22 0 127 19)) (xu (xu (f_X11_here M).2 127 23 ((f_X11_here M).2 127 21)) 127 22 0) M (frT_u (frT_u eh (by decide) (by decide)) (by decide) (by decide))
  split
  · exact frT_u (x := 20) eh (by decide) (by decide)
  · split
    · exact frT_u (x := 20) e2 (by decide) (by decide)
    · split
      · exact frT_u (x := 20) e2 (by decide) (by decide)
      · exact e2
theorem num_n {C : xS} (h : ¬ C 1 3 = 0) (p q : Int32) : f_X8_readNumber C p q = (0, C) ∧ s_X8_readNumber C p q := ⟨by unfold f_X8_readNumber; rw [if_neg h], fun g => absurd g h, fun _ => trivial⟩
theorem num_h {C0 M0 C M : xS} {n k R P : Nat} (h : sd C0 M0 n k R P C M) (p q : Int32) : s_X8_readNumber C p q ∧ s_X11_takeNumber M p q ∧ ((∃ v k' : Nat, k ≤ k' ∧ v < 1000 ∧ p.toInt ≤ v ∧ (v : Int) ≤ q.toInt ∧ (f_X8_readNumber C p q).1 = nI v ∧ (f_X11_takeNumber M p q).1 = 0 ∧ (f_X11_takeNumber M p q).2 127 22 = nI v ∧ (∃ x, x ≤ 240 ∧ (f_X8_readNumber C p q).2 1 6 = nI x ∧ (f_X11_takeNumber M p q).2 127 23 = nI x) ∧ (∀ a, a ≠ 1 → (f_X8_readNumber C p q).2 a = C a) ∧ (∀ a, a ≠ 127 → (f_X11_takeNumber M p q).2 a = M a) ∧ (∀ j, 24 ≤ j → (f_X11_takeNumber M p q).2 127 j = M 127 j) ∧ sd C0 M0 n k' R P (f_X8_readNumber C p q).2 (f_X11_takeNumber M p q).2) ∨ fl C0 M0 (f_X11_takeNumber M p q).1 (f_X8_readNumber C p q).2 (f_X11_takeNumber M p q).2) := by
  obtain ⟨t, d, hp, hk, hf, h4, h20, fc, fm⟩ := h
  have hn : n ≤ 240 := t.2.2.1
  obtain ⟨a1, a2, a3⟩ := num_ok t hp hk hf p q
  refine ⟨a1, a2, ?_⟩
  rcases a3 with ⟨v, b, e1, e2⟩ | b
  · left
    have bf := nmOk_fr b
    obtain ⟨v1, v2, v3, ⟨k', x, k1, k2, k3, k4, k5, k6, k7⟩, f1, f2, f3, f4⟩ := b
    rw [hp.1, nI_toInt (by omega)] at k7
    exact ⟨v, k', by omega, v1, v2, v3, e1, e2, k6, ⟨x, by omega, k4, k5⟩, f1, f3, fun j hj => f4 j (by omega) (by omega) (by omega), txt_f t bf.1 bf.2, hR_cg (fun a _ _ => f1 a (by omega)) (fun a _ _ => f3 a (by omega)) (fun j hj => f4 j (by omega) (by omega) (by omega)) (f2 7 (by decide) (by decide)) d, k3, k1, by rw [f2 3 (by decide) (by decide)]; exact hf, by rw [f2 4 (by decide) (by decide)]; exact h4, by rw [f4 20 (by decide) (by decide) (by decide)]; exact h20, frC_t fc bf.1, frM_t fm bf.2⟩
  · exact Or.inr (fl_t b fc fm)
theorem nle_of {r : Int32} (h : 0 < r) : ¬ r ≤ 0 := by
  rw [i_lt] at h
  rw [i_le]
  omega
theorem nm1 {R : Nat} (h : R < 1000) : (nI R - 1).toInt = (R : Int) - 1 := by
  have e : (1 : Int32) = nI 1 := rfl
  rw [e, pk_sub_toInt (by omega) (by omega)]
  omega
/-- a clause's body is read -/
def bo (C0 M0 : xS) (n k : Nat) (r : Int32) (C M : xS) : Prop := (r = 0 ∧ ∃ k' R P, k ≤ k' ∧ sd C0 M0 n k' R P C M) ∨ fl C0 M0 r C M
theorem z00 : (0 : Int32) ≤ 0 := by decide
theorem rooms_ok {C0 M0 C M : xS} {n k P : Nat} (h : sd C0 M0 n k 0 P C M) : s_X8_readRooms C ∧ s_X11_takeRooms M ∧ bo C0 M0 n k (f_X11_takeRooms M).1 (f_X8_readRooms C) (f_X11_takeRooms M).2 := by
  obtain ⟨a1, a2, a3⟩ := num_h h 2 6
  unfold s_X8_readRooms s_X11_takeRooms f_X8_readRooms f_X11_takeRooms
  dsimp only
  generalize f_X8_readNumber C 2 6 = N at a3 ⊢
  generalize f_X11_takeNumber M 2 6 = T at a3 ⊢
  obtain ⟨N1, N2⟩ := N
  obtain ⟨T1, T2⟩ := T
  dsimp only at a3 ⊢
  rcases a3 with ⟨v, k1, hk, v1, v2, v3, rfl, rfl, e22, -, -, -, -, g⟩ | g
  · have v2' : 2 ≤ v := by
      have e : (2 : Int32).toInt = 2 := rfl
      omega
    have v3' : v ≤ 6 := by
      have e : (6 : Int32).toInt = 6 := rfl
      omega
    rw [bit_k _ (by omega), e22, shl_k (by omega)]
    obtain ⟨c1, c2, c3⟩ := num_h g 0 (nI (2 ^ v) - 1)
    have c4 := tn_fr T2 0 (nI (2 ^ v) - 1)
    generalize f_X8_readNumber N2 0 (nI (2 ^ v) - 1) = N' at c3 ⊢
    generalize f_X11_takeNumber T2 0 (nI (2 ^ v) - 1) = T' at c3 c4 ⊢
    obtain ⟨N1', N2'⟩ := N'
    obtain ⟨T1', T2'⟩ := T'
    dsimp only at c3 c4 ⊢
    refine ⟨⟨a1, c1, trivial⟩, ⟨a2, fun _ => ⟨c2, trivial⟩, fun _ => trivial⟩, ?_⟩
    rw [if_pos z00]
    rcases c3 with ⟨w, k2, hk2, w1, w2, w3, rfl, rfl, f22, -, -, -, -, g'⟩ | g'
    · rw [if_pos g'.2.2.2.2.1]
      have b22 : xu T2' 127 24 (nI v) 127 22 = nI w := by rw [xu_eq, upd_ne (by decide)]; exact f22
      dsimp only
      rw [b22]
      generalize hA : xu (xu N2' 3 5 (nI v)) 3 6 (nI w) = A
      generalize hB : xu (xu T2' 127 24 (nI v)) 127 25 (nI w) = B
      have eA : ∀ a, a ≠ 3 → A a = N2' a := fun a q => by rw [← hA, xu_ne q, xu_ne q]
      have ej : ∀ j, j ≠ 5 → j ≠ 6 → A 3 j = N2' 3 j := fun j q1 q2 => by rw [← hA, xu_eq, upd_ne q2, xu_eq, upd_ne q1]
      have e5 : A 3 5 = nI v := by rw [← hA, xu_eq, upd_ne (by decide), xu_eq, upd_eq]
      have e6 : A 3 6 = nI w := by rw [← hA, xu_eq, upd_eq]
      have fB : ∀ a, a ≠ 127 → B a = T2' a := fun a q => by rw [← hB, xu_ne q, xu_ne q]
      have fj : ∀ j, j ≠ 24 → j ≠ 25 → B 127 j = T2' 127 j := fun j q1 q2 => by rw [← hB, xu_eq, upd_ne q2, xu_eq, upd_ne q1]
      have f24 : B 127 24 = nI v := by rw [← hB, xu_eq, upd_ne (by decide), xu_eq, upd_eq]
      have f25 : B 127 25 = nI w := by rw [← hB, xu_eq, upd_eq]
      obtain ⟨-, -, -, d4, -, -, -, d8, d9, ⟨b1, b2, b3, b4⟩, ⟨x1, x2, x3, x4⟩, ⟨y1, y2, y3, y4⟩, dA, dW, dP, d7, dL⟩ := g'.2.1
      have hP : P = 0 := d4 rfl
      subst hP
      have up : ∀ u : Nat, u < 2 ^ 0 → u < 2 ^ v := fun u q => by
        have : 0 < 2 ^ v := Nat.two_pow_pos v
        omega
      refine Or.inl ⟨rfl, k2, v, 0, by omega, sd_u g' ⟨v3', by decide, Or.inr v2', fun _ => rfl, e5, f24, by rw [e6, f25], by rw [ej 9 (by decide) (by decide)]; exact d8, by rw [fj 30 (by decide) (by decide)]; exact d9, ⟨b1, b2, by rw [ej 7 (by decide) (by decide)]; exact b3, by rw [fj 26 (by decide) (by decide)]; exact b4⟩, ⟨x1, x2, by rw [ej 8 (by decide) (by decide)]; exact x3, by rw [fj 27 (by decide) (by decide)]; exact x4⟩, ⟨y1, y2, by rw [eA 1 (by decide)]; exact y3, by rw [fj 33 (by decide) (by decide)]; exact y4⟩, ?_, ?_, fun p q => absurd q (by omega), by rw [eA 7 (by decide)]; exact d7, by rw [eA 8 (by decide), fB 143 (by decide)]; exact dL⟩ (fun a q => eA a (by omega)) (fun a _ q => fB a q) (fun j q => fj j (by omega) (by omega)) (fj 36 (by decide) (by decide))⟩
      · rw [eA 4 (by decide), fB 139 (by decide)]
        intro r hr
        obtain ⟨z1, z, z2, z3⟩ := dA r hr
        exact ⟨z1, z, up z z2, z3⟩
      · rw [eA 5 (by decide), fB 140 (by decide)]
        intro r hr
        obtain ⟨z1, z, z2, z3⟩ := dW r hr
        exact ⟨z1, z, up z z2, z3⟩
    · rw [if_neg (fl_r g').1]
      dsimp only
      refine Or.inr (fl_m g' ⟨fun a _ q => by rw [xu_ne q, xu_ne q], fun j q => by rw [xu_eq, upd_ne (by omega), xu_eq, upd_ne (by omega)]⟩ (by rw [xu_eq, upd_ne (by decide), xu_eq, upd_ne (by decide)]))
  · obtain ⟨g1, g2, -⟩ := fl_r g
    rw [(num_n g1 _ _).1, if_neg g1, if_neg (nle_of g2)]
    exact ⟨⟨a1, (num_n g1 _ _).2, trivial⟩, ⟨a2, fun q => absurd q (nle_of g2), fun _ => trivial⟩, Or.inr g⟩
/-- two rooms -/
def pN1 (C : xS) : Int32 × xS := f_X8_readNumber C 0 (C 3 5 - 1)
def pN2 (C : xS) : Int32 × xS := f_X8_readNumber (pN1 C).2 0 ((pN1 C).2 3 5 - 1)
def pairR (C0 M0 : xS) (n k R P kc : Nat) (C M : xS) (N1 N2 T : Int32 × xS) : Prop := (∃ a b k' : Nat, a < R ∧ b < R ∧ a ≠ b ∧ k ≤ k' ∧ N1.1 = nI a ∧ N2.1 = nI b ∧ T.1 = 0 ∧ T.2 127 35 = nI a ∧ T.2 127 22 = nI b ∧ f_X10_has N2.2 (f_X10_at N2.2 kc (nI a)) (nI b) = 0 ∧ (∀ x, x ≠ 1 → N2.2 x = C x) ∧ (∀ j, 24 ≤ j → j ≠ 35 → T.2 127 j = M 127 j) ∧ sd C0 M0 n k' R P N2.2 T.2) ∨ (¬ N2.2 1 3 = 0 ∧ fl C0 M0 T.1 N2.2 T.2) ∨ (N2.2 1 3 = 0 ∧ fl C0 M0 T.1 (f_X8_blame N2.2 4 (N2.2 1 6)) T.2 ∧ (N1.1 = N2.1 ∨ ¬ f_X10_has N2.2 (f_X10_at N2.2 kc N1.1) N2.1 = 0))
def tp2 (S : xS) (km : Nat) : Int32 × xS := if (f_X11_takeNumber S 0 (S 127 24 - 1)).1 ≤ 0 then (if (f_X11_takeNumber S 0 (S 127 24 - 1)).2 127 22 = (f_X11_takeNumber S 0 (S 127 24 - 1)).2 127 35 then f_X11_fails (f_X11_takeNumber S 0 (S 127 24 - 1)).2 4 ((f_X11_takeNumber S 0 (S 127 24 - 1)).2 127 23) else if f_X11_has (f_X11_takeNumber S 0 (S 127 24 - 1)).2 ((f_X11_takeNumber S 0 (S 127 24 - 1)).2 km ((f_X11_takeNumber S 0 (S 127 24 - 1)).2 127 35).toNatClampNeg) ((f_X11_takeNumber S 0 (S 127 24 - 1)).2 127 22) = 0 then (0, (f_X11_takeNumber S 0 (S 127 24 - 1)).2) else f_X11_fails (f_X11_takeNumber S 0 (S 127 24 - 1)).2 4 ((f_X11_takeNumber S 0 (S 127 24 - 1)).2 127 23)) else f_X11_takeNumber S 0 (S 127 24 - 1)
theorem tp_eq (M : xS) (km : Nat) : f_X11_takePair M km = if (f_X11_takeNumber M 0 (M 127 24 - 1)).1 ≤ 0 then tp2 (xu (f_X11_takeNumber M 0 (M 127 24 - 1)).2 127 35 ((f_X11_takeNumber M 0 (M 127 24 - 1)).2 127 22)) km else f_X11_takeNumber M 0 (M 127 24 - 1) := by
  simp only [f_X11_takePair, tp2, pr_eta]
theorem pair_ok {C0 M0 C M : xS} {n k R P kc km : Nat} (hkm : (kc = 4 ∧ km = 139) ∨ (kc = 5 ∧ km = 140)) (h : sd C0 M0 n k R P C M) : (s_X8_readNumber C 0 (C 3 5 - 1) ∧ s_X8_readNumber (pN1 C).2 0 ((pN1 C).2 3 5 - 1) ∧ s_X11_takePair M km) ∧ pairR C0 M0 n k R P kc C M (pN1 C) (pN2 C) (f_X11_takePair M km) := by
  have hR6 : R ≤ 6 := h.2.1.1
  have hn : n ≤ 240 := h.1.2.2.1
  have c35 : C 3 5 = nI R := h.2.1.2.2.2.2.1
  have m24 : M 127 24 = nI R := h.2.1.2.2.2.2.2.1
  have xl : xlen kc = 6 ∧ xlen km = 6 := by
    rcases hkm with ⟨rfl, rfl⟩ | ⟨rfl, rfl⟩
    · exact ⟨rfl, rfl⟩
    · exact ⟨rfl, rfl⟩
  have q1 := nm1 (R := R) (by omega)
  obtain ⟨a1, a2, a3⟩ := num_h h 0 (nI R - 1)
  have eN : pN1 C = f_X8_readNumber C 0 (nI R - 1) := by unfold pN1; rw [c35]
  have eT := tp_eq M km
  rw [m24] at eT
  unfold pN2 s_X11_takePair
  dsimp only
  rw [eN, eT, c35, m24]
  generalize f_X8_readNumber C 0 (nI R - 1) = N at a3 ⊢
  generalize f_X11_takeNumber M 0 (nI R - 1) = T at a3 ⊢
  clear eN eT
  obtain ⟨N1, N2⟩ := N
  obtain ⟨T1, T2⟩ := T
  dsimp only at a3 ⊢
  rcases a3 with ⟨v, k1, hk1, v1, v2, v3, rfl, rfl, e22, -, fc, fm, fj, g⟩ | g
  · rw [q1] at v3
    have hv : v < R := by omega
    rw [e22, if_pos z00]
    have gS : sd C0 M0 n k1 R P N2 (xu T2 127 35 (nI v)) := sd_u g (hR_cg (fun _ _ _ => rfl) (fun a _ _ => xu_ne (by omega)) (fun j hj => by rw [xu_eq, upd_ne (by omega)]) rfl g.2.1) (fun _ _ => rfl) (fun a _ q => xu_ne q) (fun j hj => by rw [xu_eq, upd_ne (by omega)]) (by rw [xu_eq, upd_ne (by decide)])
    have s35 : xu T2 127 35 (nI v) 127 35 = nI v := by rw [xu_eq, upd_eq]
    have sj : ∀ j, 24 ≤ j → j ≠ 35 → xu T2 127 35 (nI v) 127 j = M 127 j := fun j q1 q2 => by rw [xu_eq, upd_ne q2]; exact fj j q1
    generalize xu T2 127 35 (nI v) = S6 at gS s35 sj ⊢
    unfold tp2
    rw [gS.2.1.2.2.2.2.1, gS.2.1.2.2.2.2.2.1]
    obtain ⟨b1, b2, b3⟩ := num_h gS 0 (nI R - 1)
    generalize f_X8_readNumber N2 0 (nI R - 1) = N' at b3 ⊢
    generalize f_X11_takeNumber S6 0 (nI R - 1) = T' at b3 ⊢
    obtain ⟨N1', N2'⟩ := N'
    obtain ⟨T1', T2'⟩ := T'
    dsimp only at b3 ⊢
    rcases b3 with ⟨w, k2, hk2, w1, w2, w3, rfl, rfl, f22, ⟨x, x1, x2, x3⟩, gc, gm, gj, g'⟩ | g'
    · rw [q1] at w3
      have hw : w < R := by omega
      have t35 : T2' 127 35 = nI v := by rw [gj 35 (by decide)]; exact s35
      have v35 : vp_in (nI v) (xlen km) := by rw [xl.2]; exact vp_in_nI (by omega) (by decide)
      rw [if_pos z00]
      refine ⟨⟨a1, b1, a2, fun _ => ⟨b2, fun _ => ⟨fun _ => trivial, fun _ => ⟨by rw [t35]; exact v35, trivial⟩⟩, fun _ => trivial⟩, fun _ => trivial⟩, ?_⟩
      have flt := fl_t (blame_fl (C := N2') (M := T2') (f := 4) (x := x) (k := k2) g'.2.2.2.2.1 (by decide) (by decide) (by omega) (by have := g'.2.2.2.1; omega) g'.2.2.1.1).1 g'.2.2.2.2.2.2.2.1 g'.2.2.2.2.2.2.2.2
      have er : N2' kc v = T2' km v := by
        obtain ⟨-, -, -, -, -, -, -, -, -, -, -, -, dA, dW, -⟩ := g'.2.1
        rcases hkm with ⟨rfl, rfl⟩ | ⟨rfl, rfl⟩
        · exact (dA v (by omega)).1
        · exact (dW v (by omega)).1
      have eh : f_X10_has N2' (f_X10_at N2' kc (nI v)) (nI w) = f_X11_has T2' (T2' km v) (nI w) := by rw [at_in xl.1 (by omega) (by decide), er, has_nI N2' T2' _ (by omega)]
      by_cases cw : w = v
      · subst cw
        rw [if_pos (by rw [f22, t35]), x3]
        refine Or.inr (Or.inr ⟨g'.2.2.2.2.1, ?_, Or.inl rfl⟩)
        dsimp only
        rw [x2]
        exact flt
      · have cw' : ¬ nI w = nI v := fun q => cw (nI_inj (by omega) (by omega) q)
        rw [if_neg (by rw [f22, t35]; exact cw')]
        by_cases ch : f_X11_has T2' (T2' km v) (nI w) = 0
        · rw [if_pos (by rw [t35, f22, nI_clamp (by omega)]; exact ch)]
          exact Or.inl ⟨v, w, k2, hv, hw, fun q => cw q.symm, by omega, rfl, rfl, rfl, t35, f22, by rw [eh]; exact ch, fun y hy => (gc y hy).trans (fc y hy), fun j j1 j2 => (gj j j1).trans (sj j j1 j2), g'⟩
        · rw [if_neg (by rw [t35, f22, nI_clamp (by omega)]; exact ch), x3]
          refine Or.inr (Or.inr ⟨g'.2.2.2.2.1, ?_, Or.inr (by rw [eh]; exact ch)⟩)
          dsimp only
          rw [x2]
          exact flt
    · obtain ⟨y1, y2, -⟩ := fl_r g'
      rw [if_neg (nle_of y2)]
      exact ⟨⟨a1, b1, a2, fun _ => ⟨b2, fun q => absurd q (nle_of y2), fun _ => trivial⟩, fun _ => trivial⟩, Or.inr (Or.inl ⟨y1, g'⟩)⟩
  · obtain ⟨y1, y2, -⟩ := fl_r g
    rw [(num_n y1 _ _).1, if_neg (nle_of y2)]
    exact ⟨⟨a1, (num_n y1 _ _).2, a2, fun q => absurd q (nle_of y2), fun _ => trivial⟩, Or.inr (Or.inl ⟨y1, g⟩)⟩
/-- the class's way behind two rooms -/
def prT (N : xS) (a b h : Int32) (add : xS → xS) : xS := if a = b then (if f_X8_blame N 4 (N 1 6) 1 3 = 0 then add (f_X8_blame N 4 (N 1 6)) else f_X8_blame N 4 (N 1 6)) else if h = 0 then (if f_X8_blame N 0 (N 1 6) 1 3 = 0 then add (f_X8_blame N 0 (N 1 6)) else f_X8_blame N 0 (N 1 6)) else (if f_X8_blame N 4 (N 1 6) 1 3 = 0 then add (f_X8_blame N 4 (N 1 6)) else f_X8_blame N 4 (N 1 6))
theorem prT_1 {N : xS} {a b h : Int32} {add : xS → xS} (h1 : ¬ a = b) (h2 : h = 0) (h3 : N 1 3 = 0) : prT N a b h add = add N := by
  unfold prT
  rw [if_neg h1, if_pos h2, blame_0 h3, if_pos h3]
theorem prT_2 {N : xS} {a b h : Int32} {add : xS → xS} (h3 : ¬ N 1 3 = 0) : prT N a b h add = N := by
  unfold prT
  rw [blame_n h3, blame_n h3, if_neg h3, ite_self, ite_self]
theorem prT_3 {N : xS} {a b h : Int32} {add : xS → xS} (h1 : a = b ∨ ¬ h = 0) (h3 : ¬ f_X8_blame N 4 (N 1 6) 1 3 = 0) : prT N a b h add = f_X8_blame N 4 (N 1 6) := by
  unfold prT
  rw [if_neg h3]
  by_cases c : a = b
  · rw [if_pos c]
  · rw [if_neg c, if_neg (h1.resolve_left c)]
theorem rowU {F G : Nat → Int32} {R a b : Nat} (hb : b < R) (h : ∀ r, r < 6 → F r = G r ∧ ∃ w, w < 2 ^ R ∧ G r = nI w) : ∀ r, r < 6 → upd F a (F a ||| nI (2 ^ b)) r = upd G a (G a ||| nI (2 ^ b)) r ∧ ∃ w, w < 2 ^ R ∧ upd G a (G a ||| nI (2 ^ b)) r = nI w := by
  intro r hr
  obtain ⟨h1, w, h2, h3⟩ := h r hr
  by_cases c : r = a
  · subst c
    rw [upd_eq, upd_eq, h1, h3, fa_or]
    exact ⟨rfl, w ||| 2 ^ b, or_lt h2 (pw_lt hb), rfl⟩
  · rw [upd_ne c, upd_ne c]
    exact ⟨h1, w, h2, h3⟩
theorem addB {C : xS} {a b : Nat} (ha : a < 6) (hb : b < 6) : f_X2_addBench C 3 (nI a) (nI b) = xu (xu C 4 a (C 4 a ||| nI (2 ^ b))) 3 7 (C 3 7 + 1) := by
  have e : f_X2_addBench C 3 (nI a) (nI b) = xu (f_X10_put C 4 (nI a) (f_X10_at C 4 (nI a) ||| f_X10_bit C (nI b))) 3 7 (f_X10_put C 4 (nI a) (f_X10_at C 4 (nI a) ||| f_X10_bit C (nI b)) 3 7 + 1) := rfl
  rw [e, at_in (N := 6) rfl ha (by decide), bit_k _ (by omega), put_in (N := 6) rfl ha (by decide), xu_ne (a := 3) (by decide)]
theorem addW {C : xS} {a b : Nat} (ha : a < 6) (hb : b < 6) : f_X2_addWay C 3 (nI a) (nI b) = xu (xu (xu C 5 a (C 5 a ||| nI (2 ^ b))) 5 b (upd (C 5) a (C 5 a ||| nI (2 ^ b)) b ||| nI (2 ^ a))) 3 8 (C 3 8 + 1) := by
  have e : f_X2_addWay C 3 (nI a) (nI b) = xu (f_X10_put (f_X10_put C 5 (nI a) (f_X10_at C 5 (nI a) ||| f_X10_bit C (nI b))) 5 (nI b) (f_X10_at (f_X10_put C 5 (nI a) (f_X10_at C 5 (nI a) ||| f_X10_bit C (nI b))) 5 (nI b) ||| f_X10_bit (f_X10_put C 5 (nI a) (f_X10_at C 5 (nI a) ||| f_X10_bit C (nI b))) (nI a))) 3 8 (f_X10_put (f_X10_put C 5 (nI a) (f_X10_at C 5 (nI a) ||| f_X10_bit C (nI b))) 5 (nI b) (f_X10_at (f_X10_put C 5 (nI a) (f_X10_at C 5 (nI a) ||| f_X10_bit C (nI b))) 5 (nI b) ||| f_X10_bit (f_X10_put C 5 (nI a) (f_X10_at C 5 (nI a) ||| f_X10_bit C (nI b))) (nI a)) 3 8 + 1) := rfl
  rw [e, at_in (N := 6) rfl ha (by decide), bit_k _ (by omega), put_in (N := 6) rfl ha (by decide), at_in (N := 6) rfl hb (by decide), bit_k _ (by omega), put_in (N := 6) rfl hb (by decide), xu_ne (a := 3) (by decide), xu_ne (a := 3) (by decide), xu_eq (k := 5)]
theorem bench_ok {C0 M0 C M : xS} {n k R P : Nat} (h : sd C0 M0 n k R P C M) (hb : ∃ b, b < 9 ∧ C 3 7 = nI b ∧ M 127 26 = nI b) : s_X8_readBench C ∧ s_X11_takeBench M ∧ bo C0 M0 n k (f_X11_takeBench M).1 (f_X8_readBench C) (f_X11_takeBench M).2 := by
  obtain ⟨⟨a1, a2, a3⟩, a4⟩ := pair_ok (Or.inl ⟨rfl, rfl⟩) h
  have hR6 : R ≤ 6 := h.2.1.1
  have eC : f_X8_readBench C = prT (pN2 C).2 (pN1 C).1 (pN2 C).1 (f_X10_has (pN2 C).2 (f_X10_at (pN2 C).2 4 (pN1 C).1) (pN2 C).1) (fun S => f_X2_addBench S 3 (pN1 C).1 (pN2 C).1) := rfl
  refine ⟨⟨a1, a2, trivial⟩, ?_⟩
  rw [eC]
  unfold s_X11_takeBench f_X11_takeBench
  dsimp only
  unfold pairR at a4
  generalize f_X11_takePair M 139 = T at a4 ⊢
  generalize pN1 C = N at a4 ⊢
  generalize pN2 C = N' at a4 ⊢
  obtain ⟨N1, N2⟩ := N
  obtain ⟨N1', N2'⟩ := N'
  obtain ⟨T1, T2⟩ := T
  dsimp only at a4 ⊢
  rcases a4 with ⟨a, b, k1, ha, hb', hab, hk, rfl, rfl, rfl, t35, t22, eh, gc, gj, g⟩ | ⟨g1, g⟩ | ⟨g1, g, g2⟩
  · rw [prT_1 (fun q => hab (nI_inj (by omega) (by omega) q)) eh g.2.2.2.2.1, if_pos rfl, addB (by omega) (by omega), t35, t22, shl_k (by omega), nI_clamp (by omega)]
    refine ⟨⟨a3, fun _ => ⟨vp_in_nI (by omega) (by decide), trivial⟩, fun _ => trivial⟩, Or.inl ⟨rfl, k1, R, P, hk, ?_⟩⟩
    dsimp only
    obtain ⟨x, x1, x2, x3⟩ := hb
    have c7 : N2' 3 7 = nI x := by rw [gc 3 (by decide)]; exact x2
    have c26 : xu T2 139 a (T2 139 a ||| nI (2 ^ b)) 127 26 = nI x := by rw [xu_ne (by decide), gj 26 (by decide) (by decide)]; exact x3
    rw [c7, c26, nI_1]
    generalize hA : xu (xu N2' 4 a (N2' 4 a ||| nI (2 ^ b))) 3 7 (nI (x + 1)) = A
    generalize hB : xu (xu T2 139 a (T2 139 a ||| nI (2 ^ b))) 127 26 (nI (x + 1)) = B
    have eA : ∀ y, y ≠ 3 → y ≠ 4 → A y = N2' y := fun y q1 q2 => by rw [← hA, xu_ne q1, xu_ne q2]
    have e4 : A 4 = upd (N2' 4) a (N2' 4 a ||| nI (2 ^ b)) := by rw [← hA, xu_ne (by decide), xu_eq]
    have ej : ∀ j, j ≠ 7 → A 3 j = N2' 3 j := fun j q => by rw [← hA, xu_eq, upd_ne q, xu_ne (by decide)]
    have e7 : A 3 7 = nI (x + 1) := by rw [← hA, xu_eq, upd_eq]
    have fB : ∀ y, y ≠ 127 → y ≠ 139 → B y = T2 y := fun y q1 q2 => by rw [← hB, xu_ne q1, xu_ne q2]
    have f139 : B 139 = upd (T2 139) a (T2 139 a ||| nI (2 ^ b)) := by rw [← hB, xu_ne (by decide), xu_eq]
    have fj : ∀ j, j ≠ 26 → B 127 j = T2 127 j := fun j q => by rw [← hB, xu_eq, upd_ne q, xu_ne (by decide)]
    have f26 : B 127 26 = nI (x + 1) := by rw [← hB, xu_eq, upd_eq]
    refine sd_u g ?_ (fun y q => eA y (by omega) (by omega)) (fun y q1 q2 => fB y q2 (by omega)) (fun j q => fj j (by omega)) (fj 36 (by decide))
    obtain ⟨d1, d2, d3, d4, d5, d6, d7, d8, d9, -, d11, d12, dA, dW, dP, dH, dL⟩ := g.2.1
    unfold hR
    rw [eA 1 (by decide) (by decide), eA 5 (by decide) (by decide), eA 6 (by decide) (by decide), eA 7 (by decide) (by decide), eA 8 (by decide) (by decide), e4, ej 5 (by decide), ej 6 (by decide), ej 8 (by decide), ej 9 (by decide), e7, fB 140 (by decide) (by decide), fB 141 (by decide) (by decide), fB 142 (by decide) (by decide), fB 143 (by decide) (by decide), f139, fj 24 (by decide), fj 25 (by decide), fj 27 (by decide), fj 30 (by decide), fj 33 (by decide), f26]
    exact ⟨d1, d2, d3, d4, d5, d6, d7, d8, d9, ⟨x + 1, by omega, rfl, rfl⟩, d11, d12, rowU hb' dA, dW, dP, dH, dL⟩
  · rw [prT_2 g1, if_neg (fl_r g).2.2]
    exact ⟨⟨a3, fun q => absurd q (fl_r g).2.2, fun _ => trivial⟩, Or.inr g⟩
  · rw [prT_3 g2 (fl_r g).1, if_neg (fl_r g).2.2]
    exact ⟨⟨a3, fun q => absurd q (fl_r g).2.2, fun _ => trivial⟩, Or.inr g⟩
theorem way_ok {C0 M0 C M : xS} {n k R P : Nat} (h : sd C0 M0 n k R P C M) (hb : ∃ b, b < 9 ∧ C 3 8 = nI b ∧ M 127 27 = nI b) : s_X8_readWay C ∧ s_X11_takeWay M ∧ bo C0 M0 n k (f_X11_takeWay M).1 (f_X8_readWay C) (f_X11_takeWay M).2 := by
  obtain ⟨⟨a1, a2, a3⟩, a4⟩ := pair_ok (Or.inr ⟨rfl, rfl⟩) h
  have hR6 : R ≤ 6 := h.2.1.1
  have eC : f_X8_readWay C = prT (pN2 C).2 (pN1 C).1 (pN2 C).1 (f_X10_has (pN2 C).2 (f_X10_at (pN2 C).2 5 (pN1 C).1) (pN2 C).1) (fun S => f_X2_addWay S 3 (pN1 C).1 (pN2 C).1) := rfl
  refine ⟨⟨a1, a2, trivial⟩, ?_⟩
  rw [eC]
  unfold s_X11_takeWay f_X11_takeWay
  dsimp only
  unfold pairR at a4
  generalize f_X11_takePair M 140 = T at a4 ⊢
  generalize pN1 C = N at a4 ⊢
  generalize pN2 C = N' at a4 ⊢
  obtain ⟨N1, N2⟩ := N
  obtain ⟨N1', N2'⟩ := N'
  obtain ⟨T1, T2⟩ := T
  dsimp only at a4 ⊢
  rcases a4 with ⟨a, b, k1, ha, hb', hab, hk, rfl, rfl, rfl, t35, t22, eh, gc, gj, g⟩ | ⟨g1, g⟩ | ⟨g1, g, g2⟩
  · rw [prT_1 (fun q => hab (nI_inj (by omega) (by omega) q)) eh g.2.2.2.2.1, if_pos rfl, addW (by omega) (by omega)]
    have u22 : ∀ y z, xu T2 140 y z 127 22 = nI b := fun y z => by rw [xu_ne (by decide)]; exact t22
    have u35 : ∀ y z, xu T2 140 y z 127 35 = nI a := fun y z => by rw [xu_ne (by decide)]; exact t35
    rw [u22, u35, t35, t22, shl_k (by omega), shl_k (by omega), nI_clamp (by omega), nI_clamp (by omega)]
    refine ⟨⟨a3, fun _ => ⟨vp_in_nI (by omega) (by decide), vp_in_nI (by omega) (by decide), trivial⟩, fun _ => trivial⟩, Or.inl ⟨rfl, k1, R, P, hk, ?_⟩⟩
    dsimp only
    obtain ⟨x, x1, x2, x3⟩ := hb
    have c8 : N2' 3 8 = nI x := by rw [gc 3 (by decide)]; exact x2
    rw [xu_eq (k := 140)]
    have c27 : ∀ y z, xu (xu T2 140 a (T2 140 a ||| nI (2 ^ b))) 140 y z 127 27 = nI x := fun y z => by rw [xu_ne (by decide), xu_ne (by decide), gj 27 (by decide) (by decide)]; exact x3
    rw [c8, c27, nI_1]
    generalize hA : xu (xu (xu N2' 5 a (N2' 5 a ||| nI (2 ^ b))) 5 b (upd (N2' 5) a (N2' 5 a ||| nI (2 ^ b)) b ||| nI (2 ^ a))) 3 8 (nI (x + 1)) = A
    generalize hB : xu (xu (xu T2 140 a (T2 140 a ||| nI (2 ^ b))) 140 b (upd (T2 140) a (T2 140 a ||| nI (2 ^ b)) b ||| nI (2 ^ a))) 127 27 (nI (x + 1)) = B
    have eA : ∀ y, y ≠ 3 → y ≠ 5 → A y = N2' y := fun y q1 q2 => by rw [← hA, xu_ne q1, xu_ne q2, xu_ne q2]
    have e5 : A 5 = upd (upd (N2' 5) a (N2' 5 a ||| nI (2 ^ b))) b (upd (N2' 5) a (N2' 5 a ||| nI (2 ^ b)) b ||| nI (2 ^ a)) := by rw [← hA, xu_ne (by decide), xu_eq, xu_eq]
    have ej : ∀ j, j ≠ 8 → A 3 j = N2' 3 j := fun j q => by rw [← hA, xu_eq, upd_ne q, xu_ne (by decide), xu_ne (by decide)]
    have e8 : A 3 8 = nI (x + 1) := by rw [← hA, xu_eq, upd_eq]
    have fB : ∀ y, y ≠ 127 → y ≠ 140 → B y = T2 y := fun y q1 q2 => by rw [← hB, xu_ne q1, xu_ne q2, xu_ne q2]
    have f140 : B 140 = upd (upd (T2 140) a (T2 140 a ||| nI (2 ^ b))) b (upd (T2 140) a (T2 140 a ||| nI (2 ^ b)) b ||| nI (2 ^ a)) := by rw [← hB, xu_ne (by decide), xu_eq, xu_eq]
    have fj : ∀ j, j ≠ 27 → B 127 j = T2 127 j := fun j q => by rw [← hB, xu_eq, upd_ne q, xu_ne (by decide), xu_ne (by decide)]
    have f27 : B 127 27 = nI (x + 1) := by rw [← hB, xu_eq, upd_eq]
    refine sd_u g ?_ (fun y q => eA y (by omega) (by omega)) (fun y q1 q2 => fB y q2 (by omega)) (fun j q => fj j (by omega)) (fj 36 (by decide))
    obtain ⟨d1, d2, d3, d4, d5, d6, d7, d8, d9, d10, -, d12, dA, dW, dP, dH, dL⟩ := g.2.1
    unfold hR
    rw [eA 1 (by decide) (by decide), eA 4 (by decide) (by decide), eA 6 (by decide) (by decide), eA 7 (by decide) (by decide), eA 8 (by decide) (by decide), e5, ej 5 (by decide), ej 6 (by decide), ej 7 (by decide), ej 9 (by decide), e8, fB 139 (by decide) (by decide), fB 141 (by decide) (by decide), fB 142 (by decide) (by decide), fB 143 (by decide) (by decide), f140, fj 24 (by decide), fj 25 (by decide), fj 26 (by decide), fj 30 (by decide), fj 33 (by decide), f27]
    exact ⟨d1, d2, d3, d4, d5, d6, d7, d8, d9, d10, ⟨x + 1, by omega, rfl, rfl⟩, d12, dA, rowU ha (rowU hb' dW), dP, dH, dL⟩
  · rw [prT_2 g1, if_neg (fl_r g).2.2]
    exact ⟨⟨a3, fun q => absurd q (fl_r g).2.2, fun _ => trivial⟩, Or.inr g⟩
  · rw [prT_3 g2 (fl_r g).1, if_neg (fl_r g).2.2]
    exact ⟨⟨a3, fun q => absurd q (fl_r g).2.2, fun _ => trivial⟩, Or.inr g⟩
