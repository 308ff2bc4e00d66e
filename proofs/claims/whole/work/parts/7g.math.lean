/-! bestRoom -/
/-- the first of the greatest -/
def isMx (W : Nat → Int32) (N k : Nat) : Prop := k < N ∧ (∀ r, r < N → (W r).toInt ≤ (W k).toInt) ∧ ∀ r, r < k → (W r).toInt < (W k).toInt
theorem isMx_u {W : Nat → Int32} {N k l : Nat} (h : isMx W N k) (g : isMx W N l) : k = l := by
  obtain ⟨a1, a2, a3⟩ := h
  obtain ⟨b1, b2, b3⟩ := g
  have x1 := a2 l b1
  have x2 := b2 k a1
  rcases Nat.lt_or_ge k l with q | q
  · have := b3 k q; omega
  · rcases Nat.lt_or_ge l k with q2 | q2
    · have := a3 l q2; omega
    · omega
theorem isMx_1 (W : Nat → Int32) : isMx W 1 0 := ⟨by omega, fun r hr => by rw [show r = 0 by omega]; exact Int.le_refl _, fun r hr => absurd hr (by omega)⟩
theorem isMx_s {W : Nat → Int32} {i k : Nat} (h : isMx W i k) (c : W i ≤ W k) : isMx W (i + 1) k := by
  rw [i_le] at c
  obtain ⟨a1, a2, a3⟩ := h
  refine ⟨by omega, fun r hr => ?_, a3⟩
  rcases Nat.lt_or_ge r i with q | q
  · exact a2 r q
  · rw [show r = i by omega]; exact c
theorem isMx_n {W : Nat → Int32} {i k : Nat} (h : isMx W i k) (c : ¬ W i ≤ W k) : isMx W (i + 1) i := by
  rw [i_le] at c
  obtain ⟨a1, a2, a3⟩ := h
  refine ⟨by omega, fun r hr => ?_, fun r hr => ?_⟩
  · rcases Nat.lt_or_ge r i with q | q
    · have := a2 r q; omega
    · rw [show r = i by omega]; exact Int.le_refl _
  · have := a2 r hr; omega
theorem wr_ok {S : xS} {R P p n : Nat} (hh : xRh S R P) (h0 : 0 < R) (hs : ∀ r, r < R → s_X9_warmBehind S (nI p) (nI r) (nI n)) : s_X9_warmestRoom S (nI p) (nI n) ∧ ∃ k, f_X9_warmestRoom S (nI p) (nI n) = nI k ∧ isMx (fun r => f_X9_warmBehind S (nI p) (nI r) (nI n)) R k := by
  have hR := xhR hh
  generalize hW : (fun r => f_X9_warmBehind S (nI p) (nI r) (nI n)) = W
  have eW : ∀ r, f_X9_warmBehind S (nI p) (nI r) (nI n) = W r := fun r => by rw [← hW]
  have i1 : (1 : Int32) = nI 1 := rfl
  have i0 : (0 : Int32) = nI 0 := rfl
  have key := xl_a (α := Int32 × Int32) (γ := Int32 × Prop) (fun m a x => (f_X9_warmestRoom_L14 m S (nI p) (nI n) a.1 a.2 x, s_X9_warmestRoom_L14 m S (nI p) (nI n) a.1 a.2 x))
    (fun z => z.2 ∧ ∃ k, z.1 = nI k ∧ isMx W R k) R (fun i a => 0 < i ∧ ∃ k, a = (nI k, W k) ∧ isMx W i k)
    (fun m a hI => by
      obtain ⟨-, k, rfl, k2⟩ := hI
      simp only [f_X9_warmestRoom_L14, s_X9_warmestRoom_L14, le_9R hh, ↓reduceIte, eq_self, n10, not_true_eq_false, not_false_eq_true, true_implies, false_implies, true_and, and_true, implies_true, forall_const, Sum.elim_inl, Sum.elim_inr, and_self]
      exact ⟨k, rfl, k2⟩)
    (fun m a i hi hI => by
      obtain ⟨h0, k, rfl, k2⟩ := hI
      have es := hs i hi
      by_cases c : W i ≤ W k
      · refine Or.inr ⟨(nI k, W k), ⟨by omega, k, rfl, isMx_s k2 c⟩, fun ⟨h1, h2⟩ => ?_⟩
        dsimp only at h1 h2 ⊢
        simp only [f_X9_warmestRoom_L14, s_X9_warmestRoom_L14, nle_9R hh hi, es, eW, c, nI_1, h1, ↓reduceIte, eq_self, n10, not_true_eq_false, not_false_eq_true, true_implies, false_implies, true_and, and_true, implies_true, forall_const, Sum.elim_inl, Sum.elim_inr, and_self]
        exact h2
      · refine Or.inr ⟨(nI i, W i), ⟨by omega, i, rfl, isMx_n k2 c⟩, fun ⟨h1, h2⟩ => ?_⟩
        dsimp only at h1 h2 ⊢
        simp only [f_X9_warmestRoom_L14, s_X9_warmestRoom_L14, nle_9R hh hi, es, eW, c, nI_1, h1, ↓reduceIte, eq_self, n10, not_true_eq_false, not_false_eq_true, true_implies, false_implies, true_and, and_true, implies_true, forall_const, Sum.elim_inl, Sum.elim_inr, and_self]
        exact h2)
    (R - 1) 1 (nI 0, W 0) (fu 1 (S 9 5)) (by omega) (by rw [xhR9 hh, i1, fu_n (by omega) (by omega)]; omega) ⟨by omega, 0, rfl, isMx_1 W⟩
  unfold s_X9_warmestRoom f_X9_warmestRoom
  dsimp only
  dsimp only at key
  rw [i0, eW 0]
  rw [i1]
  rw [i1] at key
  exact ⟨⟨hs 0 h0, key.1, trivial⟩, key.2⟩
theorem op_bestRoom {S : xS} (h : xR S) (p0 p1 p2 : Int32) : s_X10_bestRoom S p0 p1 p2 ∧ s_X11_bestRoom S p0 p1 p2 ∧ f_X10_bestRoom S p0 p1 p2 = (f_X11_bestRoom S p0 p1 p2).1 ∧ xR ((f_X11_bestRoom S p0 p1 p2).2) := by
  obtain ⟨h1, h2, ⟨R, P, hh, hk, hv, hpp, hb, hi⟩, h4, h5⟩ := id h
  have hP := xhP hh
  have hR := xhR hh
  have i1 := person_eq hh p0
  have i2 : f_X11_in S p1.toInt64 1 30 = f_X10_within S p1 1 30 := in_within S S p1 1 30 rfl rfl
  have i3 : f_X11_in S p2.toInt64 0 1 = f_X10_within S p2 0 1 := in_within S S p2 0 1 rfl rfl
  by_cases g1 : f_X2_isPerson S 9 p0 = 0
  · have g1' : f_X11_isPerson S p0 = 0 := i1.trans g1
    have e : f_X10_bestRoom S p0 p1 p2 = -1000000001 := by unfold f_X10_bestRoom; dsimp only; rw [if_pos g1]
    have e' : f_X11_bestRoom S p0 p1 p2 = (-1000000001, S) := by unfold f_X11_bestRoom; dsimp only; rw [if_pos g1']
    rw [e, e']
    exact ⟨⟨fun _ => trivial, fun q => absurd g1 q⟩, ⟨fun _ => trivial, fun q => absurd g1' q⟩, rfl, h⟩
  · have g1' : ¬ f_X11_isPerson S p0 = 0 := by rw [i1]; exact g1
    by_cases g2 : f_X10_within S p1 1 30 = 0
    · have g2' : f_X11_in S p1.toInt64 1 30 = 0 := i2.trans g2
      have e : f_X10_bestRoom S p0 p1 p2 = -1000000002 := by unfold f_X10_bestRoom; dsimp only; rw [if_neg g1, if_pos g2]
      have e' : f_X11_bestRoom S p0 p1 p2 = (-1000000002, S) := by unfold f_X11_bestRoom; dsimp only; rw [if_neg g1', if_pos g2']
      rw [e, e']
      exact ⟨⟨fun _ => trivial, fun _ => ⟨fun _ => trivial, fun q => absurd g2 q⟩⟩, ⟨fun _ => trivial, fun _ => ⟨fun _ => trivial, fun q => absurd g2' q⟩⟩, rfl, h⟩
    · have g2' : ¬ f_X11_in S p1.toInt64 1 30 = 0 := by rw [i2]; exact g2
      by_cases g3 : f_X10_within S p2 0 1 = 0
      · have g3' : f_X11_in S p2.toInt64 0 1 = 0 := i3.trans g3
        have e : f_X10_bestRoom S p0 p1 p2 = -1000000002 := by unfold f_X10_bestRoom; dsimp only; rw [if_neg g1, if_neg g2, if_pos g3]
        have e' : f_X11_bestRoom S p0 p1 p2 = (-1000000002, S) := by unfold f_X11_bestRoom; dsimp only; rw [if_neg g1', if_neg g2', if_pos g3']
        rw [e, e']
        exact ⟨⟨fun _ => trivial, fun _ => ⟨fun _ => trivial, fun _ => ⟨fun _ => trivial, fun q => absurd g3 q⟩⟩⟩, ⟨fun _ => trivial, fun _ => ⟨fun _ => trivial, fun _ => ⟨fun _ => trivial, fun q => absurd g3' q⟩⟩⟩, rfl, h⟩
      · have g3' : ¬ f_X11_in S p2.toInt64 0 1 = 0 := by rw [i3]; exact g3
        obtain ⟨p, hp, rfl⟩ := isPerson_ne (by omega) (xhP9 hh) g1
        obtain ⟨n, hn1, hn, rfl⟩ := wi_of (a := 1) (b := 30) (by omega) (by omega) g2
        have hR2 : 2 ≤ R := hh.2.2.1 (by omega)
        obtain ⟨hr, hr1, hr2⟩ := hr_S hk hv
        have v2 : vp_in (2 + nI p) 72 := by rw [ix2]; exact vp_in_nI (by omega) (by decide)
        have v9 : vp_in (9 + nI p) 72 := by rw [ix9]; exact vp_in_nI (by omega) (by decide)
        have loop : ∀ (T : xS) (x3 x4 x5 x6 : Int32) (w : Nat), w < R → (∀ a, a ≠ 132 → T a = S a) → s_X9_warmBehind S (nI p) (nI w) (nI n) ∧ s_X11_bestRoom_L72 (fu 0 (nI n)) (xu (f_X11_tries T) 132 (2 + p) (nI w)) (nI p) (nI n) x3 x4 x5 x6 0 ∧ f_X9_warmBehind S (nI p) (nI w) (nI n) = f_X11_bestRoom_L72 (fu 0 (nI n)) (xu (f_X11_tries T) 132 (2 + p) (nI w)) (nI p) (nI n) x3 x4 x5 x6 0 132 (9 + p) ∧ (∀ a, a ≠ 132 → f_X11_bestRoom_L72 (fu 0 (nI n)) (xu (f_X11_tries T) 132 (2 + p) (nI w)) (nI p) (nI n) x3 x4 x5 x6 0 a = S a) ∧ -9999 ≤ (f_X9_warmBehind S (nI p) (nI w) (nI n)).toInt ∧ (f_X9_warmBehind S (nI p) (nI w) (nI n)).toInt ≤ 9999 := by
          intro T x3 x4 x5 x6 w hw eT
          obtain ⟨q1, q2⟩ := TI_room hh hk hv hp hw hr2 eT rfl
          exact tri_loop (S := S) (nn := n) (fun m a x => (f_X11_bestRoom_L72 m a (nI p) (nI n) x3 x4 x5 x6 x, s_X11_bestRoom_L72 m a (nI p) (nI n) x3 x4 x5 x6 x)) hh hk hv hp hw hr2 hr1 (by omega)
            (fun m a => by
              have l : nI n ≤ nI n := nI_le (Nat.le_refl _) (by omega)
              simp only [f_X11_bestRoom_L72, s_X11_bestRoom_L72, l, ↓reduceIte, eq_self, n10, not_true_eq_false, not_false_eq_true, true_implies, false_implies, true_and, and_true, implies_true, forall_const, Sum.elim_inl, Sum.elim_inr, and_self])
            (fun m a i hi => by
              have l : ¬ nI n ≤ nI i := nI_ge hi (by omega)
              simp only [f_X11_bestRoom_L72, s_X11_bestRoom_L72, l, nI_1, ↓reduceIte, eq_self, n10, not_true_eq_false, not_false_eq_true, true_implies, false_implies, true_and, and_true, implies_true, forall_const, Sum.elim_inl, Sum.elim_inr, and_self]
              exact fun x y => ⟨x, y⟩)
            q1 q2
        have hsW : ∀ r, r < R → s_X9_warmBehind S (nI p) (nI r) (nI n) := fun r hr => (loop S 0 0 0 0 r hr (fun _ _ => rfl)).1
        obtain ⟨w1, k, w2, w3⟩ := wr_ok (p := p) (n := n) hh (by omega) hsW
        generalize hW : (fun r => f_X9_warmBehind S (nI p) (nI r) (nI n)) = W at w3
        have eW : ∀ r, f_X9_warmBehind S (nI p) (nI r) (nI n) = W r := fun r => by rw [← hW]
        have key := xl_a0 (α := Int32 × Int32 × xS) (γ := (Int32 × Int32 × xS) × Prop)
          (fun m a x => (f_X11_bestRoom_L46 m a.2.2 (nI p) (nI n) p2 a.1 a.2.1 x, s_X11_bestRoom_L46 m a.2.2 (nI p) (nI n) p2 a.1 a.2.1 x))
          (fun z => z.2 ∧ (∀ a, a ≠ 132 → z.1.2.2 a = S a) ∧ ∃ k, z.1.1 = nI k ∧ z.1.2.1 = W k ∧ isMx W R k) R
          (fun i a => (∀ b, b ≠ 132 → a.2.2 b = S b) ∧ ((i = 0 ∧ a.1 = 0 ∧ a.2.1 = -1000000) ∨ ∃ k, a.1 = nI k ∧ a.2.1 = W k ∧ isMx W i k))
          (fun m a hI => by
            obtain ⟨b, c, T⟩ := a
            obtain ⟨eT, hI⟩ := hI
            dsimp only at eT hI
            have l : T 127 0 ≤ nI R := by rw [eT 127 (by decide)]; exact le_7R hh
            simp only [f_X11_bestRoom_L46, s_X11_bestRoom_L46, l, ↓reduceIte, eq_self, n10, not_true_eq_false, not_false_eq_true, true_implies, false_implies, true_and, and_true, implies_true, forall_const, Sum.elim_inl, Sum.elim_inr, and_self]
            refine ⟨eT, ?_⟩
            rcases hI with ⟨q, -⟩ | hI
            · exact absurd q (by omega)
            · exact hI)
          (fun m a i hi hI => by
            obtain ⟨b, c, T⟩ := a
            obtain ⟨eT, hI⟩ := hI
            dsimp only at eT hI
            have l : ¬ T 127 0 ≤ nI i := by rw [eT 127 (by decide)]; exact nle_7R hh hi
            obtain ⟨t1, -, -⟩ := tries_ok T
            obtain ⟨o1, o2, o3, o4, o5⟩ := loop T p2 b c (nI i) i hi eT
            rw [eW] at o3 o5
            have o3 := o3.symm
            generalize hK : f_X11_bestRoom_L72 (fu 0 (nI n)) (xu (f_X11_tries T) 132 (2 + p) (nI i)) (nI p) (nI n) p2 b c (nI i) 0 = K at o3 o4
            have step1 : W i ≤ c → (∃ k, b = nI k ∧ c = W k ∧ isMx W (i + 1) k) → ((fun z : (Int32 × Int32 × xS) × Prop => z.2 ∧ (∀ a, a ≠ 132 → z.1.2.2 a = S a) ∧ ∃ k, z.1.1 = nI k ∧ z.1.2.1 = W k ∧ isMx W R k) (f_X11_bestRoom_L46 m K (nI p) (nI n) p2 b c (nI (i + 1)), s_X11_bestRoom_L46 m K (nI p) (nI n) p2 b c (nI (i + 1))) → (fun z : (Int32 × Int32 × xS) × Prop => z.2 ∧ (∀ a, a ≠ 132 → z.1.2.2 a = S a) ∧ ∃ k, z.1.1 = nI k ∧ z.1.2.1 = W k ∧ isMx W R k) (f_X11_bestRoom_L46 (m + 1) T (nI p) (nI n) p2 b c (nI i), s_X11_bestRoom_L46 (m + 1) T (nI p) (nI n) p2 b c (nI i))) := by
              intro c1 _ ⟨h1, h2, h3⟩
              dsimp only at h1 h2 h3 ⊢
              simp only [f_X11_bestRoom_L46, s_X11_bestRoom_L46, l, t1, v2, v9, c2n (show p < 1000000 by omega), c9n (show p < 1000000 by omega), o2, hK, o3, c1, nI_1, h1, ↓reduceIte, eq_self, n10, not_true_eq_false, not_false_eq_true, true_implies, false_implies, true_and, and_true, implies_true, forall_const, Sum.elim_inl, Sum.elim_inr, and_self]
              exact ⟨h2, h3⟩
            by_cases c1 : W i ≤ c
            · rcases hI with ⟨-, -, q⟩ | ⟨k, k1, k2, k3⟩
              · rw [q, i_le, show (-1000000 : Int32).toInt = -1000000 from by decide] at c1
                omega
              · have k3' := isMx_s k3 (by rw [← k2]; exact c1)
                exact Or.inr ⟨(b, c, K), ⟨o4, Or.inr ⟨k, k1, k2, k3'⟩⟩, step1 c1 ⟨k, k1, k2, k3'⟩⟩
            · have hm : isMx W (i + 1) i := by
                rcases hI with ⟨q, -, -⟩ | ⟨k, k1, k2, k3⟩
                · rw [q]; exact isMx_1 W
                · exact isMx_n k3 (by rw [← k2]; exact c1)
              refine Or.inr ⟨(nI i, W i, K), ⟨o4, Or.inr ⟨i, rfl, rfl, hm⟩⟩, fun ⟨h1, h2, h3⟩ => ?_⟩
              dsimp only at h1 h2 h3 ⊢
              simp only [f_X11_bestRoom_L46, s_X11_bestRoom_L46, l, t1, v2, v9, c2n (show p < 1000000 by omega), c9n (show p < 1000000 by omega), o2, hK, o3, c1, nI_1, h1, ↓reduceIte, eq_self, n10, not_true_eq_false, not_false_eq_true, true_implies, false_implies, true_and, and_true, implies_true, forall_const, Sum.elim_inl, Sum.elim_inr, and_self]
              exact ⟨h2, h3⟩)
          (0, -1000000, S) (fu_7R hh) ⟨fun _ _ => rfl, Or.inl ⟨rfl, rfl, rfl⟩⟩
        obtain ⟨k1, k2, k', k3, k4, k5⟩ := key
        dsimp only at k1 k2 k3 k4
        have ek := isMx_u w3 k5
        subst ek
        refine ⟨⟨fun _ => trivial, fun _ => ⟨fun _ => trivial, fun _ => ⟨fun _ => trivial, fun _ => ⟨w1, fun _ => trivial, fun _ => ⟨?_, trivial⟩⟩⟩⟩⟩, ⟨fun _ => trivial, fun _ => ⟨fun _ => trivial, fun _ => ⟨fun _ => trivial, fun _ => ⟨k1, trivial⟩⟩⟩⟩, ?_⟩
        · rw [w2]; exact hsW k w3.1
        · unfold f_X10_bestRoom f_X11_bestRoom
          dsimp only
          rw [if_neg g1, if_neg g2, if_neg g3, if_neg g1', if_neg g2', if_neg g3', w2, eW]
          by_cases c : p2 = 0
          · rw [if_pos c, if_pos c]
            exact ⟨k3.symm, xR_tried h (fun a ha _ _ _ => k2 a ha)⟩
          · rw [if_neg c, if_neg c]
            exact ⟨by rw [k4], xR_tried h (fun a ha _ _ _ => k2 a ha)⟩
