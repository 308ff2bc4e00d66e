/-! listens, leavers -/
theorem tr_hh {S T : xS} {R P : Nat} (hh : xRh S R P) (eT : ∀ a, a ≠ 132 → a ≠ 145 → T a = S a) : xRh T R P := xRh_cg (S := S) (fun k h1 h2 => eT k (by omega) (by omega)) (fun j _ => by rw [eT 127 (by decide) (by decide)]) (fun k h1 h2 => eT k (by omega) (by omega)) hh
theorem says_tr {S T : xS} {R P p q a b : Nat} (hh : xRh S R P) (eT : ∀ a, a ≠ 132 → a ≠ 145 → T a = S a) (hp : p < P) (hq : q < P) (ha : a < R) (hb : b < R) (e1 : T 132 (2 + p) = nI a) (e2 : T 132 (2 + q) = nI b) (e3 : T 132 (23 + (7 * p + q)) = S 36 (7 * p + q)) : s_X11_says T 132 (nI p) (nI q) ∧ s_X11_hears T 132 (nI p) (nI q) ∧ f_X11_says T 132 (nI p) (nI q) = f_X4_says S (nI p) (nI a) (nI q) (nI b) (f_X11_has S (T 132 1) (nI q)) ∧ f_X11_hears T 132 (nI p) (nI q) = f_X4_reaches S (nI a) (nI b) := by
  have hP := xhP hh
  have hR := xhR hh
  have hT := tr_hh hh eT
  refine ⟨s_says rfl (by omega) (by omega) (by omega) e1, s_hears rfl (by omega) (by omega) (by omega) e1, ?_, ?_⟩
  · rw [says_eq hT hp hq ha hb e1 e2 (by rw [e3, eT 36 (by decide) (by decide)]), says4_cg (U := S) (eT 10 (by decide) (by decide)) (eT 12 (by decide) (by decide)) (eT 36 (by decide) (by decide))]
    rfl
  · rw [hears_eq (by omega) (by omega) (show a < 6 by omega) (show b < 6 by omega) (xhA hT (by omega)).1 e1 e2, reach_cg (U := S) (eT 10 (by decide) (by decide))]
theorem op_listens {S : xS} (h : xR S) (p0 p1 p2 : Int32) : s_X10_listens S p0 p1 p2 ∧ s_X11_listens S p0 p1 p2 ∧ f_X10_listens S p0 p1 p2 = (f_X11_listens S p0 p1 p2).1 ∧ xR ((f_X11_listens S p0 p1 p2).2) := by
  obtain ⟨h1, h2, ⟨R, P, hh, hk, hv, hpp, hb, hi⟩, h4, h5⟩ := id h
  have hP := xhP hh
  have hR := xhR hh
  have i1 := two_eq hh p0 p1
  have i2 : f_X11_in S p2.toInt64 (-9) 9 = f_X10_within S p2 (-9) 9 := in_within S S p2 (-9) 9 (by decide) rfl
  by_cases g1 : f_X2_isPair S 9 p0 p1 = 0
  · have g1' : f_X11_areTwo S p0 p1 = 0 := i1.trans g1
    have e : f_X10_listens S p0 p1 p2 = -1000000001 := by unfold f_X10_listens; dsimp only; rw [if_pos g1]
    have e' : f_X11_listens S p0 p1 p2 = (-1000000001, S) := by unfold f_X11_listens; dsimp only; rw [if_pos g1']
    rw [e, e']
    exact ⟨⟨fun _ => trivial, fun q => absurd g1 q⟩, ⟨fun _ => trivial, fun q => absurd g1' q⟩, rfl, h⟩
  · have g1' : ¬ f_X11_areTwo S p0 p1 = 0 := by rw [i1]; exact g1
    by_cases g2 : f_X10_within S p2 (-9) 9 = 0
    · have g2' : f_X11_in S p2.toInt64 (-9) 9 = 0 := i2.trans g2
      have e : f_X10_listens S p0 p1 p2 = -1000000002 := by unfold f_X10_listens; dsimp only; rw [if_neg g1, if_pos g2]
      have e' : f_X11_listens S p0 p1 p2 = (-1000000002, S) := by unfold f_X11_listens; dsimp only; rw [if_neg g1', if_pos g2']
      rw [e, e']
      exact ⟨⟨fun _ => trivial, fun _ => ⟨fun _ => trivial, fun q => absurd g2 q⟩⟩, ⟨fun _ => trivial, fun _ => ⟨fun _ => trivial, fun q => absurd g2' q⟩⟩, rfl, h⟩
    · have g2' : ¬ f_X11_in S p2.toInt64 (-9) 9 = 0 := by rw [i2]; exact g2
      obtain ⟨p, q, hp, hq, hpq, rfl, rfl⟩ := isPair_ne (by omega) (xhP9 hh) g1
      obtain ⟨t1, t2, t3⟩ := tries_ok S
      obtain ⟨TR, hTR⟩ : ∃ T, T = f_X11_tries S := ⟨_, rfl⟩
      rw [← hTR] at t2 t3
      obtain ⟨a1, a2⟩ := rm_of hR hv hp
      have v2 : vp_in (2 + nI q) 72 := by rw [ix2]; exact vp_in_nI (by omega) (by decide)
      have eat := at_rm hh hk hv hp
      have ehc : f_X10_has S (S 32 4) (nI q) = f_X11_has S (S 131 1) (nI q) := by rw [kC hk, has_nI S S _ (by omega)]
      have key := xl_b0 (α := Int32) (β := Int32 × xS) (γ := Int32 × Prop) (δ := (Int32 × xS) × Prop)
        (fun n a x => (f_X9_listeningRooms_L6 n S (nI p) (nI q) p2 a x, s_X9_listeningRooms_L6 n S (nI p) (nI q) p2 a x))
        (fun n b x => (f_X11_listens_L39 n b.2 (nI p) (nI q) p2 b.1 x, s_X11_listens_L39 n b.2 (nI p) (nI q) p2 b.1 x))
        (fun z w => z.2 ∧ w.2 ∧ z.1 = w.1.1 ∧ ∀ a, a ≠ 132 → w.1.2 a = S a) R
        (fun i a b => a = b.1 ∧ (∀ a, a ≠ 132 → b.2 a = S a) ∧ ∀ j, j < 72 → j ≠ 2 + q → b.2 132 j = S 131 j)
        (fun n m a b hI => by
          obtain ⟨c, T⟩ := b
          obtain ⟨rfl, eT, -⟩ := hI
          dsimp only at eT
          have l : T 127 0 ≤ nI R := by rw [eT 127 (by decide)]; exact le_7R hh
          simp only [f_X9_listeningRooms_L6, s_X9_listeningRooms_L6, f_X11_listens_L39, s_X11_listens_L39, le_9R hh, l, ↓reduceIte, eq_self, n10, not_true_eq_false, not_false_eq_true, true_implies, false_implies, true_and, and_true, implies_true, forall_const, Sum.elim_inl, Sum.elim_inr, and_self]
          exact eT)
        (fun n m a b i hi hI => by
          obtain ⟨c, T⟩ := b
          obtain ⟨rfl, eT, er⟩ := hI
          dsimp only at eT er
          have l : ¬ T 127 0 ≤ nI i := by rw [eT 127 (by decide)]; exact nle_7R hh hi
          generalize hK : xu T 132 (2 + q) (nI i) = K
          have eK : ∀ a, a ≠ 132 → K a = S a := fun a ha => by rw [← hK, xu_ne ha, eT a ha]
          have rK : ∀ j, j < 72 → j ≠ 2 + q → K 132 j = S 131 j := fun j hj hn => by rw [← hK, xu_eq, upd_ne hn, er j hj hn]
          have e1 : K 132 (2 + p) = nI (rmN S 131 p) := by rw [rK _ (by omega) (by omega), a2]
          have e2 : K 132 (2 + q) = nI i := by rw [← hK, xu_eq, upd_eq]
          have e3 : K 132 (23 + (7 * p + q)) = S 36 (7 * p + q) := by rw [rK _ (by omega) (by omega), kL hk (by omega)]
          obtain ⟨y1, -, y3, -⟩ := says_tr hh (fun a ha _ => eK a ha) hp hq a1 hi e1 e2 e3
          rw [rK 1 (by omega) (by omega)] at y3
          generalize hy : f_X4_says S (nI p) (nI (rmN S 131 p)) (nI q) (nI i) (f_X11_has S (S 131 1) (nI q)) = y at y3
          by_cases c : y = p2
          · refine Or.inr ⟨a ||| nI (2 ^ i), (a ||| nI (2 ^ i), K), ⟨rfl, eK, rK⟩, fun ⟨h1, h2, h3⟩ => ?_⟩
            dsimp only at h1 h2 h3 ⊢
            simp only [f_X9_listeningRooms_L6, s_X9_listeningRooms_L6, f_X11_listens_L39, s_X11_listens_L39, nle_9R hh hi, l, eat, ehc, hy, c2n (show q < 1000000 by omega), hK, v2, y1, y3, c, bit_k S (show i ≤ 30 by omega), shl_k (show i ≤ 30 by omega), nI_1, h1, h2, ↓reduceIte, eq_self, n10, not_true_eq_false, not_false_eq_true, true_implies, false_implies, true_and, and_true, implies_true, forall_const, Sum.elim_inl, Sum.elim_inr, and_self]
            exact h3
          · refine Or.inr ⟨a, (a, K), ⟨rfl, eK, rK⟩, fun ⟨h1, h2, h3⟩ => ?_⟩
            dsimp only at h1 h2 h3 ⊢
            simp only [f_X9_listeningRooms_L6, s_X9_listeningRooms_L6, f_X11_listens_L39, s_X11_listens_L39, nle_9R hh hi, l, eat, ehc, hy, c2n (show q < 1000000 by omega), hK, v2, y1, y3, c, or_z, nI_1, h1, h2, ↓reduceIte, eq_self, n10, not_true_eq_false, not_false_eq_true, true_implies, false_implies, true_and, and_true, implies_true, forall_const, Sum.elim_inl, Sum.elim_inr, and_self]
            exact h3)
        (n := fu 0 (S 9 5)) (m := fu 0 (TR 127 0)) 0 (0, TR) (fu_9R hh) (by rw [t2 127 (by decide)]; exact fu_7R hh) ⟨rfl, t2, fun j hj _ => t3 j hj⟩
      obtain ⟨k1, k2, k3, k4⟩ := key
      dsimp only at k1 k2 k3 k4
      rw [hTR] at k2 k3 k4
      refine ⟨⟨fun _ => trivial, fun _ => ⟨fun _ => trivial, fun _ => ⟨⟨k1, trivial⟩, trivial⟩⟩⟩, ⟨fun _ => trivial, fun _ => ⟨fun _ => trivial, fun _ => ⟨t1, k2, trivial⟩⟩⟩, ?_⟩
      unfold f_X10_listens f_X11_listens f_X9_listeningRooms
      dsimp only
      rw [if_neg g1, if_neg g2, if_neg g1', if_neg g2']
      exact ⟨k3, xR_tried h (fun a ha _ _ _ => k4 a ha)⟩
/-! leavers -/
/-- where q is once the set has left for r -/
def rl (S : xS) (w r q : Nat) : Nat := if w.testBit q = true then r else rmN S 131 q
theorem together_ok {S T : xS} {R P w r : Nat} (hh : xRh S R P) (hk : xRk S 32 131 0) (hv : xRv S R P 131 0) (hr : r < R) (hw : w < 2 ^ P) (eT : ∀ a, a ≠ 132 → T a = S a) (e0 : T 132 0 = S 131 0) (e1 : T 132 1 = S 131 1) (e2 : ∀ q, q < P → T 132 (2 + q) = nI (rl S w r q)) (e3 : ∀ j, j < 49 → T 132 (23 + j) = S 131 (23 + j)) : s_X9_saidTogether S (nI w) (nI r) ∧ s_X11_saidAll T 132 ∧ f_X9_saidTogether S (nI w) (nI r) = f_X11_saidAll T 132 ∧ -63 ≤ (f_X9_saidTogether S (nI w) (nI r)).toInt ∧ (f_X9_saidTogether S (nI w) (nI r)).toInt ≤ 63 := by
  have hP := xhP hh
  have hR := xhR hh
  obtain ⟨hr0, hr1, hr2⟩ := hr_S hk hv
  have hr3 : T 132 0 = nI hr0 := by rw [e0, ← kH hk]; exact hr2
  have hw2 := p31 hw (by omega)
  have lR : ∀ q, q < P → rl S w r q < R := fun q hq => by
    unfold rl
    split
    · exact hr
    · exact (rm_of hR hv hq).1
  have t7 : T 127 = S 127 := eT 127 (by decide)
  have key := xl_b0 (α := Int32) (β := Int32) (γ := Int32 × Prop) (δ := Int32 × Prop)
    (fun n a x => (f_X9_saidTogether_L5 n S (nI w) (nI r) a x, s_X9_saidTogether_L5 n S (nI w) (nI r) a x))
    (fun n b x => (f_X11_saidAll_L4 n T 132 b x, s_X11_saidAll_L4 n T 132 b x))
    (fun z y => z.2 ∧ y.2 ∧ z.1 = y.1 ∧ -63 ≤ z.1.toInt ∧ z.1.toInt ≤ 63) P
    (fun i a b => a = b ∧ -(9 * (i : Int)) ≤ a.toInt ∧ a.toInt ≤ 9 * (i : Int))
    (fun n m a b hI => by
      obtain ⟨rfl, b1, b2⟩ := hI
      have l : T 127 6 ≤ nI P := by rw [t7]; exact le_7 hh
      simp only [f_X9_saidTogether_L5, s_X9_saidTogether_L5, f_X11_saidAll_L4, s_X11_saidAll_L4, le_9 hh, l, ↓reduceIte, eq_self, n10, not_true_eq_false, not_false_eq_true, true_implies, false_implies, true_and, and_true, implies_true, forall_const, Sum.elim_inl, Sum.elim_inr, and_self]
      exact ⟨by omega, by omega⟩)
    (fun n m a b i hi hI => by
      obtain ⟨rfl, b1, b2⟩ := hI
      have l : ¬ T 127 6 ≤ nI i := by rw [t7]; exact nle_7 hh hi
      have hs : (i + hr0 + 1) % P < P := Nat.mod_lt _ (by omega)
      have p1 := spk S (xhP9 hh) (by omega) hP (i := i) (k := hr0) (by omega) (by omega)
      have p2 := spk2 T (by rw [t7]; exact xhP7 hh) (by omega) hP (i := i) (k := hr0) (by omega) (by omega)
      have p3 : s_X11_spokenOf T (nI i) (nI hr0) := ⟨by rw [t7, xhP7 hh]; exact nI_ne0 (by omega) (by omega), trivial⟩
      have v0 : vp_in 0 (xlen 132) := vp_in_nI (n := 0) (N := 72) (by omega) (by decide)
      generalize (i + hr0 + 1) % P = q at hs p1 p2
      by_cases c : q = i
      · subst c
        refine Or.inr ⟨a, a, ⟨rfl, by omega, by omega⟩, fun ⟨h1, h2, h3⟩ => ?_⟩
        dsimp only at h1 h2 h3 ⊢
        simp only [f_X9_saidTogether_L5, s_X9_saidTogether_L5, f_X11_saidAll_L4, s_X11_saidAll_L4, nle_9 hh hi, l, hr2, c_0, hr3, p1, p2, p3, v0, add_z, nI_1, h1, h2, ↓reduceIte, eq_self, n10, not_true_eq_false, not_false_eq_true, true_implies, false_implies, true_and, and_true, implies_true, forall_const, Sum.elim_inl, Sum.elim_inr, and_self]
        exact h3
      · have cn' : ¬ nI q = nI i := fun e => c (nI_inj (by omega) (by omega) e)
        obtain ⟨y1, -, y3, -⟩ := says_tr hh (fun a ha _ => eT a ha) hi hs (lR i hi) (lR q hs) (e2 i hi) (e2 q hs) (by rw [e3 _ (by omega), kL hk (by omega)])
        obtain ⟨lv, lv1, lv2⟩ := lk_of hv (j := 7 * i + q) (by omega)
        have yb := says4_bd S (nI (rl S w r i)) (nI (rl S w r q)) (f_X11_has S (T 132 1) (nI q)) (p := i) (q := q) (v := lv) (by omega) (by omega) lv1 ((kL hk (by omega)).trans lv2)
        rw [e1] at y3 yb
        have ehc : f_X10_has S (S 32 4) (nI q) = f_X11_has S (S 131 1) (nI q) := by rw [kC hk, has_nI S S _ (by omega)]
        have m1 := has_k1 S hw2 (k := i) (by omega)
        have m2 := has_k1 S hw2 (k := q) (by omega)
        have f1 := at_rm hh hk hv hi
        have f2 := at_rm hh hk hv hs
        generalize hy : f_X4_says S (nI i) (nI (rl S w r i)) (nI q) (nI (rl S w r q)) (f_X11_has S (S 131 1) (nI q)) = y at y3 yb
        have ea : (a + y).toInt = a.toInt + y.toInt := fb_addI (by omega) (by omega)
        refine Or.inr ⟨a + y, a + y, ⟨rfl, by omega, by omega⟩, fun ⟨h1, h2, h3⟩ => ?_⟩
        dsimp only at h1 h2 h3 ⊢
        unfold rl at hy
        by_cases c1 : w.testBit i = true
        · rw [if_pos c1] at m1 hy
          by_cases c2 : w.testBit q = true
          · rw [if_pos c2] at m2 hy
            simp only [f_X9_saidTogether_L5, s_X9_saidTogether_L5, f_X11_saidAll_L4, s_X11_saidAll_L4, nle_9 hh hi, l, hr2, c_0, hr3, p1, p2, p3, v0, cn', m1, m2, f1, f2, ehc, hy, y1, y3, nI_1, h1, h2, ↓reduceIte, eq_self, n10, not_true_eq_false, not_false_eq_true, true_implies, false_implies, true_and, and_true, implies_true, forall_const, Sum.elim_inl, Sum.elim_inr, and_self]
            exact h3
          · rw [if_neg c2] at m2 hy
            simp only [f_X9_saidTogether_L5, s_X9_saidTogether_L5, f_X11_saidAll_L4, s_X11_saidAll_L4, nle_9 hh hi, l, hr2, c_0, hr3, p1, p2, p3, v0, cn', m1, m2, f1, f2, ehc, hy, y1, y3, nI_1, h1, h2, ↓reduceIte, eq_self, n10, not_true_eq_false, not_false_eq_true, true_implies, false_implies, true_and, and_true, implies_true, forall_const, Sum.elim_inl, Sum.elim_inr, and_self]
            exact h3
        · rw [if_neg c1] at m1 hy
          by_cases c2 : w.testBit q = true
          · rw [if_pos c2] at m2 hy
            simp only [f_X9_saidTogether_L5, s_X9_saidTogether_L5, f_X11_saidAll_L4, s_X11_saidAll_L4, nle_9 hh hi, l, hr2, c_0, hr3, p1, p2, p3, v0, cn', m1, m2, f1, f2, ehc, hy, y1, y3, nI_1, h1, h2, ↓reduceIte, eq_self, n10, not_true_eq_false, not_false_eq_true, true_implies, false_implies, true_and, and_true, implies_true, forall_const, Sum.elim_inl, Sum.elim_inr, and_self]
            exact h3
          · rw [if_neg c2] at m2 hy
            simp only [f_X9_saidTogether_L5, s_X9_saidTogether_L5, f_X11_saidAll_L4, s_X11_saidAll_L4, nle_9 hh hi, l, hr2, c_0, hr3, p1, p2, p3, v0, cn', m1, m2, f1, f2, ehc, hy, y1, y3, nI_1, h1, h2, ↓reduceIte, eq_self, n10, not_true_eq_false, not_false_eq_true, true_implies, false_implies, true_and, and_true, implies_true, forall_const, Sum.elim_inl, Sum.elim_inr, and_self]
            exact h3)
    (n := fu 0 (S 9 9)) (m := fu 0 (T 127 6)) 0 0 (fu_9 hh) (by rw [t7]; exact fu_7 hh) ⟨rfl, by decide, by decide⟩
  obtain ⟨k1, k2, k3, k4⟩ := key
  dsimp only at k1 k2 k3 k4
  exact ⟨⟨k1, trivial⟩, ⟨k2, trivial⟩, k3, k4⟩
