/-! hour, undo, keep, goBack -/
theorem Q2_cg7 {U V a b : xS} {R P B C m n : Nat} (q : Q2 U V R P B m) (eU : ∀ k, 9 ≤ k → k ≤ 12 → a k = U k) (eV7 : ∀ j, j ≠ 36 → j ≠ 10 → b 127 j = V 127 j) (eV : ∀ k, 128 ≤ k → k ≤ 130 → b k = V k) (ht : ∀ j, j < 72 → tk a 32 j = b n j) (hv : vr R P C (b n)) : Q2 a b R P C n := by
  refine ⟨xRh_cg (S := mg U V) (fun k h1 h2 => ?_) (fun j hj => ?_) (fun k h1 h2 => ?_) q.1, ht, hv⟩
  · rw [mgU (by omega), mgU (by omega), eU k h1 h2]
  · rw [mgV (by omega), mgV (by omega), eV7 j (by omega) (by omega)]
  · rw [mgV (by omega), mgV (by omega), eV k (by omega) (by omega)]
theorem hour_loop {U V : xS} {R P B nn : Nat} (q : Q2 U V R P B 131) (hB : B + nn ≤ 100000) : s_X10_hour_L25 (fu 0 (nI nn)) U (nI nn) 0 ∧ s_X11_hour_L18 (fu 0 (nI nn)) V (nI nn) 0 ∧ Q2 (f_X10_hour_L25 (fu 0 (nI nn)) U (nI nn) 0) (f_X11_hour_L18 (fu 0 (nI nn)) V (nI nn) 0) R P (B + nn) 131 ∧ (∀ k, k ≠ 32 → k ≠ 34 → k ≠ 35 → f_X10_hour_L25 (fu 0 (nI nn)) U (nI nn) 0 k = U k) ∧ ∀ k, k ≠ 131 → f_X11_hour_L18 (fu 0 (nI nn)) V (nI nn) 0 k = V k := by
  have key := xl_b0 (α := xS) (β := xS) (γ := xS × Prop) (δ := xS × Prop)
    (fun n a x => (f_X10_hour_L25 n a (nI nn) x, s_X10_hour_L25 n a (nI nn) x))
    (fun n b x => (f_X11_hour_L18 n b (nI nn) x, s_X11_hour_L18 n b (nI nn) x))
    (fun z w => z.2 ∧ w.2 ∧ Q2 z.1 w.1 R P (B + nn) 131 ∧ (∀ k, k ≠ 32 → k ≠ 34 → k ≠ 35 → z.1 k = U k) ∧ ∀ k, k ≠ 131 → w.1 k = V k) nn (fun i a b => Q2 a b R P (B + i) 131 ∧ (∀ k, k ≠ 32 → k ≠ 34 → k ≠ 35 → a k = U k) ∧ ∀ k, k ≠ 131 → b k = V k)
    (fun n k a b hI => by
      have l : nI nn ≤ nI nn := nI_le (Nat.le_refl _) (by omega)
      simp only [f_X10_hour_L25, s_X10_hour_L25, f_X11_hour_L18, s_X11_hour_L18, l, ↓reduceIte, eq_self, n10, not_true_eq_false, not_false_eq_true, true_implies, false_implies, true_and, and_true, implies_true, forall_const, Sum.elim_inl, Sum.elim_inr, and_self]
      exact hI)
    (fun n k a b i hi hI => by
      obtain ⟨q', d1, d2⟩ := hI
      have l : ¬ nI nn ≤ nI i := nI_ge hi (by omega)
      obtain ⟨⟨h, hh, eh⟩, -⟩ := q'.2.2
      obtain ⟨p1, p2, p3⟩ := pass_ok q' (Or.inl rfl) (by omega) hh eh
      obtain ⟨r1, r2, r3, -⟩ := p3
      refine Or.inr ⟨f_X4_passHour a, f_X11_passes b 131, ⟨r1, fun k h1 h2 h3 => by rw [r2 k h1 h2 h3, d1 k h1 h2 h3], fun k h1 => by rw [r3 k h1, d2 k h1]⟩, fun ⟨h1, h2, h3⟩ => ?_⟩
      dsimp only at h1 h2 h3 ⊢
      simp only [f_X10_hour_L25, s_X10_hour_L25, f_X11_hour_L18, s_X11_hour_L18, l, p1, p2, nI_1, ↓reduceIte, eq_self, n10, not_true_eq_false, not_false_eq_true, true_implies, false_implies, true_and, and_true, implies_true, forall_const, Sum.elim_inl, Sum.elim_inr, and_self]
      exact ⟨h1, h2, h3⟩)
    (n := fu 0 (nI nn)) (m := fu 0 (nI nn)) U V (by rw [fu_0 (by omega)]; omega) (by rw [fu_0 (by omega)]; omega) ⟨q, fun _ _ _ _ => rfl, fun _ _ => rfl⟩
  exact key
theorem refuse_eq {S : xS} {R P : Nat} (hh : xRh S R P) (hk : xRk S 32 131 0) (p0 : Int32) : f_X11_hoursRefused S p0 = f_X10_refusalOfHours S p0 := by
  have hR := xhR hh
  have i1 : f_X11_in S p0.toInt64 1 60 = f_X10_within S p0 1 60 := in_within S S p0 1 60 rfl rfl
  unfold f_X11_hoursRefused f_X10_refusalOfHours f_X2_isTold
  dsimp only
  rw [i1, xhR9 hh, xhR7 hh, kH hk, c_0]
  by_cases c : R = 0
  · subst c
    rfl
  · rw [if_neg (nI_nle (by omega) (by omega)), if_neg (nI_ne0 (by omega) (by omega)), if_neg (show ¬ (1 : Int32) = 0 by decide)]
theorem refuse_cg {S T : xS} (e7 : T 127 0 = S 127 0) (e1 : T 131 = S 131) (p0 : Int32) : f_X11_hoursRefused T p0 = f_X11_hoursRefused S p0 := by
  unfold f_X11_hoursRefused
  rw [e7, e1]
  rfl
theorem refuse_0 {S : xS} {p0 : Int32} (h : f_X10_refusalOfHours S p0 = 0) : ∃ n, 1 ≤ n ∧ n ≤ 60 ∧ p0 = nI n ∧ S 32 5 ≤ 9000 := by
  unfold f_X10_refusalOfHours at h
  dsimp only at h
  by_cases c1 : f_X10_within S p0 1 60 = 0
  · rw [if_pos c1] at h; exact absurd h (by decide)
  · rw [if_neg c1] at h
    by_cases c2 : f_X2_isTold S 9 = 0
    · rw [if_pos c2] at h; exact absurd h (by decide)
    · rw [if_neg c2] at h
      by_cases c3 : S 32 5 ≤ 9000
      · rw [within_eq] at c1
        have g : (1 : Int32).toInt ≤ p0.toInt ∧ p0.toInt ≤ (60 : Int32).toInt := Classical.byContradiction (fun q => c1 (if_neg q))
        have z1 : (1 : Int32).toInt = 1 := rfl
        have z2 : (60 : Int32).toInt = 60 := rfl
        obtain ⟨v, hv0, rfl⟩ := nI_of (x := p0) (by rw [i_lt, i_0]; omega)
        rw [nI_toInt hv0] at g
        exact ⟨v, by omega, by omega, rfl, c3⟩
      · rw [if_neg c3] at h; exact absurd h (by decide)
theorem vr_9000 {S : xS} {R P : Nat} (hk : xRk S 32 131 0) (h : vr R P 9100 (S 131)) (c : S 32 5 ≤ 9000) : vr R P 9000 (S 131) := by
  obtain ⟨⟨k, k1, k2⟩, h⟩ := h
  rw [kH hk, k2] at c
  have e : (9000 : Int32) = nI 9000 := rfl
  rw [e, nI_leI (by omega) (by omega)] at c
  exact ⟨⟨k, c, k2⟩, h⟩
theorem op_hour {S : xS} (h : xR S) (p0 : Int32) : s_X10_hour S p0 ∧ s_X11_hour ((f_X10_hour S p0).2) p0 ∧ (f_X10_hour S p0).1 = (f_X11_hour ((f_X10_hour S p0).2) p0).1 ∧ xR ((f_X11_hour ((f_X10_hour S p0).2) p0).2) := by
  obtain ⟨h1, h2, ⟨R, P, hh, hk, hv, hp, hb, hi⟩, h4, h5⟩ := id h
  have hP := xhP hh
  obtain ⟨u1, u2⟩ := remU hp
  have er := refuse_eq hh hk p0
  by_cases g : f_X10_refusalOfHours S p0 = 0
  · obtain ⟨n, n1, n2, rfl, c⟩ := refuse_0 g
    have v9 := vr_9000 hk (vr_131 hP hv) c
    have tU : ∀ j, j < 72 → tk (f_X6_remember S 32) 32 j = S 131 j := fun j hj => by
      rw [tk_cg (S := S) (fun i hi => u2 _ (by omega) (by omega))]
      exact tk_131 hk j hj
    have qS : Q2 (f_X6_remember S 32) S R P 9000 131 := Q2_cg (Q2_of hh hk hv) (fun k _ _ => u2 k (by omega) (by omega)) (fun _ _ _ => rfl) tU v9
    obtain ⟨l1, -, -, l4, -⟩ := hour_loop (nn := n) qS (by omega)
    have e : f_X10_hour S (nI n) = (f_X10_hour_L25 (fu 0 (nI n)) (f_X6_remember S 32) (nI n) 0 32 5, f_X10_hour_L25 (fu 0 (nI n)) (f_X6_remember S 32) (nI n) 0) := by
      unfold f_X10_hour
      dsimp only
      rw [if_pos g]
    refine ⟨⟨fun _ => ⟨u1, l1, trivial⟩, fun q => absurd g q⟩, ?_⟩
    rw [e]
    dsimp only
    generalize hA : f_X10_hour_L25 (fu 0 (nI n)) (f_X6_remember S 32) (nI n) 0 = A at l4
    have eS : ∀ a, 127 ≤ a → A a = S a := fun a q => by rw [l4 a (by omega) (by omega) (by omega), u2 a (by omega) (by omega)]
    obtain ⟨r1, r2, r3⟩ := remV (U1 := A) hp (eS 127 (by omega))
    have qV : Q2 (f_X6_remember S 32) (f_X11_remember A) R P 9000 131 := Q2_cg7 qS (fun _ _ _ => rfl) (fun j q1 _ => by rw [r3 j q1, eS 127 (by omega)]) (fun k _ _ => by rw [r2 k (by omega) (by omega), eS k (by omega)]) (fun j hj => by rw [r2 131 (by decide) (by decide), eS 131 (by omega)]; exact tU j hj) (by rw [r2 131 (by decide) (by decide), eS 131 (by omega)]; exact v9)
    obtain ⟨-, m2, m3, -, m5⟩ := hour_loop (nn := n) qV (by omega)
    rw [hA] at m3
    have er2 : f_X11_hoursRefused A (nI n) = 0 := by rw [refuse_cg (by rw [eS 127 (by omega)]) (eS 131 (by omega)), er]; exact g
    have e' : f_X11_hour A (nI n) = (f_X11_hour_L18 (fu 0 (nI n)) (f_X11_remember A) (nI n) 0 131 0, f_X11_hour_L18 (fu 0 (nI n)) (f_X11_remember A) (nI n) 0) := by
      unfold f_X11_hour
      dsimp only
      rw [if_pos er2, c_0]
    refine ⟨⟨fun _ => ⟨r1, m2, trivial⟩, fun q => absurd er2 q⟩, ?_⟩
    rw [e']
    dsimp only
    generalize f_X11_hour_L18 (fu 0 (nI n)) (f_X11_remember A) (nI n) 0 = E at m3 m5
    refine ⟨m3.2.1 0 (by omega), rem_fin (U1 := A) h1 h2 hh hk hv hp hb hi h4 (fun a _ q => l4 a (by omega) (by omega) (by omega)) (fun a q _ => m5 a q) (fun j _ => by rw [m5 127 (by decide)]) (fun j hj => ?_) (vr_mono (by omega) m3.2.2) ?_⟩
    · rw [tk_cg (S := A) (fun i hi => by rw [m5 _ (by omega), r2 _ (by omega) (by omega)])]
      exact m3.2.1 j hj
    · exact xRd_cg (by rw [m5 26 (by decide), r2 26 (by decide) (by decide), l4 26 (by decide) (by decide) (by decide), u2 26 (by decide) (by omega)]) (by rw [m5 127 (by decide), r3 10 (by decide), eS 127 (by omega)]) h5
  · have e : f_X10_hour S p0 = (f_X10_refusalOfHours S p0, S) := by unfold f_X10_hour; dsimp only; rw [if_neg g]
    have g' : ¬ f_X11_hoursRefused S p0 = 0 := by rw [er]; exact g
    have e' : f_X11_hour S p0 = (f_X11_hoursRefused S p0, S) := by unfold f_X11_hour; dsimp only; rw [if_neg g']
    refine ⟨⟨fun q => absurd q g, fun _ => trivial⟩, ?_⟩
    rw [e]
    dsimp only
    rw [e']
    exact ⟨⟨fun q => absurd q g', fun _ => trivial⟩, er.symm, h⟩
theorem und22 {V : xS} {c : Nat} (hc : V 127 36 = nI c) (h : c < 16) : s_X11_undo_L22 (fu 0 72) V 0 ∧ (∀ k, k ≠ 131 → f_X11_undo_L22 (fu 0 72) V 0 k = V k) ∧ ∀ i, i < 72 → f_X11_undo_L22 (fu 0 72) V 0 131 i = V 144 (72 * c + i) := by
  have key := cpl (fun n a x => (f_X11_undo_L22 n a x, s_X11_undo_L22 n a x)) V 131 144 0 (72 * c) 72 (by decide)
    (fun n a ha => by simp only [f_X11_undo_L22, s_X11_undo_L22, le72, ↓reduceIte, eq_self, n10, not_true_eq_false, not_false_eq_true, true_implies, false_implies, true_and, and_true, implies_true, forall_const, Sum.elim_inl, Sum.elim_inr, and_self])
    (fun n a i hi ha => by
      have e : a 127 36 = nI c := by rw [ha 127 (by decide)]; exact hc
      have v1 : vp_in (nI i) 72 := vp_in_nI hi (by decide)
      have v2 : vp_in (nI (72 * c + i)) 1152 := vp_in_nI (by omega) (by decide)
      simp only [f_X11_undo_L22, s_X11_undo_L22, nle72 hi, e, ix72, cn (show i < 1000000 by omega), cn (show 72 * c + i < 1000000 by omega), nI_1, Nat.zero_add, v1, v2, ↓reduceIte, eq_self, n10, not_true_eq_false, not_false_eq_true, true_implies, false_implies, true_and, and_true, implies_true, forall_const, Sum.elim_inl, Sum.elim_inr, and_self]
      exact id)
    fu72
  simp only [Nat.zero_add] at key
  exact ⟨key.1, key.2.1, key.2.2.1⟩
theorem op_undo {S : xS} (h : xR S) : s_X10_undo S ∧ s_X11_undo ((f_X10_undo S).2) ∧ (f_X10_undo S).1 = (f_X11_undo ((f_X10_undo S).2)).1 ∧ xR ((f_X11_undo ((f_X10_undo S).2)).2) := by
  obtain ⟨h1, h2, ⟨R, P, hh, hk, hv, ⟨n, c, p1, p2, p3, p4, p5, p6⟩, hb, hi⟩, h4, h5⟩ := id h
  have hP := xhP hh
  have e16 : (16 : Int32) = nI 16 := rfl
  have ex : (S 27 1 + 16 - 1) - (S 27 1 + 16 - 1) / 16 * 16 = nI ((n + 15) % 16) := by
    rw [p3, e16, nI_add, show n + 16 = n + 15 + 1 by omega, nI_pred, pk_rem (by omega) (by omega) (by omega)]
  have es : f_X6_slotAt S (nI ((n + 15) % 16)) = some (37 + 5 * ((n + 15) % 16)) := by
    unfold f_X6_slotAt
    rw [if_neg (nI_pos (by omega)), if_neg (nI_ge (by omega) (by omega)), nI_clamp (by omega)]
  have hs : (n + 15) % 16 < 16 := Nat.mod_lt _ (by omega)
  generalize hse : (n + 15) % 16 = s at hs ex es
  have ht : isT (37 + 5 * s) = true := isT_of (by omega) (by omega) (by omega)
  obtain ⟨s1, s2, s3⟩ := cf_ok (S := S) (b := 32) (k0 := 37 + 5 * s) (by decide) ht (by omega)
  have hsr : s_X6_recall S 32 := by
    refine ⟨fun _ => trivial, fun t q => ?_⟩
    rw [ex, es] at q
    cases q
    exact ⟨fun _ => trivial, fun _ => ⟨s1, trivial⟩⟩
  refine ⟨⟨hsr, trivial⟩, ?_⟩
  by_cases c0 : c = 0
  · subst c0
    have e : f_X10_undo S = (-1000000003, S) := by
      unfold f_X10_undo f_X6_recall
      rw [ex, es]
      dsimp only [Option.elim]
      have z : nI 0 ≤ (0 : Int32) := by decide
      rw [p4, if_pos z]
      rfl
    have e0 : S 127 36 = 0 := p5
    have e' : f_X11_undo S = (-1000000003, S) := by unfold f_X11_undo; rw [if_pos e0]
    rw [e]
    dsimp only
    rw [e']
    exact ⟨⟨fun _ => trivial, fun q => absurd e0 q⟩, rfl, h⟩
  · have eA : f_X6_recall S 32 = (1, xu (xu (f_X7_copyFrom S 32 (37 + 5 * s)) 27 1 (nI s)) 27 2 (nI (c - 1))) := by
      unfold f_X6_recall
      rw [ex, es]
      dsimp only [Option.elim]
      rw [p4, if_neg (nI_nle (by omega) (by omega))]
      have e2 : xu (f_X7_copyFrom S 32 (37 + 5 * s)) 27 1 (nI s) 27 2 = nI c := by rw [xu_eq, upd_ne (by decide), s2 27 (by omega)]; exact p4
      rw [e2]
      have e3 : nI c - 1 = nI (c - 1) := by
        have := nI_pred (c - 1)
        rw [show c - 1 + 1 = c by omega] at this
        exact this
      rw [e3]
    generalize hA : xu (xu (f_X7_copyFrom S 32 (37 + 5 * s)) 27 1 (nI s)) 27 2 (nI (c - 1)) = A at eA
    have A2 : A 27 2 = nI (c - 1) := by rw [← hA, xu_eq, upd_eq]
    have A1 : A 27 1 = nI s := by rw [← hA, xu_eq, upd_ne (by decide), xu_eq, upd_eq]
    have eAo : ∀ a, a ≠ 27 → (a < 32 ∨ 36 < a) → A a = S a := fun a q1 q2 => by rw [← hA, xu_ne q1, xu_ne q1, s2 a (by omega)]
    have tA : ∀ j, j < 72 → tk A 32 j = tk S (37 + 5 * s) j := fun j hj => by
      rw [← hA, tk_cg (S := f_X7_copyFrom S 32 (37 + 5 * s)) (fun i hi => by rw [xu_ne (by omega), xu_ne (by omega)])]
      exact s3 j hj
    have e : f_X10_undo S = (nI (c - 1), A) := by
      unfold f_X10_undo
      rw [eA]
      dsimp only
      rw [if_neg (by decide), A2]
    rw [e]
    dsimp only
    have a36 : A 127 36 = nI c := by rw [eAo 127 (by decide) (by omega)]; exact p5
    have em : nI c - 1 = nI (c - 1) := by
      have := nI_pred (c - 1)
      rw [show c - 1 + 1 = c by omega] at this
      exact this
    have ne0 : ¬ A 127 36 = 0 := by rw [a36]; exact nI_ne0 (by omega) (by omega)
    generalize hB : xu A 127 36 (nI (c - 1)) = B
    have B36 : B 127 36 = nI (c - 1) := by rw [← hB, xu_eq, upd_eq]
    have eB : ∀ a, a ≠ 127 → B a = A a := fun a q => by rw [← hB, xu_ne q]
    have eB7 : ∀ j, j ≠ 36 → B 127 j = S 127 j := fun j q => by rw [← hB, xu_eq, upd_ne q, eAo 127 (by decide) (by omega)]
    obtain ⟨t1, t2, t3⟩ := und22 B36 (by omega)
    have e' : f_X11_undo A = (f_X11_undo_L22 (fu 0 72) B 0 127 36, f_X11_undo_L22 (fu 0 72) B 0) := by
      unfold f_X11_undo
      dsimp only
      rw [if_neg ne0, a36, em, hB]
    refine ⟨⟨fun q => absurd q ne0, fun _ => ?_⟩, ?_⟩
    · dsimp only
      rw [a36, em, hB]
      exact ⟨t1, trivial⟩
    · rw [e']
      dsimp only
      generalize f_X11_undo_L22 (fu 0 72) B 0 = T at t2 t3
      refine ⟨by rw [t2 127 (by decide), B36], ?_⟩
      obtain ⟨g1, g2⟩ := p6 (c - 1) (by omega)
      have esl : (n + 16 - c + (c - 1)) % 16 = s := by omega
      rw [esl] at g1
      have eTo : ∀ a, a ≠ 27 → (a < 32 ∨ 36 < a) → a ≠ 127 → a ≠ 131 → T a = S a := fun a q1 q2 q3 q4 => by rw [t2 a q4, eB a q3, eAo a q1 q2]
      have e131 : ∀ i, i < 72 → T 131 i = S 144 (72 * (c - 1) + i) := fun i hi => by rw [t3 i hi, eB 144 (by decide), eAo 144 (by decide) (by omega)]
      have tT : ∀ j, tk T 32 j = tk A 32 j := fun j => tk_cg (fun i hi => by rw [t2 _ (by omega), eB _ (by omega)]) j
      refine xR_talk h1 h2 hh hb hi h4 (fun a q1 q2 q3 q4 q5 q6 q7 q8 q9 q10 => eTo a q2 (by omega) q4 q5) (fun j q1 q2 => by rw [t2 127 (by decide)]; exact eB7 j q1) ⟨s, c - 1, hs, by omega, by rw [t2 27 (by decide), eB 27 (by decide)]; exact A1, by rw [t2 27 (by decide), eB 27 (by decide)]; exact A2, by rw [t2 127 (by decide)]; exact B36, fun j hj => ?_⟩ (fun j hj => ?_) (vr_cg hP (xRv_iff.mp g2) e131) (xRd_cg (by rw [eTo 26 (by decide) (by omega) (by decide) (by decide)]) (by rw [t2 127 (by decide)]; exact eB7 10 (by decide)) h5)
      · obtain ⟨k1, k2⟩ := p6 j (by omega)
        have es2 : (n + 16 - c + j) % 16 = (s + 16 - (c - 1) + j) % 16 := by omega
        rw [es2] at k1
        generalize hz : (s + 16 - (c - 1) + j) % 16 = z at k1
        exact ⟨xRk_cg (fun i hi => eTo _ (by omega) (by omega) (by omega) (by omega)) (eTo 144 (by decide) (by omega) (by decide) (by decide)) k1, xRv_cg (eTo 144 (by decide) (by omega) (by decide) (by decide)) k2⟩
      · rw [tT, tA j hj, e131 j hj]
        exact xRk_iff.mp g1 j hj
theorem kp15 {V : xS} {c : Nat} (h : c < 2) : s_X11_keep_L15 (fu 0 72) V (nI c) 0 ∧ (∀ k, k ≠ 146 → f_X11_keep_L15 (fu 0 72) V (nI c) 0 k = V k) ∧ (∀ i, i < 72 → f_X11_keep_L15 (fu 0 72) V (nI c) 0 146 (73 * c + i) = V 131 i) ∧ ∀ j, j < 73 * c ∨ 73 * c + 72 ≤ j → f_X11_keep_L15 (fu 0 72) V (nI c) 0 146 j = V 146 j := by
  have key := cpl (fun n a x => (f_X11_keep_L15 n a (nI c) x, s_X11_keep_L15 n a (nI c) x)) V 146 131 (73 * c) 0 72 (by decide)
    (fun n a ha => by simp only [f_X11_keep_L15, s_X11_keep_L15, le72, ↓reduceIte, eq_self, n10, not_true_eq_false, not_false_eq_true, true_implies, false_implies, true_and, and_true, implies_true, forall_const, Sum.elim_inl, Sum.elim_inr, and_self])
    (fun n a i hi ha => by
      have v1 : vp_in (nI i) 72 := vp_in_nI hi (by decide)
      have v2 : vp_in (nI (73 * c + i)) 146 := vp_in_nI (by omega) (by decide)
      simp only [f_X11_keep_L15, s_X11_keep_L15, nle72 hi, ix73, cn (show i < 1000000 by omega), cn (show 73 * c + i < 1000000 by omega), nI_1, Nat.zero_add, v1, v2, ↓reduceIte, eq_self, n10, not_true_eq_false, not_false_eq_true, true_implies, false_implies, true_and, and_true, implies_true, forall_const, Sum.elim_inl, Sum.elim_inr, and_self]
      exact id)
    fu72
  simp only [Nat.zero_add] at key
  exact key
theorem gb27 {V : xS} {c : Nat} (h : c < 2) : s_X11_goBack_L27 (fu 0 72) V (nI c) 0 ∧ (∀ k, k ≠ 131 → f_X11_goBack_L27 (fu 0 72) V (nI c) 0 k = V k) ∧ ∀ i, i < 72 → f_X11_goBack_L27 (fu 0 72) V (nI c) 0 131 i = V 146 (73 * c + i) := by
  have key := cpl (fun n a x => (f_X11_goBack_L27 n a (nI c) x, s_X11_goBack_L27 n a (nI c) x)) V 131 146 0 (73 * c) 72 (by decide)
    (fun n a ha => by simp only [f_X11_goBack_L27, s_X11_goBack_L27, le72, ↓reduceIte, eq_self, n10, not_true_eq_false, not_false_eq_true, true_implies, false_implies, true_and, and_true, implies_true, forall_const, Sum.elim_inl, Sum.elim_inr, and_self])
    (fun n a i hi ha => by
      have v1 : vp_in (nI i) 72 := vp_in_nI hi (by decide)
      have v2 : vp_in (nI (73 * c + i)) 146 := vp_in_nI (by omega) (by decide)
      simp only [f_X11_goBack_L27, s_X11_goBack_L27, nle72 hi, ix73, cn (show i < 1000000 by omega), cn (show 73 * c + i < 1000000 by omega), nI_1, Nat.zero_add, v1, v2, ↓reduceIte, eq_self, n10, not_true_eq_false, not_false_eq_true, true_implies, false_implies, true_and, and_true, implies_true, forall_const, Sum.elim_inl, Sum.elim_inr, and_self]
      exact id)
    fu72
  simp only [Nat.zero_add] at key
  exact ⟨key.1, key.2.1, key.2.2.1⟩
theorem img_some (S : xS) {c : Nat} (h : c < 2) : f_X10_imageAt S (nI c) = some (30 + c) := by
  unfold f_X10_imageAt
  rw [if_neg (nI_pos (by omega)), if_neg (nI_ge h (by omega)), nI_clamp (by omega)]
theorem in01 {S : xS} {p0 : Int32} (h : ¬ f_X11_in S p0.toInt64 0 1 = 0) : ∃ c, c < 2 ∧ p0 = nI c := by
  have e : f_X11_in S p0.toInt64 0 1 = f_X10_within S p0 0 1 := in_within S S p0 0 1 rfl rfl
  rw [e, within_eq] at h
  have g : (0 : Int32).toInt ≤ p0.toInt ∧ p0.toInt ≤ (1 : Int32).toInt := Classical.byContradiction (fun q => h (if_neg q))
  rw [i_0, i_1] at g
  obtain ⟨v, hv0, rfl⟩ := nI_of (x := p0) (by rw [i_lt, i_0]; omega)
  rw [nI_toInt hv0] at g
  exact ⟨v, by omega, rfl⟩
theorem img_none {S : xS} {p0 : Int32} (h : f_X11_in S p0.toInt64 0 1 = 0) : f_X10_imageAt S p0 = none := by
  have e : f_X11_in S p0.toInt64 0 1 = f_X10_within S p0 0 1 := in_within S S p0 0 1 rfl rfl
  rw [e, within_eq] at h
  have g : ¬ ((0 : Int32).toInt ≤ p0.toInt ∧ p0.toInt ≤ (1 : Int32).toInt) := fun q => by rw [if_pos q] at h; exact absurd h (by decide)
  rw [i_0, i_1] at g
  unfold f_X10_imageAt
  by_cases c1 : p0 < 0
  · rw [if_pos c1]
  · rw [if_neg c1, if_pos (by rw [i_le, nI_toInt (by omega)]; rw [i_lt, i_0] at c1; omega)]
theorem op_keep {S : xS} (h : xR S) (p0 : Int32) : s_X10_keep S p0 ∧ s_X11_keep ((f_X10_keep S p0).2) p0 ∧ (f_X10_keep S p0).1 = (f_X11_keep ((f_X10_keep S p0).2) p0).1 ∧ xR ((f_X11_keep ((f_X10_keep S p0).2) p0).2) := by
  obtain ⟨h1, h2, ⟨R, P, hh, hk, hv, ⟨n, c0, p1, p2, p3, p4, p5, p6⟩, hb, hi⟩, h4, d, d1, d2, d3⟩ := id h
  have hP := xhP hh
  by_cases g : f_X11_in S p0.toInt64 0 1 = 0
  · have en := img_none g
    have e : f_X10_keep S p0 = (-1000000001, S) := by unfold f_X10_keep; rw [en]; rfl
    have e' : f_X11_keep S p0 = (-1000000001, S) := by unfold f_X11_keep; dsimp only; rw [if_pos g]
    refine ⟨⟨fun _ => trivial, fun t q => (by rw [en] at q; cases q)⟩, ?_⟩
    rw [e]
    dsimp only
    rw [e']
    exact ⟨⟨fun _ => trivial, fun q => absurd g q⟩, rfl, h⟩
  · obtain ⟨c, hc, rfl⟩ := in01 g
    have en := img_some S hc
    have eb : 117 + 5 * (30 + c - 30) = 117 + 5 * c := by omega
    have ht : isT (117 + 5 * c) = true := isT_of (by omega) (by omega) (by omega)
    obtain ⟨s1, s2, s3⟩ := cf_ok (S := S) (b := 117 + 5 * c) (k0 := 32) ht (by decide) (by omega)
    refine ⟨⟨fun _ => trivial, fun t q => ?_⟩, ?_⟩
    · rw [en] at q
      cases q
      rw [eb]
      exact ⟨s1, trivial⟩
    · have e : f_X10_keep S (nI c) = (1, xu (xu (xu (f_X7_copyFrom S (117 + 5 * c) 32) (30 + c) 1 (nI d)) (30 + c) 2 1) 27 2 0) := by
        unfold f_X10_keep f_X6_forget
        rw [en]
        dsimp only [Option.elim]
        rw [eb, s2 26 (by omega), d2]
      rw [e]
      dsimp only
      generalize hA : xu (xu (xu (f_X7_copyFrom S (117 + 5 * c) 32) (30 + c) 1 (nI d)) (30 + c) 2 1) 27 2 0 = A
      have eAo : ∀ a, a ≠ 27 → a ≠ 30 + c → (a < 117 + 5 * c ∨ 117 + 5 * c + 4 < a) → A a = S a := fun a q1 q2 q3 => by rw [← hA, xu_ne q1, xu_ne q2, xu_ne q2, s2 a q3]
      have Ai1 : A (30 + c) 1 = nI d := by rw [← hA, xu_ne (by omega), xu_eq, upd_ne (by decide), xu_eq, upd_eq]
      have Ai2 : A (30 + c) 2 = 1 := by rw [← hA, xu_ne (by omega), xu_eq, upd_eq]
      have A1 : A 27 1 = nI n := by rw [← hA, xu_eq, upd_ne (by decide), xu_ne (by omega), xu_ne (by omega), s2 27 (by omega)]; exact p3
      have A2 : A 27 2 = 0 := by rw [← hA, xu_eq, upd_eq]
      have tA : ∀ j, j < 72 → tk A (117 + 5 * c) j = S 131 j := fun j hj => by
        rw [← hA, tk_cg (S := f_X7_copyFrom S (117 + 5 * c) 32) (fun i hi => by rw [xu_ne (by omega), xu_ne (by omega), xu_ne (by omega)]), s3 j hj]
        exact tk_131 hk j hj
      obtain ⟨k1, k2, k3, k4⟩ := kp15 (V := A) hc
      have g' : ¬ f_X11_in A (nI c).toInt64 0 1 = 0 := g
      have i72 : 73 * nI c + 72 = nI (73 * c + 72) := ix73 c 72
      have c72 : (nI (73 * c + 72)).toNatClampNeg = 73 * c + 72 := nI_clamp (by omega)
      generalize hK : f_X11_keep_L15 (fu 0 72) A (nI c) 0 = K at k2 k3 k4
      have K10 : K 127 10 = nI d := by rw [k2 127 (by decide), eAo 127 (by decide) (by omega) (by omega)]; exact d3
      have e' : f_X11_keep A (nI c) = (1, xu (xu (xu K 146 (73 * c + 72) (nI d)) 147 c 1) 127 36 0) := by
        unfold f_X11_keep
        dsimp only
        rw [if_neg g', hK, i72, c72, K10, nI_clamp (by omega)]
      refine ⟨⟨fun q => absurd q g', fun _ => ⟨k1, ?_⟩⟩, ?_⟩
      · dsimp only
        rw [i72]
        exact ⟨vp_in_nI (by omega) (by decide), vp_in_nI hc (by decide), trivial⟩
      · rw [e']
        refine ⟨rfl, ?_⟩
        dsimp only
        generalize hT : xu (xu (xu K 146 (73 * c + 72) (nI d)) 147 c 1) 127 36 0 = T
        have eTo : ∀ a, a ≠ 27 → a ≠ 30 + c → (a < 117 + 5 * c ∨ 117 + 5 * c + 4 < a) → a ≠ 127 → a ≠ 146 → a ≠ 147 → T a = S a := fun a q1 q2 q3 q4 q5 q6 => by
          rw [← hT, xu_ne q4, xu_ne q6, xu_ne q5, k2 a q5, eAo a q1 q2 q3]
        have eT7 : ∀ j, j ≠ 36 → T 127 j = S 127 j := fun j q => by rw [← hT, xu_eq, upd_ne q, xu_ne (by decide), xu_ne (by decide), k2 127 (by decide), eAo 127 (by decide) (by omega) (by omega)]
        have T36 : T 127 36 = 0 := by rw [← hT, xu_eq, upd_eq]
        have T146 : ∀ j, T 146 j = if j = 73 * c + 72 then nI d else K 146 j := fun j => by
          rw [← hT, xu_ne (by decide), xu_ne (by decide), xu_eq]
          by_cases q : j = 73 * c + 72
          · rw [if_pos q, q, upd_eq]
          · rw [if_neg q, upd_ne q]
        have T147 : T 147 = upd (S 147) c 1 := by rw [← hT, xu_ne (by decide), xu_eq, xu_ne (by decide), k2 147 (by decide), eAo 147 (by decide) (by omega) (by omega)]
        have eTA : ∀ a, a < 127 → T a = A a := fun a q => by rw [← hT, xu_ne (by omega), xu_ne (by omega), xu_ne (by omega), k2 a (by omega)]
        have e131 : T 131 = S 131 := eTo 131 (by decide) (by omega) (by omega) (by decide) (by decide) (by decide)
        refine ⟨xRt_cg (by rw [eTo 1 (by decide) (by omega) (by omega) (by decide) (by decide) (by decide)]) (eTo 2 (by decide) (by omega) (by omega) (by decide) (by decide) (by decide)) (eT7 _ (by decide)) (eTo 138 (by decide) (by omega) (by omega) (by decide) (by decide) (by decide)) h1, by rw [eTo 1 (by decide) (by omega) (by omega) (by decide) (by decide) (by decide), eT7 20 (by decide)]; exact h2, ⟨R, P, xRh_cg (fun a _ _ => eTo a (by omega) (by omega) (by omega) (by omega) (by omega) (by omega)) (fun j hj => eT7 j (by omega)) (fun a _ _ => eTo a (by omega) (by omega) (by omega) (by omega) (by omega) (by omega)) hh, xRk_cg (fun i hi => eTo _ (by omega) (by omega) (by omega) (by omega) (by omega) (by omega)) e131 hk, xRv_cg e131 hv, ⟨n, 0, p1, by omega, by rw [eTA 27 (by omega)]; exact A1, by rw [eTA 27 (by omega)]; exact A2, T36, fun j hj => absurd hj (by omega)⟩, xRb_cg (fun a _ _ => eTo a (by omega) (by omega) (by omega) (by omega) (by omega) (by omega)) (eT7 _ (by decide)) (eTo 136 (by decide) (by omega) (by omega) (by decide) (by decide) (by decide)) (eTo 137 (by decide) (by omega) (by omega) (by decide) (by decide) (by decide)) hb, fun i hi0 => ?_⟩, xRn_cg (fun a _ _ => eTo a (by omega) (by omega) (by omega) (by omega) (by omega) (by omega)) (eT7 _ (by decide)) (eTo 133 (by decide) (by omega) (by omega) (by decide) (by decide) (by decide)) (eTo 134 (by decide) (by omega) (by omega) (by decide) (by decide) (by decide)) (eTo 135 (by decide) (by omega) (by omega) (by decide) (by decide) (by decide)) h4, ⟨d, d1, by rw [eTo 26 (by decide) (by omega) (by omega) (by decide) (by decide) (by decide)]; exact d2, by rw [eT7 10 (by decide)]; exact d3⟩⟩
        by_cases ci : i = c
        · subst ci
          have er : ∀ j, j < 72 → T 146 (73 * i + j) = S 131 j := fun j hj => by rw [T146, if_neg (by omega), k3 j hj, eAo 131 (by decide) (by omega) (by omega)]
          have e72 : T 146 (73 * i + 72) = nI d := by rw [T146, if_pos rfl]
          rw [T147, upd_eq, eTA (30 + i) (by omega), Ai2, Ai1, e72]
          refine ⟨rfl, Or.inr rfl, fun _ => ⟨xRk_iff.mpr (fun j hj => ?_), xRv_iff.mpr (vr_cg hP (vr_131 hP hv) er), rfl, d, d1, rfl⟩⟩
          rw [tk_cg (S := A) (fun l hl => eTA _ (by omega)), tA j hj, er j hj]
        · obtain ⟨z1, z2, z3⟩ := hi i hi0
          have er : ∀ j, j ≤ 72 → T 146 (73 * i + j) = S 146 (73 * i + j) := fun j hj => by rw [T146, if_neg (by omega), k4 _ (by omega), eAo 146 (by decide) (by omega) (by omega)]
          have ei : T (30 + i) = S (30 + i) := eTo _ (by omega) (by omega) (by omega) (by omega) (by omega) (by omega)
          rw [T147, upd_ne ci, ei, er 72 (by omega)]
          refine ⟨z1, z2, fun q => ?_⟩
          obtain ⟨y1, y2, y3, y4⟩ := z3 q
          refine ⟨xRk_iff.mpr (fun j hj => ?_), xRv_iff.mpr (vr_cg hP (xRv_iff.mp y2) (fun j hj => er j (by omega))), y3, y4⟩
          rw [tk_cg (S := S) (fun l hl => eTo _ (by omega) (by omega) (by omega) (by omega) (by omega) (by omega)), er j (by omega)]
          exact xRk_iff.mp y1 j hj
theorem op_goBack {S : xS} (h : xR S) (p0 : Int32) : s_X10_goBack S p0 ∧ s_X11_goBack ((f_X10_goBack S p0).2) p0 ∧ (f_X10_goBack S p0).1 = (f_X11_goBack ((f_X10_goBack S p0).2) p0).1 ∧ xR ((f_X11_goBack ((f_X10_goBack S p0).2) p0).2) := by
  obtain ⟨h1, h2, ⟨R, P, hh, hk, hv, ⟨n, c0, p1, p2, p3, p4, p5, p6⟩, hb, hi⟩, h4, h5⟩ := id h
  have hP := xhP hh
  by_cases g : f_X11_in S p0.toInt64 0 1 = 0
  · have en := img_none g
    have e : f_X10_goBack S p0 = (-1000000001, S) := by unfold f_X10_goBack; rw [en]; rfl
    have e' : f_X11_goBack S p0 = (-1000000001, S) := by unfold f_X11_goBack; dsimp only; rw [if_pos g]
    refine ⟨⟨fun _ => trivial, fun t q => (by rw [en] at q; cases q)⟩, ?_⟩
    rw [e]
    dsimp only
    rw [e']
    exact ⟨⟨fun _ => trivial, fun q => absurd g q⟩, rfl, h⟩
  · obtain ⟨c, hc, rfl⟩ := in01 g
    have en := img_some S hc
    have eb : 117 + 5 * (30 + c - 30) = 117 + 5 * c := by omega
    have ht : isT (117 + 5 * c) = true := isT_of (by omega) (by omega) (by omega)
    obtain ⟨s1, s2, s3⟩ := cf_ok (S := S) (b := 32) (k0 := 117 + 5 * c) (by decide) ht (by omega)
    obtain ⟨z1, z2, z3⟩ := hi c hc
    have vc : vp_in (nI c) 2 := vp_in_nI hc (by decide)
    have cc : (nI c).toNatClampNeg = c := nI_clamp (by omega)
    refine ⟨⟨fun _ => trivial, fun t q => ?_⟩, ?_⟩
    · rw [en] at q
      cases q
      rw [eb]
      exact ⟨fun _ => trivial, fun _ => ⟨s1, trivial⟩⟩
    · by_cases kz : S 147 c = 0
      · have e : f_X10_goBack S (nI c) = (-1000000003, S) := by
          unfold f_X10_goBack
          rw [en]
          dsimp only [Option.elim]
          rw [if_pos (z1.trans kz)]
        have e' : f_X11_goBack S (nI c) = (-1000000003, S) := by
          unfold f_X11_goBack
          dsimp only
          rw [if_neg g, cc, if_pos kz]
        rw [e]
        dsimp only
        rw [e']
        refine ⟨⟨fun _ => trivial, fun _ => ⟨vc, fun _ => trivial, fun q => absurd ?_ q⟩⟩, rfl, h⟩
        rw [cc]; exact kz
      · have k1 : S 147 c = 1 := z2.resolve_left kz
        obtain ⟨y1, y2, y3, d, d1, d2⟩ := z3 k1
        have ne : ¬ S (30 + c) 2 = 0 := by rw [z1]; exact kz
        have e : f_X10_goBack S (nI c) = (1, xu (xu (f_X7_copyFrom S 32 (117 + 5 * c)) 26 0 (nI d)) 27 2 0) := by
          unfold f_X10_goBack f_X6_forget
          rw [en]
          dsimp only [Option.elim]
          rw [if_neg ne, eb, s2 (30 + c) (by omega), y3, d2]
        rw [e]
        dsimp only
        generalize hA : xu (xu (f_X7_copyFrom S 32 (117 + 5 * c)) 26 0 (nI d)) 27 2 0 = A
        have eAo : ∀ a, a ≠ 26 → a ≠ 27 → (a < 32 ∨ 36 < a) → A a = S a := fun a q1 q2 q3 => by rw [← hA, xu_ne q2, xu_ne q1, s2 a (by omega)]
        have A1 : A 27 1 = nI n := by rw [← hA, xu_eq, upd_ne (by decide), xu_ne (by decide), s2 27 (by omega)]; exact p3
        have A2 : A 27 2 = 0 := by rw [← hA, xu_eq, upd_eq]
        have A26 : A 26 0 = nI d := by rw [← hA, xu_ne (by decide), xu_eq, upd_eq]
        have tA : ∀ j, j < 72 → tk A 32 j = tk S (117 + 5 * c) j := fun j hj => by
          rw [← hA, tk_cg (S := f_X7_copyFrom S 32 (117 + 5 * c)) (fun i hi => by rw [xu_ne (by omega), xu_ne (by omega)])]
          exact s3 j hj
        obtain ⟨k1, k2, k3⟩ := gb27 (V := A) hc
        have g' : ¬ f_X11_in A (nI c).toInt64 0 1 = 0 := g
        have kz' : ¬ A 147 c = 0 := by rw [eAo 147 (by decide) (by decide) (by omega)]; exact kz
        have i72 : 73 * nI c + 72 = nI (73 * c + 72) := ix73 c 72
        have c72 : (nI (73 * c + 72)).toNatClampNeg = 73 * c + 72 := nI_clamp (by omega)
        generalize hK : f_X11_goBack_L27 (fu 0 72) A (nI c) 0 = K at k2 k3
        have K146 : K 146 (73 * c + 72) = nI d := by rw [k2 146 (by decide), eAo 146 (by decide) (by decide) (by omega)]; exact d2
        have e' : f_X11_goBack A (nI c) = (1, xu (xu K 127 10 (nI d)) 127 36 0) := by
          unfold f_X11_goBack
          dsimp only
          rw [if_neg g', cc, if_neg kz', hK, i72, c72, K146]
        refine ⟨⟨fun q => absurd q g', fun _ => ⟨vc, fun _ => trivial, fun _ => ⟨k1, ?_⟩⟩⟩, ?_⟩
        · rw [i72]
          exact ⟨vp_in_nI (by omega) (by decide), trivial⟩
        · rw [e']
          refine ⟨rfl, ?_⟩
          dsimp only
          generalize hT : xu (xu K 127 10 (nI d)) 127 36 0 = T
          have eTK : ∀ a, a ≠ 127 → T a = K a := fun a q => by rw [← hT, xu_ne q, xu_ne q]
          have eTo : ∀ a, a ≠ 26 → a ≠ 27 → (a < 32 ∨ 36 < a) → a ≠ 127 → a ≠ 131 → T a = S a := fun a q1 q2 q3 q4 q5 => by rw [eTK a q4, k2 a q5, eAo a q1 q2 q3]
          have eT7 : ∀ j, j ≠ 36 → j ≠ 10 → T 127 j = S 127 j := fun j q q2 => by rw [← hT, xu_eq, upd_ne q, xu_eq, upd_ne q2, k2 127 (by decide), eAo 127 (by decide) (by decide) (by omega)]
          have T36 : T 127 36 = 0 := by rw [← hT, xu_eq, upd_eq]
          have T10 : T 127 10 = nI d := by rw [← hT, xu_eq, upd_ne (by decide), xu_eq, upd_eq]
          have e131 : ∀ i, i < 72 → T 131 i = S 146 (73 * c + i) := fun i hi => by rw [eTK 131 (by decide), k3 i hi, eAo 146 (by decide) (by decide) (by omega)]
          refine xR_talk h1 h2 hh hb hi h4 (fun a q1 q2 q3 q4 q5 q6 q7 q8 q9 q10 => eTo a q1 q2 (by omega) q4 q5) eT7 ⟨n, 0, p1, by omega, by rw [eTK 27 (by decide), k2 27 (by decide)]; exact A1, by rw [eTK 27 (by decide), k2 27 (by decide)]; exact A2, T36, fun j hj => absurd hj (by omega)⟩ (fun j hj => ?_) (vr_cg hP (xRv_iff.mp y2) e131) ⟨d, d1, by rw [eTK 26 (by decide), k2 26 (by decide)]; exact A26, T10⟩
          rw [tk_cg (S := A) (fun i hi => by rw [eTK _ (by omega), k2 _ (by omega)]), tA j hj, e131 j hj]
          exact xRk_iff.mp y1 j hj
