/-! judge, note, write -/
theorem op_judge {S : xS} (h : xR S) : s_X10_judge S ∧ s_X11_judge S ∧ f_X10_judge S = (f_X11_judge S) ∧ xR S := by
  obtain ⟨R, P, hh, hk, hv, -, ⟨c, c1, c2, c3, c4⟩, -⟩ := h.2.2.1
  have hP := xhP hh
  have key := xl_b0 (α := Unit) (β := Unit) (γ := (Int32 ⊕ Unit) × Prop) (δ := (Int32 ⊕ Unit) × Prop)
    (fun n _ x => (f_X0_firstWrong_L2 n S 32 x, s_X0_firstWrong_L2 n S 32 x))
    (fun n _ x => (f_X11_judge_L2 n S x, s_X11_judge_L2 n S x))
    (fun z w => z.2 ∧ w.2 ∧ z.1 = w.1) c (fun _ _ _ => True)
    (fun n m a b _ => by
      have l : nI c ≤ nI c := nI_le (Nat.le_refl _) (by omega)
      simp only [f_X0_firstWrong_L2, s_X0_firstWrong_L2, f_X11_judge_L2, s_X11_judge_L2, c2, c3, l, ↓reduceIte, eq_self, n10, not_true_eq_false, not_false_eq_true, true_implies, false_implies, true_and, and_true, implies_true, forall_const, Sum.elim_inl, Sum.elim_inr, and_self])
    (fun n m a b i hi _ => by
      have l : ¬ nI c ≤ nI i := nI_ge hi (by omega)
      obtain ⟨d1, d2, p, d3, d4⟩ := c4 i hi
      have v1 : vp_in (nI i) 15 := vp_in_nI (by omega) (by decide)
      have v2 : vp_in (9 + nI p) 72 := by rw [ix9]; exact vp_in_nI (by omega) (by decide)
      have e1 : f_X10_at S 25 (nI i) = S 137 i := by rw [at_in (N := 15) rfl (by omega) (by decide), d2]
      have e2 : f_X10_at S 24 (nI i) = nI p := by rw [at_in (N := 15) rfl (by omega) (by decide), d1, d4]
      have e3 : f_X10_at S (32 + 2) (nI p) = S 131 (9 + p) := by rw [at_in (N := 7) rfl (by omega) (by decide)]; exact kW hk (by omega)
      by_cases q : S 131 (9 + p) = S 137 i
      · refine Or.inr ⟨(), (), trivial, fun ⟨h1, h2, h3⟩ => ?_⟩
        dsimp only at h1 h2 h3 ⊢
        simp only [f_X0_firstWrong_L2, s_X0_firstWrong_L2, f_X11_judge_L2, s_X11_judge_L2, c2, c3, l, e1, e2, e3, cn (show i < 1000000 by omega), d4, c9n (show p < 1000000 by omega), q, nI_1, v1, v2, ↓reduceIte, eq_self, n10, not_true_eq_false, not_false_eq_true, true_implies, false_implies, true_and, and_true, implies_true, forall_const, Sum.elim_inl, Sum.elim_inr, and_self]
        exact ⟨h1, h2, h3⟩
      · have q2 : ¬ S 137 i = S 131 (9 + p) := fun e => q e.symm
        left
        simp only [f_X0_firstWrong_L2, s_X0_firstWrong_L2, f_X11_judge_L2, s_X11_judge_L2, c2, c3, l, e1, e2, e3, cn (show i < 1000000 by omega), d4, c9n (show p < 1000000 by omega), q, q2, nI_1, v1, v2, ↓reduceIte, eq_self, n10, not_true_eq_false, not_false_eq_true, true_implies, false_implies, true_and, and_true, implies_true, forall_const, Sum.elim_inl, Sum.elim_inr, and_self])
    (n := fu 0 (nI c)) (m := fu 0 (nI c)) () () (by rw [fu_0 (by omega)]; omega) (by rw [fu_0 (by omega)]; omega) trivial
  rw [← c2] at key
  obtain ⟨k1, k2, k3⟩ := key
  dsimp only at k1 k2 k3
  refine ⟨⟨⟨k1, fun _ _ => trivial⟩, trivial⟩, ⟨?_, fun _ _ => trivial⟩, ?_, h⟩
  · rw [c3, ← c2]; exact k2
  · unfold f_X10_judge f_X0_firstWrong f_X11_judge
    dsimp only
    rw [k3, c3, c2]
theorem note_tail {S : xS} {c : Nat} (hc : c < 6) (e : S 19 3 = nI c) (p0 p1 p2 : Int32) (hz2 : p2 = 0 ∨ p2 = 1) : f_X5_add S p0 p1 p2 = (nI (c + 1), xu (xu (xu (xu S 20 c p0) 21 c p1) 22 c p2) 19 3 (nI (c + 1))) := by
  have e1 : ∀ v, f_X10_put S 20 (nI c) v = xu S 20 c v := fun v => put_in (N := 6) rfl hc (by decide)
  have e2 : ∀ v, f_X10_put (xu S 20 c p0) 21 (nI c) v = xu (xu S 20 c p0) 21 c v := fun v => put_in (N := 6) rfl hc (by decide)
  have e3 : ∀ v, f_X10_put (xu (xu S 20 c p0) 21 c p1) 22 (nI c) v = xu (xu (xu S 20 c p0) 21 c p1) 22 c v := fun v => put_in (N := 6) rfl hc (by decide)
  have w1 : xu S 20 c p0 19 3 = nI c := by rw [xu_ne (by decide)]; exact e
  have w2 : xu (xu S 20 c p0) 21 c p1 19 3 = nI c := by rw [xu_ne (by decide)]; exact w1
  have w3 : ∀ v, xu (xu (xu S 20 c p0) 21 c p1) 22 c v 19 3 = nI c := fun v => by rw [xu_ne (by decide)]; exact w2
  unfold f_X5_add
  dsimp only
  rcases hz2 with rfl | rfl
  · rw [if_pos rfl, e, e1, w1, e2, w2, e3, w3, nI_1, xu_eq, upd_eq]
  · rw [if_neg (by decide), e, e1, w1, e2, w2, e3, w3, nI_1, xu_eq, upd_eq]
theorem note_tail2 {S : xS} {c : Nat} (hc : c < 6) (e : S 127 11 = nI c) (p0 p1 p2 : Int32) (hz2 : p2 = 0 ∨ p2 = 1) (g1 : ¬ f_X11_in S p0.toInt64 0 2 = 0) (g2 : ¬ f_X11_in S p1.toInt64 (-9) 9 = 0) : s_X11_note S p0 p1 p2 ∧ f_X11_note S p0 p1 p2 = (nI (c + 1), xu (xu (xu (xu S 133 c p0) 134 c p1) 135 c p2) 127 11 (nI (c + 1))) := by
  have ec : (nI c).toNatClampNeg = c := nI_clamp (by omega)
  have e6 : ¬ nI c = (6 : Int32) := fun q => absurd (nI_inj (b := 6) (by omega) (by decide) q) (by omega)
  have w1 : xu S 133 c p0 127 11 = nI c := by rw [xu_ne (by decide)]; exact e
  have w2 : xu (xu S 133 c p0) 134 c p1 127 11 = nI c := by rw [xu_ne (by decide)]; exact w1
  have w3 : ∀ v, xu (xu (xu S 133 c p0) 134 c p1) 135 c v 127 11 = nI c := fun v => by rw [xu_ne (by decide)]; exact w2
  have v1 : vp_in (nI c) 6 := vp_in_nI hc (by decide)
  refine ⟨⟨fun _ => trivial, fun _ => ⟨fun _ => trivial, fun _ => ⟨fun _ => trivial, fun _ => ?_⟩⟩⟩, ?_⟩
  · dsimp only
    rw [e, ec, w1, ec, w2]
    exact ⟨v1, v1, fun _ => ⟨v1, trivial⟩, fun _ => ⟨v1, trivial⟩⟩
  · unfold f_X11_note
    dsimp only
    rw [if_neg g1, if_neg g2, e, if_neg e6, ec, w1, ec, w2, ec]
    rcases hz2 with rfl | rfl
    · rw [if_pos rfl, w3, nI_1, xu_eq, upd_eq]
    · rw [if_neg (by decide), w3, nI_1, xu_eq, upd_eq]
theorem op_note {S : xS} (h : xR S) (p0 p1 p2 : Int32) (hz2 : p2 = 0 ∨ p2 = 1) : s_X11_note ((f_X10_note S p0 p1 p2).2) p0 p1 p2 ∧ (f_X10_note S p0 p1 p2).1 = (f_X11_note ((f_X10_note S p0 p1 p2).2) p0 p1 p2).1 ∧ xR ((f_X11_note ((f_X10_note S p0 p1 p2).2) p0 p1 p2).2) := by
  obtain ⟨h1, h2, h3, ⟨c, c1, c2, c3, c4⟩, h5⟩ := id h
  have i1 : ∀ T, f_X11_in T p0.toInt64 0 2 = f_X10_within S p0 0 2 := fun T => in_within T S p0 0 2 rfl rfl
  have i2 : ∀ T, f_X11_in T p1.toInt64 (-9) 9 = f_X10_within S p1 (-9) 9 := fun T => in_within T S p1 (-9) 9 (by decide) rfl
  by_cases g1 : f_X10_within S p0 0 2 = 0
  · have e : f_X10_note S p0 p1 p2 = (-1000000002, S) := by unfold f_X10_note; dsimp only; rw [if_pos g1]
    have e' : f_X11_note S p0 p1 p2 = (-1000000002, S) := by unfold f_X11_note; dsimp only; rw [if_pos ((i1 S).trans g1)]
    rw [e]
    dsimp only
    rw [e']
    exact ⟨⟨fun _ => trivial, fun q => absurd ((i1 S).trans g1) q⟩, rfl, h⟩
  · by_cases g2 : f_X10_within S p1 (-9) 9 = 0
    · have e : f_X10_note S p0 p1 p2 = (-1000000002, S) := by unfold f_X10_note; dsimp only; rw [if_neg g1, if_pos g2]
      have e' : f_X11_note S p0 p1 p2 = (-1000000002, S) := by unfold f_X11_note; dsimp only; rw [if_neg (by rw [i1 S]; exact g1), if_pos ((i2 S).trans g2)]
      rw [e]
      dsimp only
      rw [e']
      exact ⟨⟨fun _ => trivial, fun _ => ⟨fun _ => trivial, fun q => absurd ((i2 S).trans g2) q⟩⟩, rfl, h⟩
    · by_cases hc : c < 6
      · have l : nI c < (6 : Int32) := nI_lt (b := 6) hc (by decide)
        have e : f_X10_note S p0 p1 p2 = (nI (c + 1), xu (xu (xu (xu S 20 c p0) 21 c p1) 22 c p2) 19 3 (nI (c + 1))) := by
          unfold f_X10_note
          dsimp only
          rw [if_neg g1, if_neg g2, c2, if_pos l, note_tail hc c2 p0 p1 p2 hz2]
        rw [e]
        dsimp only
        generalize hU : xu (xu (xu (xu S 20 c p0) 21 c p1) 22 c p2) 19 3 (nI (c + 1)) = U
        have u7 : U 127 = S 127 := by rw [← hU, xu_ne (by decide), xu_ne (by decide), xu_ne (by decide), xu_ne (by decide)]
        obtain ⟨n1, n2⟩ := note_tail2 hc (S := U) (by rw [u7]; exact c3) p0 p1 p2 hz2 (by rw [i1]; exact g1) (by rw [i2]; exact g2)
        rw [n2]
        refine ⟨n1, rfl, ?_⟩
        dsimp only
        generalize hT : xu (xu (xu (xu U 133 c p0) 134 c p1) 135 c p2) 127 11 (nI (c + 1)) = T
        have ea : ∀ a, a ≠ 19 → a ≠ 20 → a ≠ 21 → a ≠ 22 → a ≠ 127 → a ≠ 133 → a ≠ 134 → a ≠ 135 → T a = S a := fun a q1 q2 q3 q4 q5 q6 q7 q8 => by
          rw [← hT, xu_ne q5, xu_ne q8, xu_ne q7, xu_ne q6, ← hU, xu_ne q1, xu_ne q4, xu_ne q3, xu_ne q2]
        have ej : ∀ j, j ≠ 11 → T 127 j = S 127 j := fun j q => by rw [← hT, xu_eq, upd_ne q, xu_ne (by decide), xu_ne (by decide), xu_ne (by decide), u7]
        have t19 : T 19 3 = nI (c + 1) := by rw [← hT, xu_ne (by decide), xu_ne (by decide), xu_ne (by decide), xu_ne (by decide), ← hU, xu_eq, upd_eq]
        have t11 : T 127 11 = nI (c + 1) := by rw [← hT, xu_eq, upd_eq]
        have t20 : T 20 = upd (S 20) c p0 := by rw [← hT, xu_ne (by decide), xu_ne (by decide), xu_ne (by decide), xu_ne (by decide), ← hU, xu_ne (by decide), xu_ne (by decide), xu_ne (by decide), xu_eq]
        have t21 : T 21 = upd (S 21) c p1 := by rw [← hT, xu_ne (by decide), xu_ne (by decide), xu_ne (by decide), xu_ne (by decide), ← hU, xu_ne (by decide), xu_ne (by decide), xu_eq, xu_ne (by decide)]
        have t22 : T 22 = upd (S 22) c p2 := by rw [← hT, xu_ne (by decide), xu_ne (by decide), xu_ne (by decide), xu_ne (by decide), ← hU, xu_ne (by decide), xu_eq, xu_ne (by decide), xu_ne (by decide)]
        have t133 : T 133 = upd (S 133) c p0 := by rw [← hT, xu_ne (by decide), xu_ne (by decide), xu_ne (by decide), xu_eq, ← hU, xu_ne (by decide), xu_ne (by decide), xu_ne (by decide), xu_ne (by decide)]
        have t134 : T 134 = upd (S 134) c p1 := by rw [← hT, xu_ne (by decide), xu_ne (by decide), xu_eq, xu_ne (by decide), ← hU, xu_ne (by decide), xu_ne (by decide), xu_ne (by decide), xu_ne (by decide)]
        have t135 : T 135 = upd (S 135) c p2 := by rw [← hT, xu_ne (by decide), xu_eq, xu_ne (by decide), xu_ne (by decide), ← hU, xu_ne (by decide), xu_ne (by decide), xu_ne (by decide), xu_ne (by decide)]
        refine ⟨xRt_cg (by rw [ea _ (by decide) (by decide) (by decide) (by decide) (by decide) (by decide) (by decide) (by decide)]) (ea _ (by decide) (by decide) (by decide) (by decide) (by decide) (by decide) (by decide) (by decide)) (ej _ (by decide)) (ea _ (by decide) (by decide) (by decide) (by decide) (by decide) (by decide) (by decide) (by decide)) h1, ?_, xRg_cg (fun a ha => by unfold xGc at ha; exact ea a (by omega) (by omega) (by omega) (by omega) (by omega) (by omega) (by omega) (by omega)) (fun j hj => ej j (by unfold xGj at hj; omega)) h3, ⟨c + 1, by omega, t19, t11, fun i hi => ?_⟩, xRd_cg (by rw [ea _ (by decide) (by decide) (by decide) (by decide) (by decide) (by decide) (by decide) (by decide)]) (ej _ (by decide)) h5⟩
        · rw [ea _ (by decide) (by decide) (by decide) (by decide) (by decide) (by decide) (by decide) (by decide), ej _ (by decide)]; exact h2
        · rw [t20, t21, t22, t133, t134, t135]
          by_cases hi2 : i = c
          · subst hi2
            rw [upd_eq, upd_eq, upd_eq, upd_eq, upd_eq, upd_eq]
            rw [within_eq] at g1 g2
            have g1 : (0 : Int32).toInt ≤ p0.toInt ∧ p0.toInt ≤ (2 : Int32).toInt := Classical.byContradiction (fun q => g1 (if_neg q))
            have g2 : (-9 : Int32).toInt ≤ p1.toInt ∧ p1.toInt ≤ (9 : Int32).toInt := Classical.byContradiction (fun q => g2 (if_neg q))
            have z0 : (0 : Int32).toInt = 0 := rfl
            have z2 : (2 : Int32).toInt = 2 := rfl
            have z9 : (9 : Int32).toInt = 9 := rfl
            have zm : (-9 : Int32).toInt = -9 := by decide
            obtain ⟨j, hj, rfl⟩ := nI_of (x := p0) (by rw [i_lt]; omega)
            rw [nI_toInt hj] at g1
            exact ⟨rfl, rfl, rfl, ⟨j, by omega, rfl⟩, ⟨by omega, by omega⟩, hz2⟩
          · rw [upd_ne hi2, upd_ne hi2, upd_ne hi2, upd_ne hi2, upd_ne hi2, upd_ne hi2]
            exact c4 i (by omega)
      · have c6 : c = 6 := by omega
        subst c6
        have e : f_X10_note S p0 p1 p2 = (-1000000004, S) := by unfold f_X10_note; dsimp only; rw [if_neg g1, if_neg g2, c2, if_neg (by decide)]
        have e' : f_X11_note S p0 p1 p2 = (-1000000004, S) := by unfold f_X11_note; dsimp only; rw [if_neg (by rw [i1 S]; exact g1), if_neg (by rw [i2 S]; exact g2), c3, if_pos (by decide)]
        rw [e]
        dsimp only
        rw [e']
        exact ⟨⟨fun _ => trivial, fun _ => ⟨fun _ => trivial, fun _ => ⟨fun _ => trivial, fun q => absurd (by rw [c3]; decide) q⟩⟩⟩, rfl, h⟩
theorem op_write {S : xS} (h : xR S) (p0 p1 : Int32) : s_X11_write ((f_X10_write S p0 p1).2) p0 p1 ∧ (f_X10_write S p0 p1).1 = (f_X11_write ((f_X10_write S p0 p1).2) p0 p1).1 ∧ xR ((f_X11_write ((f_X10_write S p0 p1).2) p0 p1).2) := by
  obtain ⟨h1, h2, ⟨R, P, hh, hk, hv, hp, ⟨c, c1, c2, c3, c4⟩, hi⟩, h4, h5⟩ := id h
  have hP := xhP hh
  have i2 : ∀ T, f_X11_in T p1.toInt64 (-9999) 9999 = f_X10_within S p1 (-9999) 9999 := fun T => in_within T S p1 (-9999) 9999 (by decide) rfl
  have i1 := person_eq hh p0
  by_cases g1 : f_X2_isPerson S 9 p0 = 0
  · have e : f_X10_write S p0 p1 = (-1000000001, S) := by unfold f_X10_write; dsimp only; rw [if_pos g1]
    have e' : f_X11_write S p0 p1 = (-1000000001, S) := by unfold f_X11_write; dsimp only; rw [if_pos (i1.trans g1)]
    rw [e]
    dsimp only
    rw [e']
    exact ⟨⟨fun _ => trivial, fun q => absurd (i1.trans g1) q⟩, rfl, h⟩
  · by_cases g2 : f_X10_within S p1 (-9999) 9999 = 0
    · have e : f_X10_write S p0 p1 = (-1000000002, S) := by unfold f_X10_write; dsimp only; rw [if_neg g1, if_pos g2]
      have e' : f_X11_write S p0 p1 = (-1000000002, S) := by unfold f_X11_write; dsimp only; rw [if_neg (by rw [i1]; exact g1), if_pos ((i2 S).trans g2)]
      rw [e]
      dsimp only
      rw [e']
      exact ⟨⟨fun _ => trivial, fun _ => ⟨fun _ => trivial, fun q => absurd ((i2 S).trans g2) q⟩⟩, rfl, h⟩
    · by_cases hc : c < 15
      · have l : nI c < (15 : Int32) := nI_lt (b := 15) hc (by decide)
        obtain ⟨p, hp0, rfl⟩ := isPerson_ne (by omega) (xhP9 hh) g1
        have a1 : f_X10_put S 24 (nI c) (nI p) = xu S 24 c (nI p) := put_in (N := 15) rfl hc (by decide)
        have a2 : f_X10_put (xu S 24 c (nI p)) 25 (nI c) p1 = xu (xu S 24 c (nI p)) 25 c p1 := put_in (N := 15) rfl hc (by decide)
        have w1 : xu S 24 c (nI p) 23 2 = nI c := by rw [xu_ne (by decide)]; exact c2
        have w2 : xu (xu S 24 c (nI p)) 25 c p1 23 2 = nI c := by rw [xu_ne (by decide)]; exact w1
        have e : f_X10_write S (nI p) p1 = (nI (c + 1), xu (xu (xu S 24 c (nI p)) 25 c p1) 23 2 (nI (c + 1))) := by
          unfold f_X10_write f_X0_add
          dsimp only
          rw [if_neg g1, if_neg g2, c2, if_pos l, a1, w1, a2, w2, nI_1, xu_eq, upd_eq]
        rw [e]
        dsimp only
        generalize hU : xu (xu (xu S 24 c (nI p)) 25 c p1) 23 2 (nI (c + 1)) = U
        have u7 : U 127 = S 127 := by rw [← hU, xu_ne (by decide), xu_ne (by decide), xu_ne (by decide)]
        have b1 : ¬ f_X11_isPerson U (nI p) = 0 := by
          have e1 : f_X11_isPerson U (nI p) = f_X11_isPerson S (nI p) := by unfold f_X11_isPerson; rw [u7]; rfl
          rw [e1, i1]; exact g1
        have b2 : ¬ f_X11_in U p1.toInt64 (-9999) 9999 = 0 := by rw [i2]; exact g2
        have b3 : U 127 15 = nI c := by rw [u7]; exact c3
        have ec : (nI c).toNatClampNeg = c := nI_clamp (by omega)
        have b4 : ¬ nI c = (15 : Int32) := fun q => absurd (nI_inj (b := 15) (by omega) (by decide) q) (by omega)
        have b5 : xu U 136 c (nI p) 127 15 = nI c := by rw [xu_ne (by decide)]; exact b3
        have b6 : xu (xu U 136 c (nI p)) 137 c p1 127 15 = nI c := by rw [xu_ne (by decide)]; exact b5
        have v1 : vp_in (nI c) 15 := vp_in_nI hc (by decide)
        have e' : f_X11_write U (nI p) p1 = (nI (c + 1), xu (xu (xu U 136 c (nI p)) 137 c p1) 127 15 (nI (c + 1))) := by
          unfold f_X11_write
          dsimp only
          rw [if_neg b1, if_neg b2, b3, if_neg b4, ec, b5, ec, b6, nI_1, xu_eq, upd_eq]
        refine ⟨⟨fun _ => trivial, fun _ => ⟨fun _ => trivial, fun _ => ⟨fun _ => trivial, fun _ => ?_⟩⟩⟩, ?_⟩
        · dsimp only
          rw [b3, ec, b5]
          exact ⟨v1, v1, trivial⟩
        · rw [e']
          refine ⟨rfl, ?_⟩
          dsimp only
          generalize hT : xu (xu (xu U 136 c (nI p)) 137 c p1) 127 15 (nI (c + 1)) = T
          have ea : ∀ a, a ≠ 23 → a ≠ 24 → a ≠ 25 → a ≠ 127 → a ≠ 136 → a ≠ 137 → T a = S a := fun a q1 q2 q3 q4 q5 q6 => by
            rw [← hT, xu_ne q4, xu_ne q6, xu_ne q5, ← hU, xu_ne q1, xu_ne q3, xu_ne q2]
          have ej : ∀ j, j ≠ 15 → T 127 j = S 127 j := fun j q => by rw [← hT, xu_eq, upd_ne q, xu_ne (by decide), xu_ne (by decide), u7]
          have t23 : T 23 2 = nI (c + 1) := by rw [← hT, xu_ne (by decide), xu_ne (by decide), xu_ne (by decide), ← hU, xu_eq, upd_eq]
          have t15 : T 127 15 = nI (c + 1) := by rw [← hT, xu_eq, upd_eq]
          have t24 : T 24 = upd (S 24) c (nI p) := by rw [← hT, xu_ne (by decide), xu_ne (by decide), xu_ne (by decide), ← hU, xu_ne (by decide), xu_ne (by decide), xu_eq]
          have t25 : T 25 = upd (S 25) c p1 := by rw [← hT, xu_ne (by decide), xu_ne (by decide), xu_ne (by decide), ← hU, xu_ne (by decide), xu_eq, xu_ne (by decide)]
          have t136 : T 136 = upd (S 136) c (nI p) := by rw [← hT, xu_ne (by decide), xu_ne (by decide), xu_eq, ← hU, xu_ne (by decide), xu_ne (by decide), xu_ne (by decide)]
          have t137 : T 137 = upd (S 137) c p1 := by rw [← hT, xu_ne (by decide), xu_eq, xu_ne (by decide), ← hU, xu_ne (by decide), xu_ne (by decide), xu_ne (by decide)]
          have e131 : T 131 = S 131 := ea _ (by decide) (by decide) (by decide) (by decide) (by decide) (by decide)
          refine ⟨xRt_cg (by rw [ea _ (by decide) (by decide) (by decide) (by decide) (by decide) (by decide)]) (ea _ (by decide) (by decide) (by decide) (by decide) (by decide) (by decide)) (ej _ (by decide)) (ea _ (by decide) (by decide) (by decide) (by decide) (by decide) (by decide)) h1, ?_, ⟨R, P, xRh_cg (fun a _ _ => ea a (by omega) (by omega) (by omega) (by omega) (by omega) (by omega)) (fun j hj => ej j (by omega)) (fun a _ _ => ea a (by omega) (by omega) (by omega) (by omega) (by omega) (by omega)) hh, xRk_cg (fun i hi => ea _ (by omega) (by omega) (by omega) (by omega) (by omega) (by omega)) e131 hk, xRv_cg e131 hv, xRp_cg (ea _ (by decide) (by decide) (by decide) (by decide) (by decide) (by decide)) (fun a _ _ => ea a (by omega) (by omega) (by omega) (by omega) (by omega) (by omega)) (ej _ (by decide)) (ea _ (by decide) (by decide) (by decide) (by decide) (by decide) (by decide)) hp, ⟨c + 1, by omega, t23, t15, fun i hi => ?_⟩, xRi_cg (fun a ha => ea a (by omega) (by omega) (by omega) (by omega) (by omega) (by omega)) (ea _ (by decide) (by decide) (by decide) (by decide) (by decide) (by decide)) (ea _ (by decide) (by decide) (by decide) (by decide) (by decide) (by decide)) hi⟩, xRn_cg (fun a _ _ => ea a (by omega) (by omega) (by omega) (by omega) (by omega) (by omega)) (ej _ (by decide)) (ea _ (by decide) (by decide) (by decide) (by decide) (by decide) (by decide)) (ea _ (by decide) (by decide) (by decide) (by decide) (by decide) (by decide)) (ea _ (by decide) (by decide) (by decide) (by decide) (by decide) (by decide)) h4, xRd_cg (by rw [ea _ (by decide) (by decide) (by decide) (by decide) (by decide) (by decide)]) (ej _ (by decide)) h5⟩
          · rw [ea _ (by decide) (by decide) (by decide) (by decide) (by decide) (by decide), ej _ (by decide)]; exact h2
          · rw [t24, t25, t136, t137]
            by_cases hi2 : i = c
            · subst hi2
              rw [upd_eq, upd_eq, upd_eq, upd_eq]
              exact ⟨rfl, rfl, p, hp0, rfl⟩
            · rw [upd_ne hi2, upd_ne hi2, upd_ne hi2, upd_ne hi2]
              exact c4 i (by omega)
      · have c15 : c = 15 := by omega
        subst c15
        have e : f_X10_write S p0 p1 = (-1000000004, S) := by unfold f_X10_write; dsimp only; rw [if_neg g1, if_neg g2, c2, if_neg (by decide)]
        have e' : f_X11_write S p0 p1 = (-1000000004, S) := by unfold f_X11_write; dsimp only; rw [if_neg (by rw [i1]; exact g1), if_neg (by rw [i2 S]; exact g2), c3, if_pos (by decide)]
        rw [e]
        dsimp only
        rw [e']
        exact ⟨⟨fun _ => trivial, fun _ => ⟨fun _ => trivial, fun _ => ⟨fun _ => trivial, fun q => absurd (by rw [c3]; decide) q⟩⟩⟩, rfl, h⟩
