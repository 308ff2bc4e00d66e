/-! AN HOUR -/
/-- how WARM s is behind an hour in which z speaks of it -/
def nw (V : xS) (m z s : Nat) : Int32 := if z = s then V m (9 + s) else if f_X11_hears V m (nI z) (nI s) = 0 then V m (9 + s) else cl (V m (9 + s) + f_X11_says V m (nI z) (nI s))
def I1 (U V : xS) (m P h i : Nat) (a b : xS) : Prop := (∀ k, k ≠ 34 → a k = U k) ∧ (∀ k, k ≠ m → b k = V k) ∧ (∀ j, j < 72 → tk a 32 j = b m j) ∧ (∀ j, j < 9 ∨ 16 ≤ j → b m j = V m j) ∧ (∀ s, s < 7 → -9999 ≤ (b m (9 + s)).toInt ∧ (b m (9 + s)).toInt ≤ 9999) ∧ ∀ z s, z < P → s < P → (z + h + 1) % P = s → b m (9 + s) = if z < i then nw V m z s else V m (9 + s)
def I2 (U V : xS) (m : Nat) (a b : xS) : Prop := (∀ k, k ≠ 35 → a k = U k) ∧ (∀ k, k ≠ m → b k = V k) ∧ (∀ j, j < 72 → tk a 32 j = b m j) ∧ (∀ j, j < 16 ∨ 23 ≤ j → b m j = V m j) ∧ ∀ s, s < 7 → ∃ r, r ≤ 99 ∧ b m (16 + s) = nI r
section PA
variable {U V : xS} {R P B m h : Nat}
theorem Q2_cg {a b : xS} {C n : Nat} (q : Q2 U V R P B m) (eU : ∀ k, 9 ≤ k → k ≤ 12 → a k = U k) (eV : ∀ k, 127 ≤ k → k ≤ 130 → b k = V k) (ht : ∀ j, j < 72 → tk a 32 j = b n j) (hv : vr R P C (b n)) : Q2 a b R P C n := by
  refine ⟨xRh_cg (S := mg U V) (fun k h1 h2 => ?_) (fun j _ => ?_) (fun k h1 h2 => ?_) q.1, ht, hv⟩
  · rw [mgU (by omega), mgU (by omega), eU k h1 h2]
  · rw [mgV (by omega), mgV (by omega), eV 127 (by omega) (by omega)]
  · rw [mgV (by omega), mgV (by omega), eV k (by omega) (by omega)]
theorem I1_Q2 {a b : xS} {i : Nat} (q : Q2 U V R P B m) (hm : 130 < m) (I : I1 U V m P h i a b) : Q2 a b R P B m := by
  obtain ⟨d1, d2, d3, d4, d5, -⟩ := I
  have hP := xhP q.1
  obtain ⟨⟨k, k1, k2⟩, ⟨w, w1, w2⟩, r, -, x, l⟩ := q.2.2
  refine Q2_cg q (fun k _ _ => d1 k (by omega)) (fun k _ _ => d2 k (by omega)) d3 ⟨⟨k, k1, by rw [d4 0 (by omega)]; exact k2⟩, ⟨w, w1, by rw [d4 1 (by omega)]; exact w2⟩, fun p hp => ?_, d5, fun p hp => ?_, fun j hj => ?_⟩
  · rw [d4 _ (by omega)]; exact r p hp
  · rw [d4 _ (by omega)]; exact x p hp
  · rw [d4 _ (by omega)]; exact l j hj
theorem I2_Q2 {a b : xS} (q : Q2 U V R P B m) (hm : 130 < m) (I : I2 U V m a b) : Q2 a b R P B m := by
  obtain ⟨d1, d2, d3, d4, d5⟩ := I
  have hP := xhP q.1
  obtain ⟨⟨k, k1, k2⟩, ⟨w, w1, w2⟩, r, x, -, l⟩ := q.2.2
  refine Q2_cg q (fun k _ _ => d1 k (by omega)) (fun k _ _ => d2 k (by omega)) d3 ⟨⟨k, k1, by rw [d4 0 (by omega)]; exact k2⟩, ⟨w, w1, by rw [d4 1 (by omega)]; exact w2⟩, fun p hp => ?_, fun p hp => ?_, d5, fun j hj => ?_⟩
  · rw [d4 _ (by omega)]; exact r p hp
  · rw [d4 _ (by omega)]; exact x p hp
  · rw [d4 _ (by omega)]; exact l j hj
theorem d6s {i s : Nat} {f g f0 : Nat → Int32} {w : Nat → Nat → Int32} (hP : P ≤ 7) (hi : i < P) (D : ∀ z s, z < P → s < P → (z + h + 1) % P = s → f (9 + s) = if z < i then w z s else f0 (9 + s)) (hse : (i + h + 1) % P = s) (hg : g (9 + s) = w i s) (hg2 : ∀ s', s' < 7 → s' ≠ s → g (9 + s') = f (9 + s')) : ∀ z s, z < P → s < P → (z + h + 1) % P = s → g (9 + s) = if z < i + 1 then w z s else f0 (9 + s) := by
  intro z s' hz hs' hzs
  by_cases c : z = i
  · subst c
    rw [hse] at hzs
    subst hzs
    rw [if_pos (by omega)]
    exact hg
  · have hn : s' ≠ s := fun e => c (md_inj hP hz hi (by rw [hzs, hse, e]))
    rw [hg2 s' (by omega) hn, D z s' hz hs' hzs]
    by_cases c2 : z < i
    · rw [if_pos c2, if_pos (by omega)]
    · rw [if_neg c2, if_neg (by omega)]
theorem warmer_cl (S : xS) (x y : Int32) : f_X4_warmer S x y = cl (x + y) := bnd_cl S _
theorem q_w (q : Q2 U V R P B m) {s : Nat} (hs : s < 7) : f_X10_at U 34 (nI s) = V m (9 + s) := by
  rw [at_in (N := 7) rfl hs (by decide), ← q.2.1 _ (by omega), tk_w _ _ hs]
theorem q_x (q : Q2 U V R P B m) {s : Nat} (hs : s < 7) : f_X10_at U 35 (nI s) = V m (16 + s) := by
  rw [at_in (N := 7) rfl hs (by decide), ← q.2.1 _ (by omega), tk_x _ _ hs]
theorem pass1 (q : Q2 U V R P B m) (hm : m = 131 ∨ m = 132) (hB : B < 900000) (hh : h ≤ B) (eh : V m 0 = nI h) : s_X4_passHour_L2 (fu 0 (U 9 9)) U 0 ∧ s_X11_passes_L2 (fu 0 (V 127 6)) V m 0 ∧ I1 U V m P h P (f_X4_passHour_L2 (fu 0 (U 9 9)) U 0) (f_X11_passes_L2 (fu 0 (V 127 6)) V m 0) := by
  have hP := xhP q.1
  have hR := xhR q.1
  have hx : xlen m = 72 := by rcases hm with rfl | rfl <;> rfl
  have u9 : U 9 9 = nI P := xhP9 (S := mg U V) q.1
  have v7 : V 127 6 = nI P := xhP7 (S := mg U V) q.1
  have u5 : U 32 5 = nI h := by rw [← eh]; exact q.2.1 0 (by omega)
  have key := xl_b0 (α := xS) (β := xS) (γ := xS × Prop) (δ := xS × Prop)
    (fun n a x => (f_X4_passHour_L2 n a x, s_X4_passHour_L2 n a x))
    (fun n b x => (f_X11_passes_L2 n b m x, s_X11_passes_L2 n b m x))
    (fun z w => z.2 ∧ w.2 ∧ I1 U V m P h P z.1 w.1) P (fun i a b => I1 U V m P h i a b)
    (fun n k a b hI => by
      have a9 : a 9 9 ≤ nI P := by rw [hI.1 9 (by decide), u9]; exact nI_le (Nat.le_refl _) (by omega)
      have b7 : b 127 6 ≤ nI P := by rw [hI.2.1 127 (by omega), v7]; exact nI_le (Nat.le_refl _) (by omega)
      simp only [f_X4_passHour_L2, s_X4_passHour_L2, f_X11_passes_L2, s_X11_passes_L2, a9, b7, ↓reduceIte, eq_self, n10, not_true_eq_false, not_false_eq_true, true_implies, false_implies, true_and, and_true, implies_true, forall_const, Sum.elim_inl, Sum.elim_inr, and_self]
      exact hI)
    (fun n k a b i hi hI => by
      have q' := I1_Q2 q (by omega) hI
      obtain ⟨d1, d2, d3, d4, d5, d6⟩ := id hI
      have a9 : a 9 9 = nI P := by rw [d1 9 (by decide), u9]
      have b7 : b 127 6 = nI P := by rw [d2 127 (by omega), v7]
      have c9 : ¬ a 9 9 ≤ nI i := by rw [a9]; exact nI_ge hi (by omega)
      have c7 : ¬ b 127 6 ≤ nI i := by rw [b7]; exact nI_ge hi (by omega)
      have a5 : a 32 5 = nI h := by rw [d1 32 (by decide), u5]
      have b0 : b m 0 = nI h := by rw [d4 0 (by omega), eh]
      have hs : (i + h + 1) % P < P := Nat.mod_lt _ (by omega)
      have e1 := spk a a9 (by omega) hP (i := i) (k := h) (by omega) (by omega)
      have e2 := spk2 b b7 (by omega) hP (i := i) (k := h) (by omega) (by omega)
      have e3 : s_X11_spokenOf b (nI i) (nI h) := ⟨by rw [b7]; exact nI_ne0 (by omega) (by omega), trivial⟩
      have v0 : vp_in 0 (xlen m) := by rw [hx]; exact vp_in_nI (n := 0) (by omega) (by decide)
      generalize hse : (i + h + 1) % P = s at hs e1 e2
      by_cases c : s = i
      · subst c
        have hw : b m (9 + s) = nw V m s s := by
          rw [d6 s s hi hi hse, if_neg (by omega)]
          unfold nw
          rw [if_pos rfl]
        refine Or.inr ⟨a, b, ⟨d1, d2, d3, d4, d5, d6s hP hi d6 hse hw (fun _ _ _ => rfl)⟩, fun ⟨h1, h2, h3⟩ => ?_⟩
        dsimp only at h1 h2 h3 ⊢
        simp only [f_X4_passHour_L2, s_X4_passHour_L2, f_X11_passes_L2, s_X11_passes_L2, c9, c7, a5, c_0, b0, e1, e2, e3, v0, nI_1, ↓reduceIte, eq_self, n10, not_true_eq_false, not_false_eq_true, true_implies, false_implies, true_and, and_true, implies_true, forall_const, Sum.elim_inl, Sum.elim_inr, and_self]
        exact ⟨h1, h2, h3⟩
      · have cn' : ¬ nI s = nI i := fun e => c (nI_inj (by omega) (by omega) e)
        have r6 := q_at q' hi
        have r7 := q_at q' hs
        have r8 := q_hears q' (by omega) hi hs
        have t1 := q_says q' (by omega) hi hs
        obtain ⟨t2, t3⟩ := q_s q' hx hi hs
        have hc : f_X11_hears b m (nI i) (nI s) = f_X11_hears V m (nI i) (nI s) := hears_cg (by omega) (by omega) (d4 _ (by omega)) (d4 _ (by omega)) (d2 _ (by omega))
        have hc2 : f_X11_says b m (nI i) (nI s) = f_X11_says V m (nI i) (nI s) := says_cg (by omega) (by omega) (d4 _ (by omega)) (d4 _ (by omega)) (d2 _ (by omega)) (d2 _ (by omega)) (d4 _ (by omega)) (d4 _ (by omega))
        have ho : b m (9 + s) = V m (9 + s) := by rw [d6 i s hi hs hse, if_neg (by omega)]
        by_cases hr : f_X11_hears b m (nI i) (nI s) = 0
        · have hw : b m (9 + s) = nw V m i s := by
            rw [ho]
            unfold nw
            rw [if_neg (fun e => c e.symm), if_pos (by rw [← hc]; exact hr)]
          refine Or.inr ⟨a, b, ⟨d1, d2, d3, d4, d5, d6s hP hi d6 hse hw (fun _ _ _ => rfl)⟩, fun ⟨h1, h2, h3⟩ => ?_⟩
          dsimp only at h1 h2 h3 ⊢
          simp only [f_X4_passHour_L2, s_X4_passHour_L2, f_X11_passes_L2, s_X11_passes_L2, c9, c7, a5, c_0, b0, e1, e2, e3, v0, cn', r6, r7, r8, hr, t3, nI_1, ↓reduceIte, eq_self, n10, not_true_eq_false, not_false_eq_true, true_implies, false_implies, true_and, and_true, implies_true, forall_const, Sum.elim_inl, Sum.elim_inr, and_self]
          exact ⟨h1, h2, h3⟩
        · have w1 := q_w q' (s := s) (by omega)
          have v9 : vp_in (9 + nI s) (xlen m) := by rw [ix9, hx]; exact vp_in_nI (by omega) (by decide)
          have pu : ∀ v, f_X10_put a 34 (nI s) v = xu a 34 s v := fun v => put_in (N := 7) rfl (by omega) (by decide)
          have hw : cl (b m (9 + s) + f_X11_says b m (nI i) (nI s)) = nw V m i s := by
            rw [ho, hc2]
            unfold nw
            rw [if_neg (fun e => c e.symm), if_neg (by rw [← hc]; exact hr)]
          generalize hy : f_X11_says b m (nI i) (nI s) = y at t1 hw
          have hI2 : I1 U V m P h (i + 1) (xu a 34 s (cl (b m (9 + s) + y))) (xu b m (9 + s) (cl (b m (9 + s) + y))) := by
            refine ⟨fun k hk => by rw [xu_ne hk]; exact d1 k hk, fun k hk => by rw [xu_ne hk]; exact d2 k hk, fun j hj => ?_, fun j hj => ?_, fun s' hs' => ?_, d6s hP hi d6 hse ?_ (fun s' _ hn => ?_)⟩
            · rw [tk_34 (by omega) _ hj, xu_eq]
              by_cases cj : j = 9 + s
              · rw [if_pos cj, cj, upd_eq]
              · rw [if_neg cj, upd_ne cj]; exact d3 j hj
            · rw [xu_eq, upd_ne (by omega)]; exact d4 j hj
            · rw [xu_eq]
              by_cases cj : s' = s
              · rw [cj, upd_eq]; exact cl_bd _
              · rw [upd_ne (by omega)]; exact d5 s' hs'
            · rw [xu_eq, upd_eq]; exact hw
            · rw [xu_eq, upd_ne (by omega)]
          refine Or.inr ⟨_, _, hI2, fun ⟨h1, h2, h3⟩ => ?_⟩
          dsimp only at h1 h2 h3 ⊢
          have hcl : cl (b m (9 + s) + y) = if b m (9 + s) + y ≤ 9999 then (if -9999 ≤ b m (9 + s) + y then b m (9 + s) + y else -9999) else 9999 := rfl
          by_cases q1 : b m (9 + s) + y ≤ 9999
          · by_cases q2 : -9999 ≤ b m (9 + s) + y
            · rw [if_pos q1, if_pos q2] at hcl
              rw [hcl] at h1 h2 h3
              simp only [f_X4_passHour_L2, s_X4_passHour_L2, f_X11_passes_L2, s_X11_passes_L2, c9, c7, a5, c_0, b0, e1, e2, e3, v0, cn', r6, r7, r8, hr, t3, t2, w1, v9, hy, t1, warmer_cl, pu, hcl, c9n (show s < 1000000 by omega), q1, q2, nI_1, ↓reduceIte, eq_self, n10, not_true_eq_false, not_false_eq_true, true_implies, false_implies, true_and, and_true, implies_true, forall_const, Sum.elim_inl, Sum.elim_inr, and_self]
              exact ⟨h1, h2, h3⟩
            · rw [if_pos q1, if_neg q2] at hcl
              rw [hcl] at h1 h2 h3
              simp only [f_X4_passHour_L2, s_X4_passHour_L2, f_X11_passes_L2, s_X11_passes_L2, c9, c7, a5, c_0, b0, e1, e2, e3, v0, cn', r6, r7, r8, hr, t3, t2, w1, v9, hy, t1, warmer_cl, pu, hcl, c9n (show s < 1000000 by omega), q1, q2, nI_1, ↓reduceIte, eq_self, n10, not_true_eq_false, not_false_eq_true, true_implies, false_implies, true_and, and_true, implies_true, forall_const, Sum.elim_inl, Sum.elim_inr, and_self]
              exact ⟨h1, h2, h3⟩
          · rw [if_neg q1] at hcl
            rw [hcl] at h1 h2 h3
            simp only [f_X4_passHour_L2, s_X4_passHour_L2, f_X11_passes_L2, s_X11_passes_L2, c9, c7, a5, c_0, b0, e1, e2, e3, v0, cn', r6, r7, r8, hr, t3, t2, w1, v9, hy, t1, warmer_cl, pu, hcl, c9n (show s < 1000000 by omega), q1, nI_1, ↓reduceIte, eq_self, n10, not_true_eq_false, not_false_eq_true, true_implies, false_implies, true_and, and_true, implies_true, forall_const, Sum.elim_inl, Sum.elim_inr, and_self]
            exact ⟨h1, h2, h3⟩)
    (n := fu 0 (U 9 9)) (m := fu 0 (V 127 6)) U V (by rw [u9, fu_0 (by omega)]; omega) (by rw [v7, fu_0 (by omega)]; omega) ⟨fun _ _ => rfl, fun _ _ => rfl, q.2.1, fun _ _ => rfl, q.2.2.2.2.2.1, fun z s _ _ _ => by rw [if_neg (by omega)]⟩
  exact key
theorem pass2 (q : Q2 U V R P B m) (hm : m = 131 ∨ m = 132) : s_X4_passHour_L100 (fu 0 (U 9 9)) U 0 ∧ s_X11_passes_L94 (fu 0 (V 127 6)) V m 0 ∧ I2 U V m (f_X4_passHour_L100 (fu 0 (U 9 9)) U 0) (f_X11_passes_L94 (fu 0 (V 127 6)) V m 0) := by
  have hP := xhP q.1
  have hR := xhR q.1
  have hx : xlen m = 72 := by rcases hm with rfl | rfl <;> rfl
  have u9 : U 9 9 = nI P := xhP9 (S := mg U V) q.1
  have v7 : V 127 6 = nI P := xhP7 (S := mg U V) q.1
  have hcold : U 9 6 = V 127 1 := xhC (S := mg U V) q.1
  have key := xl_b0 (α := xS) (β := xS) (γ := xS × Prop) (δ := xS × Prop)
    (fun n a x => (f_X4_passHour_L100 n a x, s_X4_passHour_L100 n a x))
    (fun n b x => (f_X11_passes_L94 n b m x, s_X11_passes_L94 n b m x))
    (fun z w => z.2 ∧ w.2 ∧ I2 U V m z.1 w.1) P (fun i a b => I2 U V m a b)
    (fun n k a b hI => by
      have hI : I2 U V m a b := hI
      have a9 : a 9 9 ≤ nI P := by rw [hI.1 9 (by decide), u9]; exact nI_le (Nat.le_refl _) (by omega)
      have b7 : b 127 6 ≤ nI P := by rw [hI.2.1 127 (by omega), v7]; exact nI_le (Nat.le_refl _) (by omega)
      simp only [f_X4_passHour_L100, s_X4_passHour_L100, f_X11_passes_L94, s_X11_passes_L94, a9, b7, ↓reduceIte, eq_self, n10, not_true_eq_false, not_false_eq_true, true_implies, false_implies, true_and, and_true, implies_true, forall_const, Sum.elim_inl, Sum.elim_inr, and_self]
      exact hI)
    (fun n k a b i hi hI => by
      have hI : I2 U V m a b := hI
      have q' := I2_Q2 q (by omega) hI
      obtain ⟨d1, d2, d3, d4, d5⟩ := id hI
      have c9 : ¬ a 9 9 ≤ nI i := by rw [d1 9 (by decide), u9]; exact nI_ge hi (by omega)
      have c7 : ¬ b 127 6 ≤ nI i := by rw [d2 127 (by omega), v7]; exact nI_ge hi (by omega)
      obtain ⟨g1, g2⟩ := q_rm q' hi
      have r6 := q_at q' hi
      have x1 := q_x q' (s := i) (by omega)
      have v2 : vp_in (2 + nI i) (xlen m) := by rw [ix2, hx]; exact vp_in_nI (by omega) (by decide)
      have v16 : vp_in (16 + nI i) (xlen m) := by rw [ix16, hx]; exact vp_in_nI (by omega) (by decide)
      have ha : f_X10_has a (a 9 6) (nI (rmN b m i)) = f_X11_has b (b 127 1) (nI (rmN b m i)) := by rw [d1 9 (by decide), d2 127 (by omega), hcold]; exact has_nI a b _ (by omega)
      have pu : ∀ v, f_X10_put a 35 (nI i) v = xu a 35 i v := fun v => put_in (N := 7) rfl (by omega) (by decide)
      have hI2 : ∀ y, I2 U V m (xu a 35 i (ck y)) (xu b m (16 + i) (ck y)) := fun y => by
        refine ⟨fun k hk => by rw [xu_ne hk]; exact d1 k hk, fun k hk => by rw [xu_ne hk]; exact d2 k hk, fun j hj => ?_, fun j hj => ?_, fun s' hs' => ?_⟩
        · rw [tk_35 (by omega) _ hj, xu_eq]
          by_cases cj : j = 16 + i
          · rw [if_pos cj, cj, upd_eq]
          · rw [if_neg cj, upd_ne cj]; exact d3 j hj
        · rw [xu_eq, upd_ne (by omega)]; exact d4 j hj
        · rw [xu_eq]
          by_cases cj : s' = i
          · rw [cj, upd_eq]; exact ck_bd _
          · rw [upd_ne (by omega)]; exact d5 s' hs'
      by_cases hr : f_X11_has b (b 127 1) (nI (rmN b m i)) = 0
      · generalize hy : b m (16 + i) + (-1) = y
        refine Or.inr ⟨_, _, hI2 y, fun ⟨h1, h2, h3⟩ => ?_⟩
        dsimp only at h1 h2 h3 ⊢
        have hck : ck y = if y ≤ 99 then (if 0 ≤ y then y else 0) else 99 := rfl
        by_cases q1 : y ≤ 99
        · by_cases q2 : 0 ≤ y
          · rw [if_pos q1, if_pos q2] at hck
            rw [hck] at h1 h2 h3
            simp only [f_X4_passHour_L100, s_X4_passHour_L100, f_X11_passes_L94, s_X11_passes_L94, c9, c7, v2, v16, r6, x1, ha, hr, c2n (show i < 1000000 by omega), c16n (show i < 1000000 by omega), g2, hy, bnd_ck, hck, pu, q1, q2, nI_1, ↓reduceIte, eq_self, n10, not_true_eq_false, not_false_eq_true, true_implies, false_implies, true_and, and_true, implies_true, forall_const, Sum.elim_inl, Sum.elim_inr, and_self]
            exact ⟨h1, h2, h3⟩
          · rw [if_pos q1, if_neg q2] at hck
            rw [hck] at h1 h2 h3
            simp only [f_X4_passHour_L100, s_X4_passHour_L100, f_X11_passes_L94, s_X11_passes_L94, c9, c7, v2, v16, r6, x1, ha, hr, c2n (show i < 1000000 by omega), c16n (show i < 1000000 by omega), g2, hy, bnd_ck, hck, pu, q1, q2, nI_1, ↓reduceIte, eq_self, n10, not_true_eq_false, not_false_eq_true, true_implies, false_implies, true_and, and_true, implies_true, forall_const, Sum.elim_inl, Sum.elim_inr, and_self]
            exact ⟨h1, h2, h3⟩
        · rw [if_neg q1] at hck
          rw [hck] at h1 h2 h3
          simp only [f_X4_passHour_L100, s_X4_passHour_L100, f_X11_passes_L94, s_X11_passes_L94, c9, c7, v2, v16, r6, x1, ha, hr, c2n (show i < 1000000 by omega), c16n (show i < 1000000 by omega), g2, hy, bnd_ck, hck, pu, q1, nI_1, ↓reduceIte, eq_self, n10, not_true_eq_false, not_false_eq_true, true_implies, false_implies, true_and, and_true, implies_true, forall_const, Sum.elim_inl, Sum.elim_inr, and_self]
          exact ⟨h1, h2, h3⟩
      · generalize hy : b m (16 + i) + 1 = y
        refine Or.inr ⟨_, _, hI2 y, fun ⟨h1, h2, h3⟩ => ?_⟩
        dsimp only at h1 h2 h3 ⊢
        have hck : ck y = if y ≤ 99 then (if 0 ≤ y then y else 0) else 99 := rfl
        by_cases q1 : y ≤ 99
        · by_cases q2 : 0 ≤ y
          · rw [if_pos q1, if_pos q2] at hck
            rw [hck] at h1 h2 h3
            simp only [f_X4_passHour_L100, s_X4_passHour_L100, f_X11_passes_L94, s_X11_passes_L94, c9, c7, v2, v16, r6, x1, ha, hr, c2n (show i < 1000000 by omega), c16n (show i < 1000000 by omega), g2, hy, bnd_ck, hck, pu, q1, q2, nI_1, ↓reduceIte, eq_self, n10, not_true_eq_false, not_false_eq_true, true_implies, false_implies, true_and, and_true, implies_true, forall_const, Sum.elim_inl, Sum.elim_inr, and_self]
            exact ⟨h1, h2, h3⟩
          · rw [if_pos q1, if_neg q2] at hck
            rw [hck] at h1 h2 h3
            simp only [f_X4_passHour_L100, s_X4_passHour_L100, f_X11_passes_L94, s_X11_passes_L94, c9, c7, v2, v16, r6, x1, ha, hr, c2n (show i < 1000000 by omega), c16n (show i < 1000000 by omega), g2, hy, bnd_ck, hck, pu, q1, q2, nI_1, ↓reduceIte, eq_self, n10, not_true_eq_false, not_false_eq_true, true_implies, false_implies, true_and, and_true, implies_true, forall_const, Sum.elim_inl, Sum.elim_inr, and_self]
            exact ⟨h1, h2, h3⟩
        · rw [if_neg q1] at hck
          rw [hck] at h1 h2 h3
          simp only [f_X4_passHour_L100, s_X4_passHour_L100, f_X11_passes_L94, s_X11_passes_L94, c9, c7, v2, v16, r6, x1, ha, hr, c2n (show i < 1000000 by omega), c16n (show i < 1000000 by omega), g2, hy, bnd_ck, hck, pu, q1, nI_1, ↓reduceIte, eq_self, n10, not_true_eq_false, not_false_eq_true, true_implies, false_implies, true_and, and_true, implies_true, forall_const, Sum.elim_inl, Sum.elim_inr, and_self]
          exact ⟨h1, h2, h3⟩)
    (n := fu 0 (U 9 9)) (m := fu 0 (V 127 6)) U V (by rw [u9, fu_0 (by omega)]; omega) (by rw [v7, fu_0 (by omega)]; omega) ⟨fun _ _ => rfl, fun _ _ => rfl, q.2.1, fun _ _ => rfl, q.2.2.2.2.2.2.1⟩
  exact key
/-- what an hour leaves -/
def hrR (U V : xS) (R P B m h : Nat) (a b : xS) : Prop := Q2 a b R P (B + 1) m ∧ (∀ k, k ≠ 32 → k ≠ 34 → k ≠ 35 → a k = U k) ∧ (∀ k, k ≠ m → b k = V k) ∧ b m 0 = nI (h + 1) ∧ b m 1 = 0 ∧ (∀ j, (2 ≤ j ∧ j < 9) ∨ 23 ≤ j → b m j = V m j) ∧ ∀ z s, z < P → s < P → (z + h + 1) % P = s → b m (9 + s) = nw V m z s
theorem pass_ok (q : Q2 U V R P B m) (hm : m = 131 ∨ m = 132) (hB : B < 900000) (hh : h ≤ B) (eh : V m 0 = nI h) : s_X4_passHour U ∧ s_X11_passes V m ∧ hrR U V R P B m h (f_X4_passHour U) (f_X11_passes V m) := by
  have hP := xhP q.1
  have hx : xlen m = 72 := by rcases hm with rfl | rfl <;> rfl
  have v0 : vp_in 0 (xlen m) := by rw [hx]; exact vp_in_nI (n := 0) (by omega) (by decide)
  have v1 : vp_in 1 (xlen m) := by rw [hx]; exact vp_in_nI (n := 1) (by omega) (by decide)
  obtain ⟨p1, p2, p3⟩ := pass1 q hm hB hh eh
  unfold s_X4_passHour s_X11_passes f_X4_passHour f_X11_passes
  dsimp only
  generalize f_X4_passHour_L2 (fu 0 (U 9 9)) U 0 = a at p3 ⊢
  generalize f_X11_passes_L2 (fu 0 (V 127 6)) V m 0 = b at p3 ⊢
  have q' := I1_Q2 q (by omega) p3
  obtain ⟨o1, o2, o3⟩ := pass2 q' hm
  generalize f_X4_passHour_L100 (fu 0 (a 9 9)) a 0 = a' at o3 ⊢
  generalize f_X11_passes_L94 (fu 0 (b 127 6)) b m 0 = b' at o3 ⊢
  refine ⟨⟨p1, o1, trivial⟩, ⟨p2, o2, v1, v0, trivial⟩, ?_⟩
  have q'' := I2_Q2 q' (by omega) o3
  obtain ⟨d1, d2, d3, d4, d5, d6⟩ := p3
  obtain ⟨f1, f2, f3, f4, f5⟩ := o3
  rw [c_0, c_1]
  have b0 : b' m 0 = nI h := by rw [f4 0 (by omega), d4 0 (by omega), eh]
  have a5 : a' 32 5 = nI h := by rw [← b0]; exact f3 0 (by omega)
  have s5 : xu a' 32 4 0 32 5 = nI h := by rw [xu_eq, upd_ne (by omega)]; exact a5
  have t0 : xu b' m 1 0 m 0 = nI h := by rw [xu_eq, upd_ne (by omega)]; exact b0
  rw [s5, t0, nI_1]
  generalize hA : xu (xu a' 32 4 0) 32 5 (nI (h + 1)) = A
  generalize hE : xu (xu b' m 1 0) m 0 (nI (h + 1)) = E
  have eA : ∀ k, k ≠ 32 → A k = a' k := fun k hk => by rw [← hA, xu_ne hk, xu_ne hk]
  have eE : ∀ k, k ≠ m → E k = b' k := fun k hk => by rw [← hE, xu_ne hk, xu_ne hk]
  have A5 : A 32 5 = nI (h + 1) := by rw [← hA, xu_eq, upd_eq]
  have A4 : A 32 4 = 0 := by rw [← hA, xu_eq, upd_ne (by decide), xu_eq, upd_eq]
  have E0 : E m 0 = nI (h + 1) := by rw [← hE, xu_eq, upd_eq]
  have E1 : E m 1 = 0 := by rw [← hE, xu_eq, upd_ne (by omega), xu_eq, upd_eq]
  have Ej : ∀ j, 2 ≤ j → E m j = b' m j := fun j hj => by rw [← hE, xu_eq, upd_ne (by omega), xu_eq, upd_ne (by omega)]
  refine ⟨Q2_cg q'' (fun k _ _ => eA k (by omega)) (fun k _ _ => eE k (by omega)) ?_ ?_, fun k h1 h2 h3 => by rw [eA k h1, f1 k h3, d1 k h2], fun k hk => by rw [eE k hk, f2 k hk, d2 k hk], E0, E1, fun j hj => ?_, fun z s hz hs hzs => ?_⟩
  · refine j72 (p := fun j => tk A 32 j = E m j) ?_ ?_ ?_ ?_ ?_ ?_
    · rw [tk_0, A5, E0]
    · rw [tk_1, A4, E1]
    · intro i hi; rw [tk_r _ _ hi, eA _ (by decide), Ej _ (by omega), ← f3 _ (by omega), tk_r _ _ hi]
    · intro i hi; rw [tk_w _ _ hi, eA _ (by decide), Ej _ (by omega), ← f3 _ (by omega), tk_w _ _ hi]
    · intro i hi; rw [tk_x _ _ hi, eA _ (by decide), Ej _ (by omega), ← f3 _ (by omega), tk_x _ _ hi]
    · intro i hi; rw [tk_l, eA _ (by decide), Ej _ (by omega), ← f3 _ (by omega), tk_l]
  · obtain ⟨-, -, r, w, x, l⟩ := q''.2.2
    refine ⟨⟨h + 1, by omega, E0⟩, ⟨0, Nat.pow_pos (by decide), E1⟩, fun p hp => ?_, fun p hp => ?_, fun p hp => ?_, fun j hj => ?_⟩
    · rw [Ej _ (by omega)]; exact r p hp
    · rw [Ej _ (by omega)]; exact w p hp
    · rw [Ej _ (by omega)]; exact x p hp
    · rw [Ej _ (by omega)]; exact l j hj
  · rw [Ej j (by omega), f4 j (by omega), d4 j (by omega)]
  · rw [Ej _ (by omega), f4 _ (by omega), d6 z s hz hs hzs, if_pos hz]
end PA
