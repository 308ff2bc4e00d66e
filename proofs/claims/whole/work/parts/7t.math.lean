/-! ROUTE: hours by hours -/
theorem i_6 : (6 : Int32) = nI 6 := rfl
def rowT (U T : xS) (p : Nat) : Prop := ∀ j, j < 72 → j ≠ 1 → j ≠ 2 + p → T 132 j = U 131 j
theorem r108_ok {U V : xS} {R P p f h e : Nat} (hh : xRh U R P) (hk : xRk U 32 131 0) (hv : xRv U R P 131 0) (hp : p < P) (hf : f < R) (eh : U 32 5 = nI h) (hh2 : h ≤ 9100) (he : e ≤ 7) (eV : ∀ a, a ≠ 132 → a ≠ 145 → V a = U a) (er : rowT U V p) {W : Nat → Int32} (hW : ∀ r, r < R → W r = f_X9_heardIn U (nI p) (nI r) (nI e) + V 145 (6 * (e + 1) + r)) (hb : ∀ r, r < R → -1000000 < (W r).toInt) (x3 x4 x5 : Int32) : s_X11_route_L108 (fu 0 (V 127 0)) V (nI p) x3 x4 x5 (nI e) (nI f) (-1000000) 0 0 ∧ ∃ k T, f_X11_route_L108 (fu 0 (V 127 0)) V (nI p) x3 x4 x5 (nI e) (nI f) (-1000000) 0 0 = (W k, nI k, T) ∧ isMo (opn U f) W R k ∧ (∀ a, a ≠ 132 → T a = V a) ∧ rowT U T p := by
  have hP := xhP hh
  have hR := xhR hh
  have v70 : V 127 0 = nI R := by rw [eV 127 (by decide) (by decide)]; exact xhR7 hh
  have key := xl_a0 (α := Int32 × Int32 × xS) (γ := (Int32 × Int32 × xS) × Prop) (fun n a x => (f_X11_route_L108 n a.2.2 (nI p) x3 x4 x5 (nI e) (nI f) a.1 a.2.1 x, s_X11_route_L108 n a.2.2 (nI p) x3 x4 x5 (nI e) (nI f) a.1 a.2.1 x)) (fun y => y.2 ∧ ∃ k T, y.1 = (W k, nI k, T) ∧ isMo (opn U f) W R k ∧ (∀ a, a ≠ 132 → T a = V a) ∧ rowT U T p) R
    (fun i a => (∀ b, b ≠ 132 → a.2.2 b = V b) ∧ rowT U a.2.2 p ∧ ((a.1 = -1000000 ∧ a.2.1 = 0 ∧ ∀ r, r < i → ¬ opn U f r) ∨ ∃ k, a.2.1 = nI k ∧ a.1 = W k ∧ isMo (opn U f) W i k))
    (fun n a hI => by
      obtain ⟨its, wh, T⟩ := a
      obtain ⟨h1, h2, h3⟩ := hI
      dsimp only at h1 h2 h3
      have l : T 127 0 ≤ nI R := by rw [h1 127 (by decide), v70]; exact nI_le (Nat.le_refl _) (by omega)
      simp only [f_X11_route_L108, s_X11_route_L108, l, ↓reduceIte, eq_self, n10, not_true_eq_false, not_false_eq_true, true_implies, false_implies, true_and, and_true, implies_true, forall_const, Sum.elim_inl, Sum.elim_inr, and_self]
      rcases h3 with ⟨-, -, h⟩ | ⟨k, rfl, rfl, h⟩
      · exact absurd (Or.inl rfl) (h f hf)
      · exact ⟨k, T, rfl, h, h1, h2⟩)
    (fun n a i hi hI => by
      obtain ⟨its, wh, T⟩ := a
      obtain ⟨h1, h2, h3⟩ := hI
      dsimp only at h1 h2 h3
      have l : ¬ T 127 0 ≤ nI i := by rw [h1 127 (by decide), v70]; exact nI_ge hi (by omega)
      have eTU : ∀ a, a ≠ 132 → a ≠ 145 → T a = U a := fun a q1 q2 => by rw [h1 a q1]; exact eV a q1 q2
      have t131 : T 131 0 = nI h := by rw [eTU 131 (by decide) (by decide), ← kH hk]; exact eh
      have vf : vp_in (nI f) 6 := vp_in_nI (by omega) (by decide)
      have vi : vp_in (nI (6 * (e + 1) + i)) 54 := vp_in_nI (by omega) (by decide)
      have ix : 6 * nI (e + 1) + nI i = nI (6 * (e + 1) + i) := by rw [i_6, nI_mul, nI_add]
      have cl6 : (nI (6 * (e + 1) + i)).toNatClampNeg = 6 * (e + 1) + i := nI_clamp (by omega)
      have cf6 : (nI f).toNatClampNeg = f := nI_clamp (by omega)
      have eha : f_X11_has T (T 129 f) (nI i) = f_X11_has U (U 129 f) (nI i) := by rw [eTU 129 (by decide) (by decide)]; rfl
      by_cases o : opn U f i
      · -- an open room
        have st : ∃ T', (∀ b, b ≠ 132 → T' b = V b) ∧ rowT U T' p ∧ ∀ a b, (W i ≤ a → f_X11_route_L108 (n + 1) T (nI p) x3 x4 x5 (nI e) (nI f) a b (nI i) = f_X11_route_L108 n T' (nI p) x3 x4 x5 (nI e) (nI f) a b (nI (i + 1)) ∧ (s_X11_route_L108 n T' (nI p) x3 x4 x5 (nI e) (nI f) a b (nI (i + 1)) → s_X11_route_L108 (n + 1) T (nI p) x3 x4 x5 (nI e) (nI f) a b (nI i))) ∧ (¬ W i ≤ a → f_X11_route_L108 (n + 1) T (nI p) x3 x4 x5 (nI e) (nI f) a b (nI i) = f_X11_route_L108 n T' (nI p) x3 x4 x5 (nI e) (nI f) (W i) (nI i) (nI (i + 1)) ∧ (s_X11_route_L108 n T' (nI p) x3 x4 x5 (nI e) (nI f) (W i) (nI i) (nI (i + 1)) → s_X11_route_L108 (n + 1) T (nI p) x3 x4 x5 (nI e) (nI f) a b (nI i))) := by
          by_cases c0 : e = 0
          · have z0 : (nI e = 0) = True := eq_true (by rw [c0]; rfl)
            obtain ⟨w1, w2, w3, w4⟩ := wrm_ok (c := 1) (e := e) hh hk hv hp hi eh hh2 (by omega) eTU h2 (by rw [if_pos c0])
            generalize hq : f_X11_warmer T (nI p) (nI i) (nI (h + e)) 1 = Q at w2 w3 w4
            obtain ⟨H, T'⟩ := Q
            dsimp only at w2 w3 w4
            have eW : H + T' 145 (6 * (e + 1) + i) = W i := by rw [hW i hi, w2, w3 145 (by decide), h1 145 (by decide)]
            refine ⟨T', fun b q => by rw [w3 b q]; exact h1 b q, w4, fun a b => ⟨fun c => ?_, fun c => ?_⟩⟩
            · rcases o with o | o
              · subst o
                simp only [f_X11_route_L108, s_X11_route_L108, l, z0, t131, c_0, nI_add, hq, nI_1, ix, cl6, eW, c, w1, vi, ↓reduceIte, eq_self, n10, not_true_eq_false, not_false_eq_true, true_implies, false_implies, true_and, and_true, implies_true, forall_const, Sum.elim_inl, Sum.elim_inr, and_self]
                exact id
              · by_cases c1 : nI i = nI f
                · simp only [f_X11_route_L108, s_X11_route_L108, l, eq_true c1, z0, t131, c_0, nI_add, hq, nI_1, ix, cl6, eW, c, w1, vi, ↓reduceIte, eq_self, n10, not_true_eq_false, not_false_eq_true, true_implies, false_implies, true_and, and_true, implies_true, forall_const, Sum.elim_inl, Sum.elim_inr, and_self]
                  exact id
                · simp only [f_X11_route_L108, s_X11_route_L108, l, c1, cf6, eha, o, vf, z0, t131, c_0, nI_add, hq, nI_1, ix, cl6, eW, c, w1, vi, ↓reduceIte, eq_self, n10, not_true_eq_false, not_false_eq_true, true_implies, false_implies, true_and, and_true, implies_true, forall_const, Sum.elim_inl, Sum.elim_inr, and_self]
                  exact id
            · rcases o with o | o
              · subst o
                simp only [f_X11_route_L108, s_X11_route_L108, l, z0, t131, c_0, nI_add, hq, nI_1, ix, cl6, eW, c, w1, vi, ↓reduceIte, eq_self, n10, not_true_eq_false, not_false_eq_true, true_implies, false_implies, true_and, and_true, implies_true, forall_const, Sum.elim_inl, Sum.elim_inr, and_self]
                exact id
              · by_cases c1 : nI i = nI f
                · simp only [f_X11_route_L108, s_X11_route_L108, l, eq_true c1, z0, t131, c_0, nI_add, hq, nI_1, ix, cl6, eW, c, w1, vi, ↓reduceIte, eq_self, n10, not_true_eq_false, not_false_eq_true, true_implies, false_implies, true_and, and_true, implies_true, forall_const, Sum.elim_inl, Sum.elim_inr, and_self]
                  exact id
                · simp only [f_X11_route_L108, s_X11_route_L108, l, c1, cf6, eha, o, vf, z0, t131, c_0, nI_add, hq, nI_1, ix, cl6, eW, c, w1, vi, ↓reduceIte, eq_self, n10, not_true_eq_false, not_false_eq_true, true_implies, false_implies, true_and, and_true, implies_true, forall_const, Sum.elim_inl, Sum.elim_inr, and_self]
                  exact id
          · have z0 : ¬ nI e = 0 := nI_ne0 (by omega) (by omega)
            obtain ⟨w1, w2, w3, w4⟩ := wrm_ok (c := 0) (e := e) hh hk hv hp hi eh hh2 (by omega) eTU h2 (by rw [if_neg c0])
            generalize hq : f_X11_warmer T (nI p) (nI i) (nI (h + e)) 0 = Q at w2 w3 w4
            obtain ⟨H, T'⟩ := Q
            dsimp only at w2 w3 w4
            have eW : H + T' 145 (6 * (e + 1) + i) = W i := by rw [hW i hi, w2, w3 145 (by decide), h1 145 (by decide)]
            refine ⟨T', fun b q => by rw [w3 b q]; exact h1 b q, w4, fun a b => ⟨fun c => ?_, fun c => ?_⟩⟩
            · rcases o with o | o
              · subst o
                simp only [f_X11_route_L108, s_X11_route_L108, l, z0, t131, c_0, nI_add, hq, nI_1, ix, cl6, eW, c, w1, vi, ↓reduceIte, eq_self, n10, not_true_eq_false, not_false_eq_true, true_implies, false_implies, true_and, and_true, implies_true, forall_const, Sum.elim_inl, Sum.elim_inr, and_self]
                exact id
              · by_cases c1 : nI i = nI f
                · simp only [f_X11_route_L108, s_X11_route_L108, l, eq_true c1, z0, t131, c_0, nI_add, hq, nI_1, ix, cl6, eW, c, w1, vi, ↓reduceIte, eq_self, n10, not_true_eq_false, not_false_eq_true, true_implies, false_implies, true_and, and_true, implies_true, forall_const, Sum.elim_inl, Sum.elim_inr, and_self]
                  exact id
                · simp only [f_X11_route_L108, s_X11_route_L108, l, c1, cf6, eha, o, vf, z0, t131, c_0, nI_add, hq, nI_1, ix, cl6, eW, c, w1, vi, ↓reduceIte, eq_self, n10, not_true_eq_false, not_false_eq_true, true_implies, false_implies, true_and, and_true, implies_true, forall_const, Sum.elim_inl, Sum.elim_inr, and_self]
                  exact id
            · rcases o with o | o
              · subst o
                simp only [f_X11_route_L108, s_X11_route_L108, l, z0, t131, c_0, nI_add, hq, nI_1, ix, cl6, eW, c, w1, vi, ↓reduceIte, eq_self, n10, not_true_eq_false, not_false_eq_true, true_implies, false_implies, true_and, and_true, implies_true, forall_const, Sum.elim_inl, Sum.elim_inr, and_self]
                exact id
              · by_cases c1 : nI i = nI f
                · simp only [f_X11_route_L108, s_X11_route_L108, l, eq_true c1, z0, t131, c_0, nI_add, hq, nI_1, ix, cl6, eW, c, w1, vi, ↓reduceIte, eq_self, n10, not_true_eq_false, not_false_eq_true, true_implies, false_implies, true_and, and_true, implies_true, forall_const, Sum.elim_inl, Sum.elim_inr, and_self]
                  exact id
                · simp only [f_X11_route_L108, s_X11_route_L108, l, c1, cf6, eha, o, vf, z0, t131, c_0, nI_add, hq, nI_1, ix, cl6, eW, c, w1, vi, ↓reduceIte, eq_self, n10, not_true_eq_false, not_false_eq_true, true_implies, false_implies, true_and, and_true, implies_true, forall_const, Sum.elim_inl, Sum.elim_inr, and_self]
                  exact id
        obtain ⟨T', y1, y2, y3⟩ := st
        obtain ⟨y4, y5⟩ := y3 its wh
        rcases h3 with ⟨rfl, rfl, g⟩ | ⟨k, rfl, rfl, g⟩
        · have nb : ¬ W i ≤ -1000000 := by
            have z := hb i hi
            have e6 : (-1000000 : Int32).toInt = -1000000 := by decide
            rw [i_le, e6]
            omega
          obtain ⟨q1, q2⟩ := y5 nb
          refine Or.inr ⟨(W i, nI i, T'), ⟨y1, y2, Or.inr ⟨i, rfl, rfl, isMo_f g o⟩⟩, fun ⟨g1, g2⟩ => ?_⟩
          dsimp only at g1 g2 ⊢
          rw [q1]
          exact ⟨q2 g1, g2⟩
        · by_cases c : W i ≤ W k
          · obtain ⟨q1, q2⟩ := y4 c
            refine Or.inr ⟨(W k, nI k, T'), ⟨y1, y2, Or.inr ⟨k, rfl, rfl, isMo_s g c⟩⟩, fun ⟨g1, g2⟩ => ?_⟩
            dsimp only at g1 g2 ⊢
            rw [q1]
            exact ⟨q2 g1, g2⟩
          · obtain ⟨q1, q2⟩ := y5 c
            refine Or.inr ⟨(W i, nI i, T'), ⟨y1, y2, Or.inr ⟨i, rfl, rfl, isMo_n g c o⟩⟩, fun ⟨g1, g2⟩ => ?_⟩
            dsimp only at g1 g2 ⊢
            rw [q1]
            exact ⟨q2 g1, g2⟩
      · -- a closed one
        have c1 : ¬ nI i = nI f := fun q => o (Or.inl (nI_inj (by omega) (by omega) q))
        have c2 : f_X11_has U (U 129 f) (nI i) = 0 := Classical.byContradiction (fun q => o (Or.inr q))
        rw [c2] at eha
        refine Or.inr ⟨(its, wh, T), ⟨h1, h2, ?_⟩, fun ⟨g1, g2⟩ => ?_⟩
        · rcases h3 with ⟨q1, q2, q3⟩ | ⟨k, q1, q2, q3⟩
          · refine Or.inl ⟨q1, q2, fun r hr => ?_⟩
            rcases Nat.lt_or_ge r i with q | q
            · exact q3 r q
            · rw [show r = i by omega]; exact o
          · exact Or.inr ⟨k, q1, q2, isMo_k q3 o⟩
        · dsimp only at g1 g2 ⊢
          simp only [f_X11_route_L108, s_X11_route_L108, l, c1, cf6, eha, vf, nI_1, g1, ↓reduceIte, eq_self, n10, not_true_eq_false, not_false_eq_true, true_implies, false_implies, true_and, and_true, implies_true, forall_const, Sum.elim_inl, Sum.elim_inr, and_self]
          exact g2)
    (n := fu 0 (V 127 0)) (-1000000, 0, V) (by rw [v70, fu_0 (by omega)]; omega) ⟨fun _ _ => rfl, er, Or.inl ⟨rfl, rfl, fun r hr => absurd hr (by omega)⟩⟩
  exact key
/-- all rooms of an hour -/
theorem r89_ok {U V : xS} {R P p h e : Nat} (hh : xRh U R P) (hk : xRk U 32 131 0) (hv : xRv U R P 131 0) (hp : p < P) (eh : U 32 5 = nI h) (hh2 : h ≤ 9100) (he : e ≤ 7) (eV : ∀ a, a ≠ 132 → a ≠ 145 → V a = U a) (er : rowT U V p) {W : Nat → Int32} (hW : ∀ r, r < R → W r = f_X9_heardIn U (nI p) (nI r) (nI e) + V 145 (6 * (e + 1) + r)) (hb : ∀ r, r < R → -1000000 < (W r).toInt) (x3 x4 x5 : Int32) : s_X11_route_L89 (fu 0 (V 127 0)) V (nI p) x3 x4 x5 (nI e) 0 ∧ ∃ b v T, f_X11_route_L89 (fu 0 (V 127 0)) V (nI p) x3 x4 x5 (nI e) 0 = (b, v, T) ∧ (∀ a, a ≠ 132 → a ≠ 145 → T a = U a) ∧ rowT U T p ∧ (∀ f, f < R → ∃ k, isMo (opn U f) W R k ∧ T 145 (6 * e + f) = W k) ∧ (e = 0 → ∃ k, isMo (opn U (rmN U 131 p)) W R k ∧ b = nI k ∧ v = W k) := by
  have hP := xhP hh
  have hR := xhR hh
  have v70 : V 127 0 = nI R := by rw [eV 127 (by decide) (by decide)]; exact xhR7 hh
  obtain ⟨m1, m2⟩ := rm_of hR hv hp
  have v2 : vp_in (2 + nI p) 72 := by rw [ix2]; exact vp_in_nI (by omega) (by decide)
  have key := xl_a0 (α := Int32 × Int32 × xS) (γ := (Int32 × Int32 × xS) × Prop) (fun n a x => (f_X11_route_L89 n a.2.2 (nI p) x3 a.1 a.2.1 (nI e) x, s_X11_route_L89 n a.2.2 (nI p) x3 a.1 a.2.1 (nI e) x)) (fun y => y.2 ∧ ∃ b v T, y.1 = (b, v, T) ∧ (∀ a, a ≠ 132 → a ≠ 145 → T a = U a) ∧ rowT U T p ∧ (∀ f, f < R → ∃ k, isMo (opn U f) W R k ∧ T 145 (6 * e + f) = W k) ∧ (e = 0 → ∃ k, isMo (opn U (rmN U 131 p)) W R k ∧ b = nI k ∧ v = W k)) R
    (fun i a => (∀ b, b ≠ 132 → b ≠ 145 → a.2.2 b = U b) ∧ rowT U a.2.2 p ∧ (∀ r, r < R → a.2.2 145 (6 * (e + 1) + r) = V 145 (6 * (e + 1) + r)) ∧ (∀ f, f < i → ∃ k, isMo (opn U f) W R k ∧ a.2.2 145 (6 * e + f) = W k) ∧ (e = 0 → rmN U 131 p < i → ∃ k, isMo (opn U (rmN U 131 p)) W R k ∧ a.1 = nI k ∧ a.2.1 = W k))
    (fun n a hI => by
      obtain ⟨b, v, T⟩ := a
      obtain ⟨h1, h2, h3, h4, h5⟩ := hI
      dsimp only at h1 h2 h3 h4 h5
      have l : T 127 0 ≤ nI R := by rw [h1 127 (by decide) (by decide), xhR7 hh]; exact nI_le (Nat.le_refl _) (by omega)
      simp only [f_X11_route_L89, s_X11_route_L89, l, ↓reduceIte, eq_self, n10, not_true_eq_false, not_false_eq_true, true_implies, false_implies, true_and, and_true, implies_true, forall_const, Sum.elim_inl, Sum.elim_inr, and_self]
      exact ⟨b, v, T, rfl, h1, h2, h4, fun q => h5 q m1⟩)
    (fun n a i hi hI => by
      obtain ⟨b, v, T⟩ := a
      obtain ⟨h1, h2, h3, h4, h5⟩ := hI
      dsimp only at h1 h2 h3 h4 h5
      have l : ¬ T 127 0 ≤ nI i := by rw [h1 127 (by decide) (by decide), xhR7 hh]; exact nI_ge hi (by omega)
      obtain ⟨s1, k, T', s2, s3, s4, s5⟩ := r108_ok hh hk hv hp hi eh hh2 he h1 h2 (fun r hr => by rw [h3 r hr]; exact hW r hr) hb x3 b v
      have vi : vp_in (nI (6 * e + i)) 54 := vp_in_nI (by omega) (by decide)
      have ix : 6 * nI e + nI i = nI (6 * e + i) := by rw [i_6, nI_mul, nI_add]
      have cl6 : (nI (6 * e + i)).toNatClampNeg = 6 * e + i := nI_clamp (by omega)
      have c2 : (2 + nI p).toNatClampNeg = 2 + p := c2n (by omega)
      generalize hK : xu T' 145 (6 * e + i) (W k) = K
      have eK : ∀ b, b ≠ 132 → b ≠ 145 → K b = U b := fun b q1 q2 => by rw [← hK, xu_ne q2, s4 b q1]; exact h1 b q1 q2
      have rK : rowT U K p := fun j a b c => by rw [← hK, xu_ne (by decide)]; exact s5 j a b c
      have gK : ∀ j, j ≠ 6 * e + i → K 145 j = T 145 j := fun j q => by rw [← hK, xu_eq, upd_ne q, s4 145 (by decide)]
      have gi : K 145 (6 * e + i) = W k := by rw [← hK, xu_eq, upd_eq]
      have k131 : K 131 (2 + p) = nI (rmN U 131 p) := by rw [eK 131 (by decide) (by decide)]; exact m2
      have n3 : ∀ r, r < R → K 145 (6 * (e + 1) + r) = V 145 (6 * (e + 1) + r) := fun r hr => by rw [gK _ (by omega)]; exact h3 r hr
      have n4 : ∀ f, f < i + 1 → ∃ k, isMo (opn U f) W R k ∧ K 145 (6 * e + f) = W k := fun f hf => by
        by_cases c : f = i
        · rw [c]; exact ⟨k, s3, gi⟩
        · obtain ⟨k', q1, q2⟩ := h4 f (by omega)
          exact ⟨k', q1, by rw [gK _ (by omega)]; exact q2⟩
      by_cases c0 : e = 0
      · have z0 : (nI e = 0) = True := eq_true (by rw [c0]; rfl)
        by_cases c1 : i = rmN U 131 p
        · have d1 : (nI i = nI (rmN U 131 p)) = True := eq_true (by rw [c1])
          refine Or.inr ⟨(nI k, W k, K), ⟨eK, rK, n3, n4, fun _ _ => ⟨k, by rw [← c1]; exact s3, rfl, rfl⟩⟩, fun ⟨g1, g2⟩ => ?_⟩
          dsimp only at g1 g2 ⊢
          simp only [f_X11_route_L89, s_X11_route_L89, l, s1, s2, ix, cl6, hK, vi, z0, c2, v2, k131, d1, nI_1, g1, ↓reduceIte, eq_self, n10, not_true_eq_false, not_false_eq_true, true_implies, false_implies, true_and, and_true, implies_true, forall_const, Sum.elim_inl, Sum.elim_inr, and_self]
          exact g2
        · have d1 : ¬ nI i = nI (rmN U 131 p) := fun q => c1 (nI_inj (by omega) (by omega) q)
          refine Or.inr ⟨(b, v, K), ⟨eK, rK, n3, n4, fun q1 q2 => h5 q1 (by omega)⟩, fun ⟨g1, g2⟩ => ?_⟩
          dsimp only at g1 g2 ⊢
          simp only [f_X11_route_L89, s_X11_route_L89, l, s1, s2, ix, cl6, hK, vi, z0, c2, v2, k131, d1, nI_1, g1, ↓reduceIte, eq_self, n10, not_true_eq_false, not_false_eq_true, true_implies, false_implies, true_and, and_true, implies_true, forall_const, Sum.elim_inl, Sum.elim_inr, and_self]
          exact g2
      · have z0 : ¬ nI e = 0 := nI_ne0 (by omega) (by omega)
        refine Or.inr ⟨(b, v, K), ⟨eK, rK, n3, n4, fun q => absurd q c0⟩, fun ⟨g1, g2⟩ => ?_⟩
        dsimp only at g1 g2 ⊢
        simp only [f_X11_route_L89, s_X11_route_L89, l, s1, s2, ix, cl6, hK, vi, z0, nI_1, g1, ↓reduceIte, eq_self, n10, not_true_eq_false, not_false_eq_true, true_implies, false_implies, true_and, and_true, implies_true, forall_const, Sum.elim_inl, Sum.elim_inr, and_self]
        exact g2)
    (n := fu 0 (V 127 0)) (x4, x5, V) (by rw [v70, fu_0 (by omega)]; omega) ⟨eV, er, fun _ _ => rfl, fun f hf => absurd hf (by omega), fun _ q => absurd q (by omega)⟩
  exact key
theorem dm_1 (e : Nat) : nI e + -1 = nI e - 1 := by
  rw [Int32.sub_eq_add_neg]
theorem dm_2 (e : Nat) : nI (e + 1) - 1 = nI e := by
  have e1 : (1 : Int32) = nI 1 := rfl
  rw [e1, pk_sub (by omega)]
  rfl
def rtE (U T : xS) (R p : Nat) (b v : Int32) : Prop := ∃ k, isMo (opn U (rmN U 131 p)) (T 17) R k ∧ b = nI k ∧ v = T 17 k
theorem rt_loop {U : xS} {R P p h : Nat} (hh : xRh U R P) (hk : xRk U 32 131 0) (hv : xRv U R P 131 0) (hp : p < P) (eh : U 32 5 = nI h) (hh2 : h ≤ 9100) (x3 : Int32) : ∀ (m : Nat), m ≤ 8 → ∀ (T V : xS) (x4 x5 : Int32) (l1 l2 : Nat), m + 1 ≤ l1 → m + 1 ≤ l2 → (∀ a, a ≠ 17 → a ≠ 18 → T a = U a) → (∀ a, a ≠ 132 → a ≠ 145 → V a = U a) → rowT U V p → (∀ r, r < R → T 18 r = V 145 (6 * m + r) ∧ -((9 * (8 - m) : Nat) : Int) ≤ (T 18 r).toInt ∧ (T 18 r).toInt ≤ ((9 * (8 - m) : Nat) : Int)) → (m = 0 → rtE U T R p x4 x5) → s_X9_firstOfRoute_L12 l1 T (nI p) (nI m - 1) ∧ s_X11_route_L81 l2 V (nI p) x3 x4 x5 (nI m - 1) ∧ (∀ a, a ≠ 17 → a ≠ 18 → f_X9_firstOfRoute_L12 l1 T (nI p) (nI m - 1) a = U a) ∧ (∀ a, a ≠ 132 → a ≠ 145 → (f_X11_route_L81 l2 V (nI p) x3 x4 x5 (nI m - 1)).2.2 a = U a) ∧ rtE U (f_X9_firstOfRoute_L12 l1 T (nI p) (nI m - 1)) R p (f_X11_route_L81 l2 V (nI p) x3 x4 x5 (nI m - 1)).1 (f_X11_route_L81 l2 V (nI p) x3 x4 x5 (nI m - 1)).2.1
  | 0, _, T, V, x4, x5, l1, l2, h1, h2, eT, eV, _, _, hE => by
    obtain ⟨l1, rfl⟩ : ∃ l, l1 = l + 1 := ⟨l1 - 1, by omega⟩
    obtain ⟨l2, rfl⟩ : ∃ l, l2 = l + 1 := ⟨l2 - 1, by omega⟩
    have e0 : nI 0 - 1 = (-1 : Int32) := by decide
    have n1 : (-1 : Int32) < 0 := by decide
    rw [e0]
    simp only [f_X9_firstOfRoute_L12, s_X9_firstOfRoute_L12, f_X11_route_L81, s_X11_route_L81, n1, ↓reduceIte, eq_self, n10, not_true_eq_false, not_false_eq_true, true_implies, false_implies, true_and, and_true, implies_true, forall_const, Sum.elim_inl, Sum.elim_inr, and_self]
    exact ⟨eT, eV, hE rfl⟩
  | e + 1, hm, T, V, x4, x5, l1, l2, h1, h2, eT, eV, er, hg, _ => by
    obtain ⟨l1, rfl⟩ : ∃ l, l1 = l + 1 := ⟨l1 - 1, by omega⟩
    obtain ⟨l2, rfl⟩ : ∃ l, l2 = l + 1 := ⟨l2 - 1, by omega⟩
    have hR := xhR hh
    have hP := xhP hh
    rw [dm_2]
    have np : ¬ nI e < 0 := nI_pos (by omega)
    obtain ⟨a1, a2, a3⟩ := r19_ok (P := P) (p := p) (e := e) hh eT
    generalize hT1 : f_X9_firstOfRoute_L19 (fu 0 (T 9 5)) T (nI p) (nI e) 0 = T1 at a2 a3
    have eT1 : ∀ a, a ≠ 17 → a ≠ 18 → T1 a = U a := fun a q1 q2 => by rw [a2 a q1]; exact eT a q1 q2
    obtain ⟨b1, b2, b3⟩ := r67_ok (P := P) (p := p) (e := e) hh eT1
    generalize hT2 : f_X9_firstOfRoute_L67 (fu 0 (T1 9 5)) T1 (nI p) (nI e) 0 = T2 at b2 b3
    have eT2 : ∀ a, a ≠ 17 → a ≠ 18 → T2 a = U a := fun a q1 q2 => by rw [b2 a q2]; exact eT1 a q1 q2
    have bd : ∀ r, r < R → -((9 * (8 - e) : Nat) : Int) ≤ (T1 17 r).toInt ∧ (T1 17 r).toInt ≤ ((9 * (8 - e) : Nat) : Int) := fun r hr => by
      obtain ⟨-, g1, g2⟩ := hg r hr
      have g3 := heard_bd (w := r) hh hk hv hp eh hh2 (show e ≤ 1000 by omega)
      rw [a3 r hr, fb_addI (by omega) (by omega)]
      omega
    obtain ⟨c1, b, v, V', c2, c3, c4, c5, c6⟩ := r89_ok (W := T1 17) hh hk hv hp eh hh2 (show e ≤ 7 by omega) eV er (fun r hr => by rw [a3 r hr, (hg r hr).1]) (fun r hr => by have := bd r hr; omega) x3 x4 x5
    obtain ⟨r1, r2, r3, r4, r5⟩ := rt_loop hh hk hv hp eh hh2 x3 e (by omega) T2 V' b v l1 l2 (by omega) (by omega) eT2 c3 c4 (fun r hr => by
      obtain ⟨k, q1, q2⟩ := b3 r hr
      obtain ⟨k', q3, q4⟩ := c5 r hr
      have ek := isMo_u q1 q3
      subst ek
      rw [q2, q4]
      exact ⟨rfl, bd k q1.1⟩) (fun q => by
      obtain ⟨k, q1, q2, q3⟩ := c6 q
      unfold rtE
      rw [b2 17 (by decide)]
      exact ⟨k, q1, q2, q3⟩)
    have f1 : f_X9_firstOfRoute_L12 (l1 + 1) T (nI p) (nI e) = f_X9_firstOfRoute_L12 l1 T2 (nI p) (nI e - 1) := by
      simp only [f_X9_firstOfRoute_L12, np, hT1, hT2, dm_1, ↓reduceIte, eq_self, n10, not_true_eq_false, not_false_eq_true, true_implies, false_implies, true_and, and_true, implies_true, forall_const, Sum.elim_inl, Sum.elim_inr, and_self]
    have f2 : f_X11_route_L81 (l2 + 1) V (nI p) x3 x4 x5 (nI e) = f_X11_route_L81 l2 V' (nI p) x3 b v (nI e - 1) := by
      simp only [f_X11_route_L81, np, c2, dm_1, ↓reduceIte, eq_self, n10, not_true_eq_false, not_false_eq_true, true_implies, false_implies, true_and, and_true, implies_true, forall_const, Sum.elim_inl, Sum.elim_inr, and_self]
    have s1 : s_X9_firstOfRoute_L12 (l1 + 1) T (nI p) (nI e) := by
      simp only [s_X9_firstOfRoute_L12, np, hT1, hT2, dm_1, a1, b1, r1, ↓reduceIte, eq_self, n10, not_true_eq_false, not_false_eq_true, true_implies, false_implies, true_and, and_true, implies_true, forall_const, Sum.elim_inl, Sum.elim_inr, and_self]
    have s2 : s_X11_route_L81 (l2 + 1) V (nI p) x3 x4 x5 (nI e) := by
      simp only [s_X11_route_L81, np, c2, dm_1, c1, r2, ↓reduceIte, eq_self, n10, not_true_eq_false, not_false_eq_true, true_implies, false_implies, true_and, and_true, implies_true, forall_const, Sum.elim_inl, Sum.elim_inr, and_self]
    rw [f1, f2]
    exact ⟨s1, s2, r3, r4, r5⟩
/-- filling a row -/
theorem fill_ok (S : xS) (k : Nat) (v : Int32) (hx : xlen k ≤ 1000) : s_J7_fill_53178 S k v ∧ (∀ a, a ≠ k → f_J7_fill_53178 S k v a = S a) ∧ ∀ j, j < xlen k → f_J7_fill_53178 S k v k j = v := by
  generalize hN : xlen k = N at hx
  have key := xl_a0 (α := xS) (γ := xS × Prop) (fun n a x => (f_J7_fill_53178_L5 n a k v x (nI N), s_J7_fill_53178_L5 n a k v x (nI N))) (fun y => y.2 ∧ (∀ a, a ≠ k → y.1 a = S a) ∧ ∀ j, j < N → y.1 k j = v) N (fun i a => (∀ b, b ≠ k → a b = S b) ∧ ∀ j, j < i → a k j = v)
    (fun n a hI => by
      have l : nI N ≤ nI N := nI_le (Nat.le_refl _) (by omega)
      simp only [f_J7_fill_53178_L5, s_J7_fill_53178_L5, l, ↓reduceIte, eq_self, n10, not_true_eq_false, not_false_eq_true, true_implies, false_implies, true_and, and_true, implies_true, forall_const, Sum.elim_inl, Sum.elim_inr, and_self]
      exact hI)
    (fun n a i hi hI => by
      have l : ¬ nI N ≤ nI i := nI_ge hi (by omega)
      have vi : vp_in (nI i) N := vp_in_nI hi (by omega)
      refine Or.inr ⟨xu a k i v, ⟨fun b q => by rw [xu_ne q]; exact hI.1 b q, fun j hj => ?_⟩, fun ⟨g1, g2⟩ => ?_⟩
      · rw [xu_eq]
        by_cases c : j = i
        · rw [c, upd_eq]
        · rw [upd_ne c]; exact hI.2 j (by omega)
      · dsimp only at g1 g2 ⊢
        simp only [f_J7_fill_53178_L5, s_J7_fill_53178_L5, l, hN, vi, cn (show i < 1000000 by omega), nI_1, g1, ↓reduceIte, eq_self, n10, not_true_eq_false, not_false_eq_true, true_implies, false_implies, true_and, and_true, implies_true, forall_const, Sum.elim_inl, Sum.elim_inr, and_self]
        exact g2)
    (n := fu 0 (nI N)) S (by rw [fu_0 (by omega)]; omega) ⟨fun _ _ => rfl, fun j hj => absurd hj (by omega)⟩
  unfold s_J7_fill_53178 f_J7_fill_53178
  dsimp only
  rw [hN]
  exact ⟨⟨key.1, trivial⟩, key.2⟩
theorem r43_ok (V : xS) {p n : Nat} (hn : n ≤ 8) (x3 : Int32) : s_X11_route_L43 (fu 0 6) V (nI p) (nI n) x3 0 ∧ (∀ a, a ≠ 145 → f_X11_route_L43 (fu 0 6) V (nI p) (nI n) x3 0 a = V a) ∧ ∀ r, r < 6 → f_X11_route_L43 (fu 0 6) V (nI p) (nI n) x3 0 145 (6 * n + r) = 0 := by
  have key := xl_a0 (α := xS) (γ := xS × Prop) (fun m a x => (f_X11_route_L43 m a (nI p) (nI n) x3 x, s_X11_route_L43 m a (nI p) (nI n) x3 x)) (fun y => y.2 ∧ (∀ a, a ≠ 145 → y.1 a = V a) ∧ ∀ r, r < 6 → y.1 145 (6 * n + r) = 0) 6 (fun i a => (∀ b, b ≠ 145 → a b = V b) ∧ ∀ r, r < i → a 145 (6 * n + r) = 0)
    (fun m a hI => by
      have l : (6 : Int32) ≤ nI 6 := by decide
      simp only [f_X11_route_L43, s_X11_route_L43, l, ↓reduceIte, eq_self, n10, not_true_eq_false, not_false_eq_true, true_implies, false_implies, true_and, and_true, implies_true, forall_const, Sum.elim_inl, Sum.elim_inr, and_self]
      exact hI)
    (fun m a i hi hI => by
      have l : ¬ (6 : Int32) ≤ nI i := nI_ge (b := 6) hi (by decide)
      have ix : 6 * nI n + nI i = nI (6 * n + i) := by rw [i_6, nI_mul, nI_add]
      have vi : vp_in (nI (6 * n + i)) 54 := vp_in_nI (by omega) (by decide)
      refine Or.inr ⟨xu a 145 (6 * n + i) 0, ⟨fun b q => by rw [xu_ne q]; exact hI.1 b q, fun j hj => ?_⟩, fun ⟨g1, g2⟩ => ?_⟩
      · rw [xu_eq]
        by_cases c : j = i
        · rw [c, upd_eq]
        · rw [upd_ne (by omega)]; exact hI.2 j (by omega)
      · dsimp only at g1 g2 ⊢
        simp only [f_X11_route_L43, s_X11_route_L43, l, ix, vi, cn (show 6 * n + i < 1000000 by omega), nI_1, g1, ↓reduceIte, eq_self, n10, not_true_eq_false, not_false_eq_true, true_implies, false_implies, true_and, and_true, implies_true, forall_const, Sum.elim_inl, Sum.elim_inr, and_self]
        exact g2)
    (n := fu 0 6) V (by decide) ⟨fun _ _ => rfl, fun j hj => absurd hj (by omega)⟩
  exact key
theorem op_route {S : xS} (h : xR S) (p0 p1 p2 : Int32) : s_X10_route S p0 p1 p2 ∧ s_X11_route ((f_X10_route S p0 p1 p2).2) p0 p1 p2 ∧ (f_X10_route S p0 p1 p2).1 = (f_X11_route ((f_X10_route S p0 p1 p2).2) p0 p1 p2).1 ∧ xR ((f_X11_route ((f_X10_route S p0 p1 p2).2) p0 p1 p2).2) := by
  obtain ⟨h1, h2, ⟨R, P, hh, hk, hv, hpp, hb, hi⟩, h4, h5⟩ := id h
  have hP := xhP hh
  have hR := xhR hh
  have i1 := person_eq hh p0
  have i2 : f_X11_in S p1.toInt64 1 8 = f_X10_within S p1 1 8 := in_within S S p1 1 8 rfl rfl
  have i3 : f_X11_in S p2.toInt64 0 1 = f_X10_within S p2 0 1 := in_within S S p2 0 1 rfl rfl
  by_cases g1 : f_X2_isPerson S 9 p0 = 0
  · have g1' : f_X11_isPerson S p0 = 0 := i1.trans g1
    have e : f_X10_route S p0 p1 p2 = (-1000000001, S) := by unfold f_X10_route; dsimp only; rw [if_pos g1]
    have e' : f_X11_route S p0 p1 p2 = (-1000000001, S) := by unfold f_X11_route; dsimp only; rw [if_pos g1']
    rw [e]
    dsimp only
    rw [e']
    exact ⟨⟨fun _ => trivial, fun q => absurd g1 q⟩, ⟨fun _ => trivial, fun q => absurd g1' q⟩, rfl, h⟩
  have g1' : ¬ f_X11_isPerson S p0 = 0 := by rw [i1]; exact g1
  by_cases g2 : f_X10_within S p1 1 8 = 0
  · have g2' : f_X11_in S p1.toInt64 1 8 = 0 := i2.trans g2
    have e : f_X10_route S p0 p1 p2 = (-1000000002, S) := by unfold f_X10_route; dsimp only; rw [if_neg g1, if_pos g2]
    have e' : f_X11_route S p0 p1 p2 = (-1000000002, S) := by unfold f_X11_route; dsimp only; rw [if_neg g1', if_pos g2']
    rw [e]
    dsimp only
    rw [e']
    exact ⟨⟨fun _ => trivial, fun _ => ⟨fun _ => trivial, fun q => absurd g2 q⟩⟩, ⟨fun _ => trivial, fun _ => ⟨fun _ => trivial, fun q => absurd g2' q⟩⟩, rfl, h⟩
  have g2' : ¬ f_X11_in S p1.toInt64 1 8 = 0 := by rw [i2]; exact g2
  by_cases g3 : f_X10_within S p2 0 1 = 0
  · have g3' : f_X11_in S p2.toInt64 0 1 = 0 := i3.trans g3
    have e : f_X10_route S p0 p1 p2 = (-1000000002, S) := by unfold f_X10_route; dsimp only; rw [if_neg g1, if_neg g2, if_pos g3]
    have e' : f_X11_route S p0 p1 p2 = (-1000000002, S) := by unfold f_X11_route; dsimp only; rw [if_neg g1', if_neg g2', if_pos g3']
    rw [e]
    dsimp only
    rw [e']
    exact ⟨⟨fun _ => trivial, fun _ => ⟨fun _ => trivial, fun _ => ⟨fun _ => trivial, fun q => absurd g3 q⟩⟩⟩, ⟨fun _ => trivial, fun _ => ⟨fun _ => trivial, fun _ => ⟨fun _ => trivial, fun q => absurd g3' q⟩⟩⟩, rfl, h⟩
  obtain ⟨p, hp, rfl⟩ := isPerson_ne (by omega) (xhP9 hh) g1
  obtain ⟨n, hn1, hn, rfl⟩ := wi_of (a := 1) (b := 8) (by omega) (by omega) g2
  obtain ⟨hr, hr1, hr2⟩ := hr_S hk hv
  obtain ⟨y1, y2, y3⟩ := fill_ok S 18 0 (by decide)
  have y3' : ∀ r, r < 6 → f_J7_fill_53178 S 18 0 18 r = 0 := y3
  generalize hT0 : f_J7_fill_53178 S 18 0 = T0 at y2 y3'
  have efd : fd (nI n - 1) = n + 1 := by
    obtain ⟨m, rfl⟩ : ∃ m, n = m + 1 := ⟨n - 1, by omega⟩
    rw [dm_2, fd_n (by omega)]
  -- either world
  have run : ∀ U : xS, (∀ a, a ≠ 17 → a ≠ 18 → U a = S a) → xRh U R P ∧ xRk U 32 131 0 ∧ xRv U R P 131 0 ∧ s_X11_tries U ∧ s_X11_route_L43 (fu 0 6) (f_X11_tries U) (nI p) (nI n) p2 0 ∧ s_X9_firstOfRoute_L12 (n + 1) T0 (nI p) (nI n - 1) ∧ s_X11_route_L81 (n + 1) (f_X11_route_L43 (fu 0 6) (f_X11_tries U) (nI p) (nI n) p2 0) (nI p) p2 0 (-1000000) (nI n - 1) ∧ (∀ a, a ≠ 17 → a ≠ 18 → f_X9_firstOfRoute_L12 (n + 1) T0 (nI p) (nI n - 1) a = U a) ∧ (∀ a, a ≠ 132 → a ≠ 145 → (f_X11_route_L81 (n + 1) (f_X11_route_L43 (fu 0 6) (f_X11_tries U) (nI p) (nI n) p2 0) (nI p) p2 0 (-1000000) (nI n - 1)).2.2 a = U a) ∧ rtE U (f_X9_firstOfRoute_L12 (n + 1) T0 (nI p) (nI n - 1)) R p (f_X11_route_L81 (n + 1) (f_X11_route_L43 (fu 0 6) (f_X11_tries U) (nI p) (nI n) p2 0) (nI p) p2 0 (-1000000) (nI n - 1)).1 (f_X11_route_L81 (n + 1) (f_X11_route_L43 (fu 0 6) (f_X11_tries U) (nI p) (nI n) p2 0) (nI p) p2 0 (-1000000) (nI n - 1)).2.1 := fun U eU => by
    have e7 : U 127 = S 127 := eU 127 (by decide) (by decide)
    have hhU : xRh U R P := xRh_cg (fun a _ _ => eU a (by omega) (by omega)) (fun j _ => by rw [e7]) (fun a _ _ => eU a (by omega) (by omega)) hh
    have hkU : xRk U 32 131 0 := xRk_cg (fun i hi => eU _ (by omega) (by omega)) (eU 131 (by decide) (by decide)) hk
    have hvU : xRv U R P 131 0 := xRv_cg (eU 131 (by decide) (by decide)) hv
    obtain ⟨t1, t2, t3⟩ := tries_ok U
    obtain ⟨v1, v2, v3⟩ := r43_ok (f_X11_tries U) (p := p) hn p2
    obtain ⟨z1, z2, z3⟩ := rt_loop hhU hkU hvU hp (by rw [eU 32 (by decide) (by decide)]; exact hr2) hr1 p2 n hn T0 (f_X11_route_L43 (fu 0 6) (f_X11_tries U) (nI p) (nI n) p2 0) 0 (-1000000) (n + 1) (n + 1) (Nat.le_refl _) (Nat.le_refl _) (fun a q1 q2 => by rw [y2 a q2, eU a q1 q2]) (fun a q1 q2 => by rw [v2 a q2]; exact t2 a q1) (fun j a b c => by rw [v2 132 (by decide)]; exact t3 j a) (fun r hr => by
      rw [y3' r (by omega), v3 r (by omega), i_0]
      exact ⟨rfl, by omega, by omega⟩) (fun q => absurd q (by omega))
    exact ⟨hhU, hkU, hvU, t1, v1, z1, z2, z3⟩
  obtain ⟨-, -, -, -, -, u1, -, u2, -, -⟩ := run S (fun _ _ _ => rfl)
  have eF : f_X9_firstOfRoute S (nI p) (nI n) = (f_X9_bestStep (f_X9_firstOfRoute_L12 (n + 1) T0 (nI p) (nI n - 1)) (f_X10_at (f_X9_firstOfRoute_L12 (n + 1) T0 (nI p) (nI n - 1)) 33 (nI p)), f_X9_firstOfRoute_L12 (n + 1) T0 (nI p) (nI n - 1)) := by
    unfold f_X9_firstOfRoute
    dsimp only
    rw [hT0, efd]
  have sF : s_X9_bestStep (f_X9_firstOfRoute_L12 (n + 1) T0 (nI p) (nI n - 1)) (f_X10_at (f_X9_firstOfRoute_L12 (n + 1) T0 (nI p) (nI n - 1)) 33 (nI p)) → s_X9_firstOfRoute S (nI p) (nI n) := fun z => by
    unfold s_X9_firstOfRoute
    dsimp only
    rw [hT0, efd]
    exact ⟨y1, u1, z, trivial⟩
  obtain ⟨hhU, hkU, hvU, t1, v1, -, z1, -, z3, z4⟩ := run (f_X9_firstOfRoute_L12 (n + 1) T0 (nI p) (nI n - 1)) u2
  generalize f_X9_firstOfRoute_L12 (n + 1) T0 (nI p) (nI n - 1) = U at *
  have ar := at_rm hhU hkU hvU hp
  obtain ⟨m1, m2⟩ := rm_of hR hvU hp
  obtain ⟨w1, k, w2, w3, w4⟩ := bs_ok (T := U) hhU (fun _ _ _ => rfl) m1
  rw [ar] at eF sF
  obtain ⟨k', w5, w6, w7⟩ := z4
  have ek := isMo_u w3 w5
  subst ek
  have j1 : ¬ f_X11_isPerson U (nI p) = 0 := by
    have := person_eq hhU (nI p)
    rw [this]
    have e9 : f_X2_isPerson U 9 (nI p) = f_X2_isPerson S 9 (nI p) := by unfold f_X2_isPerson; rw [u2 9 (by decide) (by decide)]
    rw [e9]
    exact g1
  have j2 : ¬ f_X11_in U (nI n).toInt64 1 8 = 0 := g2'
  have j3 : ¬ f_X11_in U p2.toInt64 0 1 = 0 := by
    have : f_X11_in U p2.toInt64 0 1 = f_X10_within S p2 0 1 := in_within U S p2 0 1 rfl rfl
    rw [this]
    exact g3
  have sC : s_X10_route S (nI p) (nI n) p2 := ⟨fun _ => trivial, fun _ => ⟨fun _ => trivial, fun _ => ⟨fun _ => trivial, fun _ => ⟨sF w1, trivial⟩⟩⟩⟩
  have sM : s_X11_route U (nI p) (nI n) p2 := by
    refine ⟨fun _ => trivial, fun _ => ⟨fun _ => trivial, fun _ => ⟨fun _ => trivial, fun _ => ⟨t1, v1, ?_, trivial⟩⟩⟩⟩
    rw [efd]
    exact z1
  have eM : f_X11_route U (nI p) (nI n) p2 = if p2 = 0 then ((f_X11_route_L81 (n + 1) (f_X11_route_L43 (fu 0 6) (f_X11_tries U) (nI p) (nI n) p2 0) (nI p) p2 0 (-1000000) (nI n - 1)).2.1 + 10000, (f_X11_route_L81 (n + 1) (f_X11_route_L43 (fu 0 6) (f_X11_tries U) (nI p) (nI n) p2 0) (nI p) p2 0 (-1000000) (nI n - 1)).2.2) else ((f_X11_route_L81 (n + 1) (f_X11_route_L43 (fu 0 6) (f_X11_tries U) (nI p) (nI n) p2 0) (nI p) p2 0 (-1000000) (nI n - 1)).1, (f_X11_route_L81 (n + 1) (f_X11_route_L43 (fu 0 6) (f_X11_tries U) (nI p) (nI n) p2 0) (nI p) p2 0 (-1000000) (nI n - 1)).2.2) := by
    unfold f_X11_route
    dsimp only
    rw [if_neg j1, if_neg j2, if_neg j3, efd]
  generalize f_X11_route_L81 (n + 1) (f_X11_route_L43 (fu 0 6) (f_X11_tries U) (nI p) (nI n) p2 0) (nI p) p2 0 (-1000000) (nI n - 1) = Q at *
  have fin : xR Q.2.2 := xR_tried h (fun a q1 q2 q3 q4 => by rw [z3 a q1 q2, u2 a q3 q4])
  by_cases c : p2 = 0
  · have eC : f_X10_route S (nI p) (nI n) p2 = (U 17 k + 10000, U) := by
      unfold f_X10_route
      dsimp only
      rw [if_neg g1, if_neg g2, if_neg g3, if_pos c, eF]
      dsimp only
      rw [w2, w4]
    rw [if_pos c] at eM
    rw [eC]
    dsimp only
    rw [eM]
    refine ⟨sC, sM, ?_, fin⟩
    dsimp only
    rw [w7]
  · have eC : f_X10_route S (nI p) (nI n) p2 = (nI k, U) := by
      unfold f_X10_route
      dsimp only
      rw [if_neg g1, if_neg g2, if_neg g3, if_neg c, eF]
      dsimp only
      rw [w2]
    rw [if_neg c] at eM
    rw [eC]
    dsimp only
    rw [eM]
    refine ⟨sC, sM, ?_, fin⟩
    dsimp only
    rw [w6]
