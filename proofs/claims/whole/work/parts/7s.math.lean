/-! ROUTE -/
/-- the first of the greatest among the open ones -/
def isMo (O : Nat → Prop) (W : Nat → Int32) (N k : Nat) : Prop := k < N ∧ O k ∧ (∀ r, r < N → O r → (W r).toInt ≤ (W k).toInt) ∧ ∀ r, r < k → O r → (W r).toInt < (W k).toInt
theorem isMo_u {O : Nat → Prop} {W : Nat → Int32} {N k l : Nat} (h : isMo O W N k) (g : isMo O W N l) : k = l := by
  obtain ⟨a1, a2, a3, a4⟩ := h
  obtain ⟨b1, b2, b3, b4⟩ := g
  have x1 := a3 l b1 b2
  have x2 := b3 k a1 a2
  rcases Nat.lt_or_ge k l with q | q
  · have := b4 k q a2; omega
  · rcases Nat.lt_or_ge l k with q2 | q2
    · have := a4 l q2 b2; omega
    · omega
theorem isMo_k {O : Nat → Prop} {W : Nat → Int32} {i k : Nat} (h : isMo O W i k) (c : ¬ O i) : isMo O W (i + 1) k := by
  obtain ⟨a1, a2, a3, a4⟩ := h
  refine ⟨by omega, a2, fun r hr ho => ?_, a4⟩
  rcases Nat.lt_or_ge r i with q | q
  · exact a3 r q ho
  · rw [show r = i by omega] at ho
    exact absurd ho c
theorem isMo_s {O : Nat → Prop} {W : Nat → Int32} {i k : Nat} (h : isMo O W i k) (c : W i ≤ W k) : isMo O W (i + 1) k := by
  rw [i_le] at c
  obtain ⟨a1, a2, a3, a4⟩ := h
  refine ⟨by omega, a2, fun r hr ho => ?_, a4⟩
  rcases Nat.lt_or_ge r i with q | q
  · exact a3 r q ho
  · rw [show r = i by omega]; exact c
theorem isMo_n {O : Nat → Prop} {W : Nat → Int32} {i k : Nat} (h : isMo O W i k) (c : ¬ W i ≤ W k) (o : O i) : isMo O W (i + 1) i := by
  rw [i_le] at c
  obtain ⟨a1, a2, a3, a4⟩ := h
  refine ⟨by omega, o, fun r hr ho => ?_, fun r hr ho => ?_⟩
  · rcases Nat.lt_or_ge r i with q | q
    · have := a3 r q ho; omega
    · rw [show r = i by omega]; exact Int.le_refl _
  · have := a3 r hr ho; omega
theorem isMo_f {O : Nat → Prop} {W : Nat → Int32} {i : Nat} (h : ∀ r, r < i → ¬ O r) (o : O i) : isMo O W (i + 1) i := by
  refine ⟨by omega, o, fun r hr ho => ?_, fun r hr ho => absurd ho (h r hr)⟩
  rcases Nat.lt_or_ge r i with q | q
  · exact absurd ho (h r q)
  · rw [show r = i by omega]; exact Int.le_refl _
theorem z_add (x : Int32) : 0 + x = x := by simp
theorem heard_cg {T U : xS} {a b c : Int32} (e9 : T 9 = U 9) (e10 : T 10 = U 10) (e12 : T 12 = U 12) (e32 : T 32 = U 32) (e33 : T 33 = U 33) (e36 : T 36 = U 36) : f_X9_heardIn T a b c = f_X9_heardIn U a b c := by
  have e1 : ∀ x y, f_X4_speakerOf T x y = f_X4_speakerOf U x y := fun x y => by unfold f_X4_speakerOf; rw [e9]; rfl
  have e2 : ∀ x, f_X10_at T 33 x = f_X10_at U 33 x := fun x => by unfold f_X10_at; rw [e33]
  have e3 : ∀ x y, f_X4_reaches T x y = f_X4_reaches U x y := fun x y => reach_cg e10
  have e4 : ∀ x y z v w, f_X4_says T x y z v w = f_X4_says U x y z v w := fun x y z v w => says4_cg e10 e12 e36
  unfold f_X9_heardIn
  dsimp only
  simp only [e1, e2, e3, e4, e32]
  rfl
theorem heard_bd {U : xS} {R P p w e h : Nat} (hh : xRh U R P) (hk : xRk U 32 131 0) (hv : xRv U R P 131 0) (hp : p < P) (eh : U 32 5 = nI h) (hh2 : h ≤ 9100) (he : e ≤ 1000) : -9 ≤ (f_X9_heardIn U (nI p) (nI w) (nI e)).toInt ∧ (f_X9_heardIn U (nI p) (nI w) (nI e)).toInt ≤ 9 := by
  have hP := xhP hh
  obtain ⟨z, z1, z2, -⟩ := speaker_ok (xhP9 hh) hP hp (k := h + e) (by omega)
  rw [heard_eq hh hk hv hp z1 eh (by omega) z2]
  by_cases c1 : z = p
  · rw [if_pos c1, i_0]; omega
  · rw [if_neg c1]
    by_cases c2 : f_X4_reaches U (nI (rmN U 131 z)) (nI w) = 0
    · rw [if_pos c2, i_0]; omega
    · rw [if_neg c2]
      obtain ⟨v, v1, v2⟩ := lk_of hv (show 7 * z + p < 49 by omega)
      exact says4_bd U _ _ _ (by omega) (by omega) v1 ((kL hk (by omega)).trans v2)
/-- what p would hear in w, e hours on, by the reference's own sum -/
theorem wl_ok {U K : xS} {R P p w h e : Nat} (hh : xRh U R P) (hk : xRk U 32 131 0) (hv : xRv U R P 131 0) (hp : p < P) (hw : w < R) (eh : U 32 5 = nI h) (hh2 : h ≤ 9100) (he : e ≤ 1000) (eK : ∀ a, a ≠ 132 → a ≠ 145 → K a = U a) (er : ∀ j, j < 72 → j ≠ 1 → j ≠ 2 + p → K 132 j = U 131 j) (e2 : K 132 (2 + p) = nI w) (e1 : K 132 1 = if e = 0 then U 131 1 else 0) : s_X11_warmer_L36 (fu 0 (K 127 6)) K (nI p) (nI (h + e)) 0 0 ∧ f_X11_warmer_L36 (fu 0 (K 127 6)) K (nI p) (nI (h + e)) 0 0 = f_X9_heardIn U (nI p) (nI w) (nI e) := by
  have hP := xhP hh
  have hR := xhR hh
  obtain ⟨z, z1, z2, -⟩ := speaker_ok (xhP9 hh) hP hp (k := h + e) (by omega)
  have eH := heard_eq (w := w) hh hk hv hp z1 eh (by omega) z2
  generalize f_X9_heardIn U (nI p) (nI w) (nI e) = H at eH
  have k6 : K 127 6 = nI P := by rw [eK 127 (by decide) (by decide)]; exact xhP7 hh
  have key := xl_a0 (α := Int32) (γ := Int32 × Prop) (fun n a x => (f_X11_warmer_L36 n K (nI p) (nI (h + e)) a x, s_X11_warmer_L36 n K (nI p) (nI (h + e)) a x)) (fun y => y.2 ∧ y.1 = H) P (fun i a => a = if z < i then H else 0)
    (fun n a hI => by
      have l : K 127 6 ≤ nI P := by rw [k6]; exact nI_le (Nat.le_refl _) (by omega)
      rw [if_pos z1] at hI
      simp only [f_X11_warmer_L36, s_X11_warmer_L36, l, hI, ↓reduceIte, eq_self, n10, not_true_eq_false, not_false_eq_true, true_implies, false_implies, true_and, and_true, implies_true, forall_const, Sum.elim_inl, Sum.elim_inr, and_self])
    (fun n a i hi hI => by
      have l : ¬ K 127 6 ≤ nI i := by rw [k6]; exact nI_ge hi (by omega)
      by_cases c1 : i = p
      · subst c1
        refine Or.inr ⟨a, ?_, fun ⟨g1, g2⟩ => ?_⟩
        · rw [hI]
          by_cases c : z = i
          · have h0 : H = 0 := by rw [eH, if_pos c]
            rw [h0, ite_self, ite_self]
          · by_cases q : z < i
            · rw [if_pos q, if_pos (by omega)]
            · rw [if_neg q, if_neg (by omega)]
        · dsimp only at g1 g2 ⊢
          simp only [f_X11_warmer_L36, s_X11_warmer_L36, l, add_z, nI_1, g1, ↓reduceIte, eq_self, n10, not_true_eq_false, not_false_eq_true, true_implies, false_implies, true_and, and_true, implies_true, forall_const, Sum.elim_inl, Sum.elim_inr, and_self]
          exact g2
      · have d1 : ¬ nI i = nI p := fun q => c1 (nI_inj (by omega) (by omega) q)
        have es : s_X11_spokenOf K (nI i) (nI (h + e)) := ⟨by rw [k6]; exact nI_ne0 (by omega) (by omega), trivial⟩
        have ef := spk2 K k6 (by omega) hP (i := i) (k := h + e) (by omega) (by omega)
        by_cases c2 : i = z
        · subst c2
          rw [z2] at ef
          obtain ⟨a1, a2⟩ := rm_of hR hv hi
          obtain ⟨y1, y2, y3, y4⟩ := says_tr hh eK hi hp a1 hw (by rw [er _ (by omega) (by omega) (by omega)]; exact a2) e2 (by rw [er _ (by omega) (by omega) (by omega)]; exact (kL hk (by omega)).symm)
          have hz : f_X11_has U 0 (nI p) = 0 := by
            have := has_k U (w := 0) (k := p) (by omega) (by omega)
            rw [Nat.zero_testBit, if_neg (by decide)] at this
            exact this
          have hfl : f_X11_has U (K 132 1) (nI p) = if e = 0 then f_X11_has U (U 131 1) (nI p) else 0 := by
            rw [e1]
            by_cases c : e = 0
            · rw [if_pos c, if_pos c]
            · rw [if_neg c, if_neg c, hz]
          rw [hfl] at y3
          rw [if_neg (by omega)] at hI
          subst hI
          rw [if_neg c1] at eH
          by_cases c3 : f_X4_reaches U (nI (rmN U 131 i)) (nI w) = 0
          · rw [if_pos c3] at eH
            rw [c3] at y4
            refine Or.inr ⟨0, by rw [eH, ite_self], fun ⟨g1, g2⟩ => ?_⟩
            dsimp only at g1 g2 ⊢
            simp only [f_X11_warmer_L36, s_X11_warmer_L36, l, d1, es, ef, y2, y4, add_z, nI_1, g1, ↓reduceIte, eq_self, n10, not_true_eq_false, not_false_eq_true, true_implies, false_implies, true_and, and_true, implies_true, forall_const, Sum.elim_inl, Sum.elim_inr, and_self]
            exact g2
          · rw [if_neg c3] at eH
            refine Or.inr ⟨H, by rw [if_pos (by omega)], fun ⟨g1, g2⟩ => ?_⟩
            dsimp only at g1 g2 ⊢
            have y4' : ¬ f_X11_hears K 132 (nI i) (nI p) = 0 := by rw [y4]; exact c3
            rw [← eH] at y3
            simp only [f_X11_warmer_L36, s_X11_warmer_L36, l, d1, es, ef, y1, y2, y4', y3, z_add, nI_1, g1, ↓reduceIte, eq_self, n10, not_true_eq_false, not_false_eq_true, true_implies, false_implies, true_and, and_true, implies_true, forall_const, Sum.elim_inl, Sum.elim_inr, and_self]
            exact g2
        · have d2 : ¬ nI ((i + (h + e) + 1) % P) = nI p := fun q => c2 (md_inj hP hi z1 (by rw [z2]; exact nI_inj (by have := Nat.mod_lt (i + (h + e) + 1) (show 0 < P by omega); omega) (by omega) q))
          refine Or.inr ⟨a, ?_, fun ⟨g1, g2⟩ => ?_⟩
          · rw [hI]
            by_cases q : z < i
            · rw [if_pos q, if_pos (by omega)]
            · rw [if_neg q, if_neg (by omega)]
          · dsimp only at g1 g2 ⊢
            simp only [f_X11_warmer_L36, s_X11_warmer_L36, l, d1, es, ef, d2, add_z, nI_1, g1, ↓reduceIte, eq_self, n10, not_true_eq_false, not_false_eq_true, true_implies, false_implies, true_and, and_true, implies_true, forall_const, Sum.elim_inl, Sum.elim_inr, and_self]
            exact g2)
    (n := fu 0 (K 127 6)) 0 (by rw [k6, fu_0 (by omega)]; omega) (by rw [if_neg (by omega)])
  exact key
theorem wrm_ok {U V : xS} {R P p w h e : Nat} (hh : xRh U R P) (hk : xRk U 32 131 0) (hv : xRv U R P 131 0) (hp : p < P) (hw : w < R) (eh : U 32 5 = nI h) (hh2 : h ≤ 9100) (he : e ≤ 1000) (eV : ∀ a, a ≠ 132 → a ≠ 145 → V a = U a) (er : ∀ j, j < 72 → j ≠ 1 → j ≠ 2 + p → V 132 j = U 131 j) {c : Int32} (hc : c = if e = 0 then 1 else 0) : s_X11_warmer V (nI p) (nI w) (nI (h + e)) c ∧ (f_X11_warmer V (nI p) (nI w) (nI (h + e)) c).1 = f_X9_heardIn U (nI p) (nI w) (nI e) ∧ (∀ a, a ≠ 132 → (f_X11_warmer V (nI p) (nI w) (nI (h + e)) c).2 a = V a) ∧ ∀ j, j < 72 → j ≠ 1 → j ≠ 2 + p → (f_X11_warmer V (nI p) (nI w) (nI (h + e)) c).2 132 j = U 131 j := by
  have hP := xhP hh
  have v2 : vp_in (2 + nI p) 72 := by rw [ix2]; exact vp_in_nI (by omega) (by decide)
  have gen : ∀ y, (y = if e = 0 then U 131 1 else 0) → (s_X11_warmer_L36 (fu 0 (xu (xu V 132 (2 + p) (nI w)) 132 1 y 127 6)) (xu (xu V 132 (2 + p) (nI w)) 132 1 y) (nI p) (nI (h + e)) 0 0 ∧ f_X11_warmer_L36 (fu 0 (xu (xu V 132 (2 + p) (nI w)) 132 1 y 127 6)) (xu (xu V 132 (2 + p) (nI w)) 132 1 y) (nI p) (nI (h + e)) 0 0 = f_X9_heardIn U (nI p) (nI w) (nI e)) ∧ (∀ a, a ≠ 132 → xu (xu V 132 (2 + p) (nI w)) 132 1 y a = V a) ∧ ∀ j, j < 72 → j ≠ 1 → j ≠ 2 + p → xu (xu V 132 (2 + p) (nI w)) 132 1 y 132 j = U 131 j := fun y hy => by
    have f1 : ∀ a, a ≠ 132 → xu (xu V 132 (2 + p) (nI w)) 132 1 y a = V a := fun a q => by rw [xu_ne q, xu_ne q]
    have f2 : ∀ j, j < 72 → j ≠ 1 → j ≠ 2 + p → xu (xu V 132 (2 + p) (nI w)) 132 1 y 132 j = U 131 j := fun j a b c => by rw [xu_eq, upd_ne b, xu_eq, upd_ne c]; exact er j a b c
    exact ⟨wl_ok hh hk hv hp hw eh hh2 he (fun a q1 q2 => by rw [f1 a q1]; exact eV a q1 q2) f2 (by rw [xu_eq, upd_ne (by omega), xu_eq, upd_eq]) (by rw [xu_eq, upd_eq]; exact hy), f1, f2⟩
  have e131 : xu V 132 (2 + p) (nI w) 131 1 = U 131 1 := by rw [xu_ne (by decide), eV 131 (by decide) (by decide)]
  by_cases c0 : e = 0
  · rw [if_pos c0] at hc
    obtain ⟨⟨g1, g2⟩, g3, g4⟩ := gen (U 131 1) (by rw [if_pos c0])
    have ef : f_X11_warmer V (nI p) (nI w) (nI (h + e)) c = (f_X9_heardIn U (nI p) (nI w) (nI e), xu (xu V 132 (2 + p) (nI w)) 132 1 (U 131 1)) := by
      unfold f_X11_warmer
      dsimp only
      rw [hc, if_neg (by decide), c2n (by omega), c_1, e131, g2]
    rw [ef]
    refine ⟨⟨v2, ?_, ?_⟩, rfl, g3, g4⟩
    · exact fun q => absurd q (by rw [hc]; decide)
    · dsimp only
      rw [c2n (by omega), c_1, e131]
      exact fun _ => ⟨g1, trivial⟩
  · rw [if_neg c0] at hc
    obtain ⟨⟨g1, g2⟩, g3, g4⟩ := gen 0 (by rw [if_neg c0])
    have ef : f_X11_warmer V (nI p) (nI w) (nI (h + e)) c = (f_X9_heardIn U (nI p) (nI w) (nI e), xu (xu V 132 (2 + p) (nI w)) 132 1 0) := by
      unfold f_X11_warmer
      dsimp only
      rw [hc, if_pos rfl, c2n (by omega), c_1, g2]
    rw [ef]
    refine ⟨⟨v2, ?_, ?_⟩, rfl, g3, g4⟩
    · dsimp only
      rw [c2n (by omega), c_1]
      exact fun _ => ⟨g1, trivial⟩
    · exact fun q => absurd hc q
/-- the ways that are open -/
def opn (U : xS) (f r : Nat) : Prop := r = f ∨ ¬ f_X11_has U (U 129 f) (nI r) = 0
/-- the class's best step -/
theorem bs_ok {U T : xS} {R P f : Nat} (hh : xRh U R P) (eT : ∀ a, a ≠ 17 → a ≠ 18 → T a = U a) (hf : f < R) : s_X9_bestStep T (nI f) ∧ ∃ k, f_X9_bestStep T (nI f) = nI k ∧ isMo (opn U f) (T 17) R k ∧ f_X9_worthOf T (nI k) = T 17 k := by
  have hR := xhR hh
  have t95 : T 9 5 = nI R := by rw [eT 9 (by decide) (by decide)]; exact xhR9 hh
  have ew : ∀ r, r < R → f_X9_worthOf T (nI r) = T 17 r := fun r hr => by unfold f_X9_worthOf; dsimp only; rw [at_in (N := 6) rfl (by omega) (by decide)]
  have ey : ∀ r, r < R → f_X2_isWay T 9 (nI f) (nI r) = f_X11_has U (U 129 f) (nI r) := fun r hr => by
    have e : f_X2_isWay T 9 (nI f) (nI r) = f_X10_has T (f_X10_at T 11 (nI f)) (nI r) := rfl
    rw [e, at_in (N := 6) rfl (by omega) (by decide), eT 11 (by decide) (by decide), (xhA hh (show f < 6 by omega)).2, has_nI T U _ (by omega)]
  have nm : ∀ k, k < 1000 → ¬ nI k = -1 := fun k hk q => by
    have : (nI k).toInt = (-1 : Int32).toInt := by rw [q]
    rw [nI_toInt (by omega)] at this
    have z : (-1 : Int32).toInt = -1 := by decide
    omega
  have key := xl_a0 (α := Int32) (γ := Int32 × Prop) (fun n a x => (f_X9_bestStep_L4 n T (nI f) a x, s_X9_bestStep_L4 n T (nI f) a x)) (fun y => y.2 ∧ ∃ k, y.1 = nI k ∧ isMo (opn U f) (T 17) R k) R (fun i a => (a = -1 ∧ ∀ r, r < i → ¬ opn U f r) ∨ ∃ k, a = nI k ∧ isMo (opn U f) (T 17) i k)
    (fun n a hI => by
      have l : T 9 5 ≤ nI R := by rw [t95]; exact nI_le (Nat.le_refl _) (by omega)
      simp only [f_X9_bestStep_L4, s_X9_bestStep_L4, l, ↓reduceIte, eq_self, n10, not_true_eq_false, not_false_eq_true, true_implies, false_implies, true_and, and_true, implies_true, forall_const, Sum.elim_inl, Sum.elim_inr, and_self]
      rcases hI with ⟨-, h⟩ | h
      · exact absurd (Or.inl rfl) (h f hf)
      · exact h)
    (fun n a i hi hI => by
      have l : ¬ T 9 5 ≤ nI i := by rw [t95]; exact nI_ge hi (by omega)
      have ei := ew i hi
      have eyi := ey i hi
      by_cases c1 : i = f
      · subst c1
        have o : opn U i i := Or.inl rfl
        rcases hI with ⟨rfl, h⟩ | ⟨k, rfl, h⟩
        · refine Or.inr ⟨nI i, Or.inr ⟨i, rfl, isMo_f h o⟩, fun ⟨g1, g2⟩ => ?_⟩
          dsimp only at g1 g2 ⊢
          simp only [f_X9_bestStep_L4, s_X9_bestStep_L4, l, nI_1, g1, ↓reduceIte, eq_self, n10, not_true_eq_false, not_false_eq_true, true_implies, false_implies, true_and, and_true, implies_true, forall_const, Sum.elim_inl, Sum.elim_inr, and_self]
          exact g2
        · have nk := nm k (by have := h.1; omega)
          have ek := ew k (by have := h.1; omega)
          by_cases c2 : T 17 i ≤ T 17 k
          · refine Or.inr ⟨nI k, Or.inr ⟨k, rfl, isMo_s h c2⟩, fun ⟨g1, g2⟩ => ?_⟩
            dsimp only at g1 g2 ⊢
            simp only [f_X9_bestStep_L4, s_X9_bestStep_L4, l, nk, ei, ek, c2, nI_1, g1, ↓reduceIte, eq_self, n10, not_true_eq_false, not_false_eq_true, true_implies, false_implies, true_and, and_true, implies_true, forall_const, Sum.elim_inl, Sum.elim_inr, and_self]
            exact g2
          · refine Or.inr ⟨nI i, Or.inr ⟨i, rfl, isMo_n h c2 o⟩, fun ⟨g1, g2⟩ => ?_⟩
            dsimp only at g1 g2 ⊢
            simp only [f_X9_bestStep_L4, s_X9_bestStep_L4, l, nk, ei, ek, c2, nI_1, g1, ↓reduceIte, eq_self, n10, not_true_eq_false, not_false_eq_true, true_implies, false_implies, true_and, and_true, implies_true, forall_const, Sum.elim_inl, Sum.elim_inr, and_self]
            exact g2
      · have d1 : ¬ nI i = nI f := fun q => c1 (nI_inj (by omega) (by omega) q)
        by_cases c3 : f_X11_has U (U 129 f) (nI i) = 0
        · have o : ¬ opn U f i := fun q => q.elim c1 (fun q => q c3)
          refine Or.inr ⟨a, ?_, fun ⟨g1, g2⟩ => ?_⟩
          · rcases hI with ⟨h1, h⟩ | ⟨k, h1, h⟩
            · refine Or.inl ⟨h1, fun r hr => ?_⟩
              rcases Nat.lt_or_ge r i with q | q
              · exact h r q
              · rw [show r = i by omega]; exact o
            · exact Or.inr ⟨k, h1, isMo_k h o⟩
          · dsimp only at g1 g2 ⊢
            rw [c3] at eyi
            simp only [f_X9_bestStep_L4, s_X9_bestStep_L4, l, d1, eyi, nI_1, g1, ↓reduceIte, eq_self, n10, not_true_eq_false, not_false_eq_true, true_implies, false_implies, true_and, and_true, implies_true, forall_const, Sum.elim_inl, Sum.elim_inr, and_self]
            exact g2
        · have o : opn U f i := Or.inr c3
          have eyi' : ¬ f_X2_isWay T 9 (nI f) (nI i) = 0 := by rw [eyi]; exact c3
          rcases hI with ⟨rfl, h⟩ | ⟨k, rfl, h⟩
          · refine Or.inr ⟨nI i, Or.inr ⟨i, rfl, isMo_f h o⟩, fun ⟨g1, g2⟩ => ?_⟩
            dsimp only at g1 g2 ⊢
            simp only [f_X9_bestStep_L4, s_X9_bestStep_L4, l, d1, eyi', nI_1, g1, ↓reduceIte, eq_self, n10, not_true_eq_false, not_false_eq_true, true_implies, false_implies, true_and, and_true, implies_true, forall_const, Sum.elim_inl, Sum.elim_inr, and_self]
            exact g2
          · have nk := nm k (by have := h.1; omega)
            have ek := ew k (by have := h.1; omega)
            by_cases c2 : T 17 i ≤ T 17 k
            · refine Or.inr ⟨nI k, Or.inr ⟨k, rfl, isMo_s h c2⟩, fun ⟨g1, g2⟩ => ?_⟩
              dsimp only at g1 g2 ⊢
              simp only [f_X9_bestStep_L4, s_X9_bestStep_L4, l, d1, eyi', nk, ei, ek, c2, nI_1, g1, ↓reduceIte, eq_self, n10, not_true_eq_false, not_false_eq_true, true_implies, false_implies, true_and, and_true, implies_true, forall_const, Sum.elim_inl, Sum.elim_inr, and_self]
              exact g2
            · refine Or.inr ⟨nI i, Or.inr ⟨i, rfl, isMo_n h c2 o⟩, fun ⟨g1, g2⟩ => ?_⟩
              dsimp only at g1 g2 ⊢
              simp only [f_X9_bestStep_L4, s_X9_bestStep_L4, l, d1, eyi', nk, ei, ek, c2, nI_1, g1, ↓reduceIte, eq_self, n10, not_true_eq_false, not_false_eq_true, true_implies, false_implies, true_and, and_true, implies_true, forall_const, Sum.elim_inl, Sum.elim_inr, and_self]
              exact g2)
    (n := fu 0 (T 9 5)) (-1) (by rw [t95, fu_0 (by omega)]; omega) (Or.inl ⟨rfl, fun r hr => absurd hr (by omega)⟩)
  obtain ⟨k1, k, k2, k3⟩ := key
  exact ⟨⟨k1, trivial⟩, k, k2, k3, ew k k3.1⟩
/-- the class's worths of an hour -/
theorem r19_ok {U T : xS} {R P p e : Nat} (hh : xRh U R P) (eT : ∀ a, a ≠ 17 → a ≠ 18 → T a = U a) : s_X9_firstOfRoute_L19 (fu 0 (T 9 5)) T (nI p) (nI e) 0 ∧ (∀ a, a ≠ 17 → f_X9_firstOfRoute_L19 (fu 0 (T 9 5)) T (nI p) (nI e) 0 a = T a) ∧ ∀ r, r < R → f_X9_firstOfRoute_L19 (fu 0 (T 9 5)) T (nI p) (nI e) 0 17 r = f_X9_heardIn U (nI p) (nI r) (nI e) + T 18 r := by
  have hR := xhR hh
  have t95 : T 9 5 = nI R := by rw [eT 9 (by decide) (by decide)]; exact xhR9 hh
  have key := xl_a0 (α := xS) (γ := xS × Prop) (fun n a x => (f_X9_firstOfRoute_L19 n a (nI p) (nI e) x, s_X9_firstOfRoute_L19 n a (nI p) (nI e) x)) (fun y => y.2 ∧ (∀ a, a ≠ 17 → y.1 a = T a) ∧ ∀ r, r < R → y.1 17 r = f_X9_heardIn U (nI p) (nI r) (nI e) + T 18 r) R (fun i a => (∀ b, b ≠ 17 → a b = T b) ∧ ∀ r, r < i → a 17 r = f_X9_heardIn U (nI p) (nI r) (nI e) + T 18 r)
    (fun n a hI => by
      have l : a 9 5 ≤ nI R := by rw [hI.1 9 (by decide), t95]; exact nI_le (Nat.le_refl _) (by omega)
      simp only [f_X9_firstOfRoute_L19, s_X9_firstOfRoute_L19, l, ↓reduceIte, eq_self, n10, not_true_eq_false, not_false_eq_true, true_implies, false_implies, true_and, and_true, implies_true, forall_const, Sum.elim_inl, Sum.elim_inr, and_self]
      exact hI)
    (fun n a i hi hI => by
      obtain ⟨h1, h2⟩ := hI
      have l : ¬ a 9 5 ≤ nI i := by rw [h1 9 (by decide), t95]; exact nI_ge hi (by omega)
      have g : ∀ b, b ≠ 17 → b ≠ 18 → a b = U b := fun b q1 q2 => by rw [h1 b q1]; exact eT b q1 q2
      have eh := heard_cg (T := a) (U := U) (a := nI p) (b := nI i) (c := nI e) (g 9 (by decide) (by decide)) (g 10 (by decide) (by decide)) (g 12 (by decide) (by decide)) (g 32 (by decide) (by decide)) (g 33 (by decide) (by decide)) (g 36 (by decide) (by decide))
      have ea : f_X10_at a 18 (nI i) = T 18 i := by rw [at_in (N := 6) rfl (by omega) (by decide), h1 18 (by decide)]
      have ep : ∀ y, f_X10_put a 17 (nI i) y = xu a 17 i y := fun y => put_in (N := 6) rfl (by omega) (by decide)
      refine Or.inr ⟨xu a 17 i (f_X9_heardIn U (nI p) (nI i) (nI e) + T 18 i), ⟨fun b q => by rw [xu_ne q]; exact h1 b q, fun r hr => ?_⟩, fun ⟨g1, g2⟩ => ?_⟩
      · rw [xu_eq]
        by_cases c : r = i
        · rw [c, upd_eq]
        · rw [upd_ne c]; exact h2 r (by omega)
      · dsimp only at g1 g2 ⊢
        simp only [f_X9_firstOfRoute_L19, s_X9_firstOfRoute_L19, l, eh, ea, ep, nI_1, g1, ↓reduceIte, eq_self, n10, not_true_eq_false, not_false_eq_true, true_implies, false_implies, true_and, and_true, implies_true, forall_const, Sum.elim_inl, Sum.elim_inr, and_self]
        exact g2)
    (n := fu 0 (T 9 5)) T (by rw [t95, fu_0 (by omega)]; omega) ⟨fun _ _ => rfl, fun r hr => absurd hr (by omega)⟩
  exact key
theorem r67_ok {U T : xS} {R P p e : Nat} (hh : xRh U R P) (eT : ∀ a, a ≠ 17 → a ≠ 18 → T a = U a) : s_X9_firstOfRoute_L67 (fu 0 (T 9 5)) T (nI p) (nI e) 0 ∧ (∀ a, a ≠ 18 → f_X9_firstOfRoute_L67 (fu 0 (T 9 5)) T (nI p) (nI e) 0 a = T a) ∧ ∀ r, r < R → ∃ k, isMo (opn U r) (T 17) R k ∧ f_X9_firstOfRoute_L67 (fu 0 (T 9 5)) T (nI p) (nI e) 0 18 r = T 17 k := by
  have hR := xhR hh
  have t95 : T 9 5 = nI R := by rw [eT 9 (by decide) (by decide)]; exact xhR9 hh
  have key := xl_a0 (α := xS) (γ := xS × Prop) (fun n a x => (f_X9_firstOfRoute_L67 n a (nI p) (nI e) x, s_X9_firstOfRoute_L67 n a (nI p) (nI e) x)) (fun y => y.2 ∧ (∀ a, a ≠ 18 → y.1 a = T a) ∧ ∀ r, r < R → ∃ k, isMo (opn U r) (T 17) R k ∧ y.1 18 r = T 17 k) R (fun i a => (∀ b, b ≠ 18 → a b = T b) ∧ ∀ r, r < i → ∃ k, isMo (opn U r) (T 17) R k ∧ a 18 r = T 17 k)
    (fun n a hI => by
      have l : a 9 5 ≤ nI R := by rw [hI.1 9 (by decide), t95]; exact nI_le (Nat.le_refl _) (by omega)
      simp only [f_X9_firstOfRoute_L67, s_X9_firstOfRoute_L67, l, ↓reduceIte, eq_self, n10, not_true_eq_false, not_false_eq_true, true_implies, false_implies, true_and, and_true, implies_true, forall_const, Sum.elim_inl, Sum.elim_inr, and_self]
      exact hI)
    (fun n a i hi hI => by
      obtain ⟨h1, h2⟩ := hI
      have l : ¬ a 9 5 ≤ nI i := by rw [h1 9 (by decide), t95]; exact nI_ge hi (by omega)
      have g : ∀ b, b ≠ 17 → b ≠ 18 → a b = U b := fun b q1 q2 => by rw [h1 b q2]; exact eT b q1 q2
      obtain ⟨b1, k, b2, b3, b4⟩ := bs_ok (f := i) hh g hi
      rw [h1 17 (by decide)] at b3 b4
      have ep : ∀ y, f_X10_put a 18 (nI i) y = xu a 18 i y := fun y => put_in (N := 6) rfl (by omega) (by decide)
      refine Or.inr ⟨xu a 18 i (T 17 k), ⟨fun b q => by rw [xu_ne q]; exact h1 b q, fun r hr => ?_⟩, fun ⟨g1, g2⟩ => ?_⟩
      · rw [xu_eq]
        by_cases c : r = i
        · rw [c, upd_eq]; exact ⟨k, b3, rfl⟩
        · rw [upd_ne c]; exact h2 r (by omega)
      · dsimp only at g1 g2 ⊢
        simp only [f_X9_firstOfRoute_L67, s_X9_firstOfRoute_L67, l, b1, b2, b4, ep, nI_1, g1, ↓reduceIte, eq_self, n10, not_true_eq_false, not_false_eq_true, true_implies, false_implies, true_and, and_true, implies_true, forall_const, Sum.elim_inl, Sum.elim_inr, and_self]
        exact g2)
    (n := fu 0 (T 9 5)) T (by rw [t95, fu_0 (by omega)]; omega) ⟨fun _ _ => rfl, fun r hr => absurd hr (by omega)⟩
  exact key
