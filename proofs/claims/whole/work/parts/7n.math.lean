/-! NUMBERS AND FAULTS -/
theorem pr_eta {α β : Type} (p : α × β) : (p.1, p.2) = p := rfl
/-- what the class's reading leaves as it was; the reference's -/
def frC (C C' : xS) : Prop := (∀ a, (a < 3 ∨ 8 < a) → a ≠ 1 → C' a = C a) ∧ C' 1 2 = C 1 2
def frM (M M' : xS) : Prop := (∀ a, (a < 139 ∨ 143 < a) → a ≠ 127 → M' a = M a) ∧ ∀ j, (j ≤ 19 ∨ j = 36) → M' 127 j = M 127 j
theorem frC_t {A B C : xS} (h : frC A B) (g : frC B C) : frC A C := ⟨fun a h1 h2 => by rw [g.1 a h1 h2, h.1 a h1 h2], by rw [g.2, h.2]⟩
theorem frM_t {A B C : xS} (h : frM A B) (g : frM B C) : frM A C := ⟨fun a h1 h2 => by rw [g.1 a h1 h2, h.1 a h1 h2], fun j hj => by rw [g.2 j hj, h.2 j hj]⟩
theorem frC_r (A : xS) : frC A A := ⟨fun _ _ _ => rfl, rfl⟩
theorem frM_r (A : xS) : frM A A := ⟨fun _ _ _ => rfl, fun _ _ => rfl⟩
theorem frC_1 {A B : xS} (h : ∀ a, a ≠ 1 → B a = A a) (h2 : B 1 2 = A 1 2) : frC A B := ⟨fun a _ q => h a q, h2⟩
theorem frM_1 {A B : xS} (h : ∀ a, a ≠ 127 → B a = A a) (h2 : ∀ j, (j ≤ 19 ∨ j = 36) → B 127 j = A 127 j) : frM A B := ⟨fun a _ q => h a q, h2⟩
/-- the text, the place -/
def txt (C M : xS) (n : Nat) : Prop := C 1 2 = nI n ∧ M 127 19 = nI n ∧ n ≤ 240 ∧ ∀ i, i < n → C 2 i = M 138 i ∧ 0 ≤ (M 138 i).toInt
def pos (C M : xS) (k : Nat) : Prop := C 1 5 = nI k ∧ M 127 21 = nI k
theorem txt_f {C M C' M' : xS} {n : Nat} (t : txt C M n) (h : frC C C') (g : frM M M') : txt C' M' n := by
  obtain ⟨t1, t2, t3, t4⟩ := t
  exact ⟨by rw [h.2]; exact t1, by rw [g.2 19 (by omega)]; exact t2, t3, fun i hi => by rw [h.1 2 (by omega) (by decide), g.1 138 (by omega) (by decide)]; exact t4 i hi⟩
/-- both have found the same fault: the class goes on and tells no more -/
def fl (C M : xS) (r : Int32) (C' M' : xS) : Prop := ∃ f x k, 1 ≤ f ∧ f ≤ 4 ∧ x ≤ 1000 ∧ k ≤ 900 ∧ r = nI f ∧ C' 1 3 = nI f ∧ C' 1 4 = nI x ∧ M' 127 20 = nI x ∧ C' 1 5 = nI k ∧ frC C C' ∧ frM M M'
theorem fl_r {C M C' M' : xS} {r : Int32} (h : fl C M r C' M') : ¬ C' 1 3 = 0 ∧ 0 < r ∧ ¬ r = 0 := by
  obtain ⟨f, x, k, h1, h2, -, -, rfl, h3, -⟩ := h
  exact ⟨by rw [h3]; exact nI_ne0 (by omega) (by omega), nI_lt (a := 0) (by omega) (by omega), nI_ne0 (by omega) (by omega)⟩
theorem fl_t {A B C M C' M' : xS} {r : Int32} (h : fl C M r C' M') (g1 : frC A C) (g2 : frM B M) : fl A B r C' M' := by
  obtain ⟨f, x, k, h1, h2, h3, h4, h5, h6, h7, h8, h9, h10, h11⟩ := h
  exact ⟨f, x, k, h1, h2, h3, h4, h5, h6, h7, h8, h9, frC_t g1 h10, frM_t g2 h11⟩
theorem blame_0 {C : xS} (h : C 1 3 = 0) (p : Int32) : f_X8_blame C 0 p = C := by
  unfold f_X8_blame
  rw [if_pos h, if_pos rfl]
theorem blame_n {C : xS} (h : ¬ C 1 3 = 0) (f p : Int32) : f_X8_blame C f p = C := by
  unfold f_X8_blame
  rw [if_neg h]
theorem blame_f {C : xS} (h : C 1 3 = 0) {f : Int32} (hf : ¬ f = 0) (p : Int32) : f_X8_blame C f p = xu (xu C 1 3 f) 1 4 p := by
  unfold f_X8_blame
  rw [if_pos h, if_neg hf]
/-- a blame, with the reference's fails -/
theorem blame_fl {C M : xS} {f x k : Nat} (h : C 1 3 = 0) (h1 : 1 ≤ f) (h2 : f ≤ 4) (hx : x ≤ 1000) (hk : k ≤ 900) (hp : C 1 5 = nI k) : fl C M (nI f) (f_X8_blame C (nI f) (nI x)) (f_X11_fails M (nI f) (nI x)).2 ∧ (f_X11_fails M (nI f) (nI x)).1 = nI f := by
  rw [blame_f h (nI_ne0 (by omega) (by omega))]
  refine ⟨⟨f, x, k, h1, h2, hx, hk, rfl, by rw [xu_eq, upd_ne (by decide), xu_eq, upd_eq], by rw [xu_eq, upd_eq], ?_, by rw [xu_eq, upd_ne (by decide), xu_eq, upd_ne (by decide)]; exact hp, frC_1 (fun a ha => by rw [xu_ne ha, xu_ne ha]) (by rw [xu_eq, upd_ne (by decide), xu_eq, upd_ne (by decide)]), ?_⟩, rfl⟩
  · show xu M 127 20 (nI x) 127 20 = nI x
    rw [xu_eq, upd_eq]
  · show frM M (xu M 127 20 (nI x))
    exact frM_1 (fun a ha => by rw [xu_ne ha]) (fun j hj => by rw [xu_eq, upd_ne (by omega)])
/-- a number is read alike -/
def nmOk (C M : xS) (n : Nat) (p q : Int32) (C' M' : xS) (v : Nat) : Prop := v < 1000 ∧ p.toInt ≤ v ∧ (v : Int) ≤ q.toInt ∧ (∃ k x, k ≤ n ∧ x ≤ n ∧ pos C' M' k ∧ C' 1 6 = nI x ∧ M' 127 23 = nI x ∧ M' 127 22 = nI v ∧ (C 1 5).toInt ≤ k) ∧ (∀ a, a ≠ 1 → C' a = C a) ∧ (∀ j, j ≠ 5 → j ≠ 6 → C' 1 j = C 1 j) ∧ (∀ a, a ≠ 127 → M' a = M a) ∧ ∀ j, j ≠ 21 → j ≠ 22 → j ≠ 23 → M' 127 j = M 127 j
theorem nmOk_fr {C M C' M' : xS} {n v : Nat} {p q : Int32} (h : nmOk C M n p q C' M' v) : frC C C' ∧ frM M M' := by
  obtain ⟨-, -, -, -, h1, h2, h3, h4⟩ := h
  exact ⟨frC_1 h1 (h2 2 (by decide) (by decide)), frM_1 h3 (fun j hj => h4 j (by omega) (by omega) (by omega))⟩
theorem num_ok {C M : xS} {n k : Nat} (t : txt C M n) (hp : pos C M k) (hk : k ≤ n) (hf : C 1 3 = 0) (p q : Int32) : s_X8_readNumber C p q ∧ s_X11_takeNumber M p q ∧ ((∃ v, nmOk C M n p q (f_X8_readNumber C p q).2 (f_X11_takeNumber M p q).2 v ∧ (f_X8_readNumber C p q).1 = nI v ∧ (f_X11_takeNumber M p q).1 = 0) ∨ fl C M (f_X11_takeNumber M p q).1 (f_X8_readNumber C p q).2 (f_X11_takeNumber M p q).2) := by
  obtain ⟨t1, t2, t3, t4⟩ := t
  obtain ⟨p1, p2⟩ := hp
  obtain ⟨s1, s2, m, m1, m2, m3, m4, m5, m6⟩ := skip_ok t1 t2 t3 (fun i hi => (t4 i hi).1) p1 p2 hk
  generalize hA : f_X8_skipBlanks C = A at m3
  have hB : f_X11_here M = ((if m < n then M 138 m else -1), (f_X11_here M).2) := by rw [← m5]
  generalize (f_X11_here M).2 = B at hB m4
  have a13 : A 1 3 = 0 := by rw [m3.2.1 3 (by decide)]; exact hf
  generalize hA6 : xu A 1 6 (nI m) = A6
  have c6 : A6 1 6 = nI m := by rw [← hA6, xu_eq, upd_eq]
  have c5 : A6 1 5 = nI m := by rw [← hA6, xu_eq, upd_ne (by decide)]; exact m3.2.2
  have c2 : A6 1 2 = nI n := by rw [← hA6, xu_eq, upd_ne (by decide), m3.2.1 2 (by decide)]; exact t1
  have c3 : A6 1 3 = 0 := by rw [← hA6, xu_eq, upd_ne (by decide)]; exact a13
  have cA : ∀ a, a ≠ 1 → A6 a = C a := fun a ha => by rw [← hA6, xu_ne ha, m3.1 a ha]
  have cj : ∀ j, j ≠ 5 → j ≠ 6 → A6 1 j = C 1 j := fun j h1 h2 => by rw [← hA6, xu_eq, upd_ne h2, m3.2.1 j h1]
  have frA : frC C A6 := frC_1 cA (cj 2 (by decide) (by decide))
  have frB : frM M B := frM_1 m4.1 (fun j hj => m4.2.1 j (by omega))
  have eC : f_X8_readNumber C p q = (if (f_X8_readNumber_L26 (fu (A6 1 5) (A6 1 2)) A6 p q 0 0).1 = 0 then ((f_X8_readNumber_L26 (fu (A6 1 5) (A6 1 2)) A6 p q 0 0).2.1, f_X8_blame (f_X8_readNumber_L26 (fu (A6 1 5) (A6 1 2)) A6 p q 0 0).2.2 1 ((f_X8_readNumber_L26 (fu (A6 1 5) (A6 1 2)) A6 p q 0 0).2.2 1 6)) else if 3 < (f_X8_readNumber_L26 (fu (A6 1 5) (A6 1 2)) A6 p q 0 0).1 then ((f_X8_readNumber_L26 (fu (A6 1 5) (A6 1 2)) A6 p q 0 0).2.1, f_X8_blame (f_X8_readNumber_L26 (fu (A6 1 5) (A6 1 2)) A6 p q 0 0).2.2 2 ((f_X8_readNumber_L26 (fu (A6 1 5) (A6 1 2)) A6 p q 0 0).2.2 1 6)) else if f_X10_within (f_X8_readNumber_L26 (fu (A6 1 5) (A6 1 2)) A6 p q 0 0).2.2 (f_X8_readNumber_L26 (fu (A6 1 5) (A6 1 2)) A6 p q 0 0).2.1 p q = 0 then ((f_X8_readNumber_L26 (fu (A6 1 5) (A6 1 2)) A6 p q 0 0).2.1, f_X8_blame (f_X8_readNumber_L26 (fu (A6 1 5) (A6 1 2)) A6 p q 0 0).2.2 2 ((f_X8_readNumber_L26 (fu (A6 1 5) (A6 1 2)) A6 p q 0 0).2.2 1 6)) else ((f_X8_readNumber_L26 (fu (A6 1 5) (A6 1 2)) A6 p q 0 0).2.1, (f_X8_readNumber_L26 (fu (A6 1 5) (A6 1 2)) A6 p q 0 0).2.2)) := by
    simp only [f_X8_readNumber, hf, hA, m3.2.2, hA6, ↓reduceIte, eq_self, n10, not_true_eq_false, not_false_eq_true, true_implies, false_implies, true_and, and_true, implies_true, forall_const, Sum.elim_inl, Sum.elim_inr, and_self]
  have sC : s_X8_readNumber_L26 (fu (A6 1 5) (A6 1 2)) A6 p q 0 0 → s_X8_readNumber C p q := fun h => ⟨fun _ => ⟨s1, by dsimp only; rw [hA, m3.2.2, hA6]; exact ⟨h, trivial⟩⟩, fun h => absurd hf h⟩
  by_cases cd : m < n ∧ dg (M 138 m)
  · obtain ⟨cm, cd⟩ := cd
    rw [if_pos cm] at hB
    have d2 : f_X11_in B (M 138 m).toInt64 48 57 = 1 := by
      rw [dg_in]
      rcases dg_w B (M 138 m) with ⟨-, h⟩ | ⟨h, -⟩
      · exact h
      · exact absurd cd h
    generalize hB8 : xu (xu B 127 23 (nI m)) 127 22 0 = B8
    have b22 : B8 127 22 = nI 0 := by rw [← hB8, xu_eq, upd_eq]; rfl
    have b23 : B8 127 23 = nI m := by rw [← hB8, xu_eq, upd_ne (by decide), xu_eq, upd_eq]
    have b21 : B8 127 21 = nI m := by rw [← hB8, xu_eq, upd_ne (by decide), xu_eq, upd_ne (by decide)]; exact m4.2.2
    have bA : ∀ a, a ≠ 127 → B8 a = M a := fun a ha => by rw [← hB8, xu_ne ha, xu_ne ha, m4.1 a ha]
    have bj : ∀ j, j ≠ 21 → j ≠ 22 → j ≠ 23 → B8 127 j = M 127 j := fun j h1 h2 h3 => by rw [← hB8, xu_eq, upd_ne h2, xu_eq, upd_ne h3, m4.2.1 j h1]
    obtain ⟨l1, l2, e, e1, e2, e3, e4, e5, e6, e7⟩ := num_loop (C := A6) (M := B8) (n := n) (m := m) c2 (by rw [bj 19 (by decide) (by decide) (by decide)]; exact t2) t3 (fun i hi => by rw [cA 2 (by decide), bA 138 (by decide)]; exact (t4 i hi).1) c5 ⟨fun _ _ => rfl, fun _ _ _ _ => rfl, b21, b23⟩ m2 b22 p q
    have hem : m < e := by
      rcases Nat.lt_or_ge m e with h | h
      · exact h
      · have he : e = m := by omega
        subst he
        exact absurd (by rw [bA 138 (by decide)]; exact cd) (e7 cm)
    have eM : f_X11_takeNumber M p q = (if 3 < (f_X11_takeNumber_L42 (fu (B8 127 21) (B8 127 19)) B8 p q) 127 21 - (f_X11_takeNumber_L42 (fu (B8 127 21) (B8 127 19)) B8 p q) 127 23 then f_X11_fails (f_X11_takeNumber_L42 (fu (B8 127 21) (B8 127 19)) B8 p q) 2 ((f_X11_takeNumber_L42 (fu (B8 127 21) (B8 127 19)) B8 p q) 127 23) else if f_X11_in (f_X11_takeNumber_L42 (fu (B8 127 21) (B8 127 19)) B8 p q) ((f_X11_takeNumber_L42 (fu (B8 127 21) (B8 127 19)) B8 p q) 127 22).toInt64 p.toInt64 q.toInt64 = 0 then f_X11_fails (f_X11_takeNumber_L42 (fu (B8 127 21) (B8 127 19)) B8 p q) 2 ((f_X11_takeNumber_L42 (fu (B8 127 21) (B8 127 19)) B8 p q) 127 23) else (0, f_X11_takeNumber_L42 (fu (B8 127 21) (B8 127 19)) B8 p q)) := by
      simp only [f_X11_takeNumber, hB, d2, m4.2.2, hB8, pr_eta, ↓reduceIte, eq_self, n10, not_true_eq_false, not_false_eq_true, true_implies, false_implies, true_and, and_true, implies_true, forall_const, Sum.elim_inl, Sum.elim_inr, and_self]
    have sM : s_X11_takeNumber M p q := by
      refine ⟨s2, ?_⟩
      rw [hB]
      dsimp only
      rw [d2, m4.2.2, hB8]
      exact ⟨fun h => absurd h (by decide), fun _ => ⟨l2, trivial⟩⟩
    refine ⟨sC l1, sM, ?_⟩
    rw [eC, eM]
    generalize f_X8_readNumber_L26 (fu (A6 1 5) (A6 1 2)) A6 p q 0 0 = Z at e3 e4 e6 ⊢
    generalize f_X11_takeNumber_L42 (fu (B8 127 21) (B8 127 19)) B8 p q = W at e5 e6 ⊢
    obtain ⟨g, x, z⟩ := Z
    dsimp only at e3 e4 e6 ⊢
    have z13 : z 1 3 = 0 := by rw [e4.2.1 3 (by decide)]; exact c3
    have z16 : z 1 6 = nI m := by rw [e4.2.1 6 (by decide)]; exact c6
    have frz : frC C z := frC_t frA (frC_1 e4.1 (e4.2.1 2 (by decide)))
    have frw : frM M W := frM_1 (fun a ha => by rw [e5.1 a ha, bA a ha]) (fun j hj => by rw [e5.2.1 j (by omega) (by omega) (by omega), bj j (by omega) (by omega) (by omega)])
    have hg0 : ¬ g = 0 := by rw [e3]; exact nI_ne0 (by omega) (by omega)
    have hsub : W 127 21 - W 127 23 = nI (e - m) := by rw [e5.2.2.1, e5.2.2.2, pk_sub e1]
    have flt := blame_fl (C := z) (M := W) (f := 2) (x := m) (k := e) z13 (by omega) (by omega) (by omega) (by omega) e4.2.2
    rw [if_neg hg0, hsub, e3, z16, e5.2.2.2]
    by_cases c3' : 3 < e - m
    · have c3'' : (3 : Int32) < nI (e - m) := by rw [i_3]; exact nI_lt c3' (by omega)
      rw [if_pos c3'', if_pos c3'']
      exact Or.inr (fl_t flt.1 frz frw)
    · have c3'' : ¬ (3 : Int32) < nI (e - m) := by rw [i_3]; exact nI_nlt (by omega) (by omega)
      rw [if_neg c3'', if_neg c3'']
      obtain ⟨v, v1, v2, v3⟩ := e6 (by omega)
      subst v2
      have ein : f_X11_in W (nI v).toInt64 p.toInt64 q.toInt64 = f_X10_within z (nI v) p q := in_within W z (nI v) p q (Int32.toInt_toInt64 p) (Int32.toInt_toInt64 q)
      rw [v3, ein]
      by_cases cw : f_X10_within z (nI v) p q = 0
      · rw [if_pos cw, if_pos cw]
        exact Or.inr (fl_t flt.1 frz frw)
      · rw [if_neg cw, if_neg cw]
        left
        rw [within_eq] at cw
        have gw : p.toInt ≤ (nI v).toInt ∧ (nI v).toInt ≤ q.toInt := Classical.byContradiction (fun h => cw (if_neg h))
        rw [nI_toInt (by omega)] at gw
        refine ⟨v, ⟨v1, gw.1, gw.2, ⟨e, m, e2, m2, ⟨e4.2.2, e5.2.2.1⟩, z16, e5.2.2.2, v3, by rw [p1, nI_toInt (by omega)]; omega⟩, fun a ha => (e4.1 a ha).trans (cA a ha), fun j h1 h2 => (e4.2.1 j h1).trans (cj j h1 h2), fun a ha => (e5.1 a ha).trans (bA a ha), fun j h1 h2 h3 => (e5.2.1 j h1 h2 h3).trans (bj j h1 h2 h3)⟩, rfl, rfl⟩
  · -- no figure there
    have hlet : f_X8_letter A6 = if m < n then C 2 m else -1 := by rw [letter_ok (n := n) c2 t3 c5 (by omega), cA 2 (by decide)]
    have hnd : ¬ dg (if m < n then M 138 m else -1) := by
      by_cases cm : m < n
      · rw [if_pos cm]; exact fun h => cd ⟨cm, h⟩
      · rw [if_neg cm]
        unfold dg
        have : (-1 : Int32).toInt = -1 := by decide
        rw [this]
        omega
    have d2 : f_X11_in B (if m < n then M 138 m else -1).toInt64 48 57 = 0 := by
      rw [dg_in]
      rcases dg_w B (if m < n then M 138 m else -1) with ⟨h, -⟩ | ⟨-, h⟩
      · exact absurd h hnd
      · exact h
    have eM : f_X11_takeNumber M p q = f_X11_fails B 1 (nI m) := by
      simp only [f_X11_takeNumber, hB, d2, m4.2.2, pr_eta, ↓reduceIte, eq_self, n10, not_true_eq_false, not_false_eq_true, true_implies, false_implies, true_and, and_true, implies_true, forall_const, Sum.elim_inl, Sum.elim_inr, and_self]
    have sM : s_X11_takeNumber M p q := by
      refine ⟨s2, ?_⟩
      rw [hB]
      dsimp only
      rw [d2]
      exact ⟨fun _ => trivial, fun h => absurd rfl h⟩
    have hfu : ∃ l, fu (A6 1 5) (A6 1 2) = l + 1 := ⟨n - m + 1, by rw [c5, c2, fu_n m2 (by omega)]⟩
    obtain ⟨l, hl⟩ := hfu
    have hL : f_X8_readNumber_L26 (l + 1) A6 p q 0 0 = (0, 0, A6) ∧ s_X8_readNumber_L26 (l + 1) A6 p q 0 0 := by
      by_cases cm : m < n
      · have x1 : ¬ A6 1 2 ≤ A6 1 5 := by rw [c2, c5]; exact nI_ge cm (by omega)
        rw [if_pos cm] at hlet hnd
        rw [(t4 m cm).1] at hlet
        have x2 : f_X10_within A6 (M 138 m) 48 57 = 0 := by
          rcases dg_w A6 (M 138 m) with ⟨h, -⟩ | ⟨-, h⟩
          · exact absurd h hnd
          · exact h
        simp only [f_X8_readNumber_L26, s_X8_readNumber_L26, x1, hlet, x2, ↓reduceIte, eq_self, n10, not_true_eq_false, not_false_eq_true, true_implies, false_implies, true_and, and_true, implies_true, forall_const, Sum.elim_inl, Sum.elim_inr, and_self]
      · have x1 : A6 1 2 ≤ A6 1 5 := by rw [c2, c5]; exact nI_le (by omega) (by omega)
        simp only [f_X8_readNumber_L26, s_X8_readNumber_L26, x1, ↓reduceIte, eq_self, n10, not_true_eq_false, not_false_eq_true, true_implies, false_implies, true_and, and_true, implies_true, forall_const, Sum.elim_inl, Sum.elim_inr, and_self]
    rw [hl] at eC sC
    rw [hL.1] at eC
    dsimp only at eC
    rw [if_pos rfl, c6] at eC
    refine ⟨sC hL.2, sM, Or.inr ?_⟩
    rw [eC, eM]
    exact fl_t (blame_fl (C := A6) (M := B) (f := 1) (x := m) (k := m) c3 (by omega) (by omega) (by omega) (by omega) c5).1 frA frB
