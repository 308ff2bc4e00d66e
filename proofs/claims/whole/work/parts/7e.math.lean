/-! draws, drift -/
theorem fb_andL (a b : Nat) : lN a &&& lN b = lN (a &&& b) := by
  apply Int64.toBitVec_inj.1
  show BitVec.ofNat 64 a &&& BitVec.ofNat 64 b = BitVec.ofNat 64 (a &&& b)
  apply BitVec.eq_of_getLsbD_eq
  intro i hi
  simp [hi]
def dn (d : Nat) : Nat := (d * 1103515245 + 12345) % 2147483648
theorem dn_lt (d : Nat) : dn d < 2147483648 := Nat.mod_lt _ (by decide)
theorem dn_e {d : Nat} (hd : d < 2147483648) : ((nI d).toInt64 * 1103515245) + 12345 = lN (d * 1103515245 + 12345) := by
  have e1 : (1103515245 : Int64) = lN 1103515245 := rfl
  have e2 : (12345 : Int64) = lN 12345 := rfl
  rw [nI_l (by omega), e1, e2, lN_mul, lN_add]
theorem dn_1 {d : Nat} (hd : d < 2147483648) : ((((nI d).toInt64 * 1103515245) + 12345) &&& 2147483647).toInt32 = nI (dn d) := by
  have e3 : (2147483647 : Int64) = lN (2 ^ 31 - 1) := rfl
  rw [dn_e hd, e3, fb_andL, Nat.and_two_pow_sub_one_eq_mod, lN_i]
  rfl
theorem dn_2 {d : Nat} (hd : d < 2147483648) : ((((nI d).toInt64 * 1103515245) + 12345) - (((nI d).toInt64 * 1103515245) + 12345) / 2147483648 * 2147483648).toInt32 = nI (dn d) := by
  have e3 : (2147483648 : Int64) = lN 2147483648 := rfl
  rw [dn_e hd, e3, pk_lRem (by omega) (by omega) (by omega), lN_i]
  rfl
theorem dn_3 (d : Nat) {n : Nat} (h0 : 0 < n) (hn : n < 1000) : nI (dn d) / 65536 - nI (dn d) / 65536 / nI n * nI n = nI (dn d / 65536 % n) := by
  have h := dn_lt d
  have e3 : (65536 : Int32) = nI 65536 := rfl
  have h2 : dn d / 65536 ≤ dn d := Nat.div_le_self _ _
  rw [e3, pk_div (by omega) (by omega) (by omega), pk_rem (by omega) h0 (by omega)]
theorem nx_ok {S : xS} {d n : Nat} (h : S 26 0 = nI d) (hd : d < 2147483648) (h0 : 0 < n) (hn : n < 1000) : f_X1_next S (nI n) = (nI (dn d / 65536 % n), xu S 26 0 (nI (dn d))) := by
  unfold f_X1_next
  dsimp only
  rw [h, dn_1 hd, if_neg (nI_nle h0 (by omega)), xu_eq, upd_eq, dn_3 d h0 hn]
theorem dr_ok {S : xS} {d n : Nat} (h : S 127 10 = nI d) (hd : d < 2147483648) (h0 : 0 < n) (hn : n < 1000) : s_X11_draw S (nI n) ∧ f_X11_draw S (nI n) = (nI (dn d / 65536 % n), xu S 127 10 (nI (dn d))) := by
  refine ⟨⟨nI_ne0 h0 (by omega), trivial⟩, ?_⟩
  unfold f_X11_draw
  dsimp only
  rw [h, dn_2 hd, xu_eq, upd_eq, dn_3 d h0 hn]
/-- what a draw leaves alike -/
def chP (U V : xS) (R P B : Nat) (a b : xS) : Prop := Q2 a b R P B 131 ∧ (∃ d, d < 2147483648 ∧ a 26 0 = nI d ∧ b 127 10 = nI d) ∧ (∀ k, k ≠ 26 → k ≠ 32 → k ≠ 33 → k ≠ 36 → a k = U k) ∧ (∀ k, k ≠ 127 → k ≠ 131 → b k = V k) ∧ ∀ j, j ≠ 10 → b 127 j = V 127 j
section DR
variable {U V : xS} {R P B : Nat}
theorem ch_fin {a b c e : xS} {d : Nat} (q : Q2 U V R P B 131) (hd : d < 2147483648) (ca : ∀ k, k ≠ 26 → c k = U k) (c26 : c 26 0 = nI d) (eb : ∀ k, k ≠ 127 → e k = V k) (e7 : ∀ j, j ≠ 10 → e 127 j = V 127 j) (e10 : e 127 10 = nI d) (ha : ∀ k, k ≠ 32 → k ≠ 33 → k ≠ 36 → a k = c k) (hb : ∀ k, k ≠ 131 → b k = e k) (ht : ∀ j, j < 72 → tk a 32 j = b 131 j) (hv : vr R P B (b 131)) : chP U V R P B a b := by
  refine ⟨Q2_cg7 q (fun k _ _ => by rw [ha k (by omega) (by omega) (by omega), ca k (by omega)]) (fun j _ h2 => by rw [hb 127 (by decide), e7 j h2]) (fun k _ _ => by rw [hb k (by omega), eb k (by omega)]) ht hv, ⟨d, hd, by rw [ha 26 (by decide) (by decide) (by decide)]; exact c26, by rw [hb 127 (by decide)]; exact e10⟩, fun k h1 h2 h3 h4 => by rw [ha k h2 h3 h4, ca k h1], fun k h1 h2 => by rw [hb k h2, eb k h1], fun j hj => by rw [hb 127 (by decide), e7 j hj]⟩
theorem chance_ok {d : Nat} (q : Q2 U V R P B 131) (h0 : 0 < P) (hd : d < 2147483648) (hu : U 26 0 = nI d) (hv : V 127 10 = nI d) : s_X11_chance V ∧ chP U V R P B (f_X10_drawDeed U) (f_X11_chance V) := by
  have hP := xhP q.1
  have hR := xhR q.1
  have hR2 : 2 ≤ R := q.1.2.2.1 h0
  have u9 : U 9 9 = nI P := xhP9 (S := mg U V) q.1
  have v7 : V 127 6 = nI P := xhP7 (S := mg U V) q.1
  have u5 : U 9 5 = nI R := xhR9 (S := mg U V) q.1
  have v0 : V 127 0 = nI R := xhR7 (S := mg U V) q.1
  have n1 := nx_ok hu hd (n := 4) (by omega) (by omega)
  obtain ⟨ds1, m1⟩ := dr_ok hv hd (n := 4) (by omega) (by omega)
  generalize hx1 : dn d / 65536 % 4 = x1 at n1 m1
  have hd1 := dn_lt d
  generalize dn d = d1 at n1 m1 hd1
  generalize hA1 : xu U 26 0 (nI d1) = A1 at n1
  generalize hE1 : xu V 127 10 (nI d1) = E1 at m1
  have a1 : ∀ k, k ≠ 26 → A1 k = U k := fun k hk => by rw [← hA1, xu_ne hk]
  have a1d : A1 26 0 = nI d1 := by rw [← hA1, xu_eq, upd_eq]
  have b1 : ∀ k, k ≠ 127 → E1 k = V k := fun k hk => by rw [← hE1, xu_ne hk]
  have b1j : ∀ j, j ≠ 10 → E1 127 j = V 127 j := fun j hj => by rw [← hE1, xu_eq, upd_ne hj]
  have b1d : E1 127 10 = nI d1 := by rw [← hE1, xu_eq, upd_eq]
  have n2 := nx_ok a1d hd1 (n := P) h0 (by omega)
  obtain ⟨ds2, m2⟩ := dr_ok b1d hd1 (n := P) h0 (by omega)
  have hp : dn d1 / 65536 % P < P := Nat.mod_lt _ h0
  generalize dn d1 / 65536 % P = p at n2 m2 hp
  have hd2 := dn_lt d1
  generalize dn d1 = d2 at n2 m2 hd2
  generalize hA2 : xu A1 26 0 (nI d2) = A2 at n2
  generalize hE2 : xu E1 127 10 (nI d2) = E2 at m2
  have a2 : ∀ k, k ≠ 26 → A2 k = U k := fun k hk => by rw [← hA2, xu_ne hk, a1 k hk]
  have a2d : A2 26 0 = nI d2 := by rw [← hA2, xu_eq, upd_eq]
  have b2 : ∀ k, k ≠ 127 → E2 k = V k := fun k hk => by rw [← hE2, xu_ne hk, b1 k hk]
  have b2j : ∀ j, j ≠ 10 → E2 127 j = V 127 j := fun j hj => by rw [← hE2, xu_eq, upd_ne hj, b1j j hj]
  have b2d : E2 127 10 = nI d2 := by rw [← hE2, xu_eq, upd_eq]
  have w9 : A1 9 9 = nI P := by rw [a1 9 (by decide)]; exact u9
  have w6 : E1 127 6 = nI P := by rw [b1j 6 (by decide)]; exact v7
  have z9 : 0 < U 9 9 := by rw [u9]; exact nI_lt (a := 0) h0 (by omega)
  have t2 : ∀ j, j < 72 → tk A2 32 j = V 131 j := fun j hj => by
    rw [tk_cg (S := U) (fun i hi => a2 _ (by omega))]
    exact q.2.1 j hj
  have v2 : vp_in (2 + nI p) 72 := by rw [ix2]; exact vp_in_nI (by omega) (by decide)
  have hx4 : x1 < 4 := by rw [← hx1]; exact Nat.mod_lt _ (by omega)
  have n1 : f_X1_next U 4 = (nI x1, A1) := n1
  have m1 : f_X11_draw V 4 = (nI x1, E1) := m1
  have ds1 : s_X11_draw V 4 := ds1
  have row2 : E2 131 = V 131 := b2 131 (by decide)
  by_cases c0 : x1 = 0
  · subst c0
    have i0 : nI 0 = (0 : Int32) := rfl
    have w5 : A2 9 5 = nI R := by rw [a2 9 (by decide)]; exact u5
    have w0 : E2 127 0 = nI R := by rw [b2j 0 (by decide)]; exact v0
    have n3 := nx_ok a2d hd2 (n := R) (by omega) (by omega)
    obtain ⟨ds3, m3⟩ := dr_ok b2d hd2 (n := R) (by omega) (by omega)
    have hr : dn d2 / 65536 % R < R := Nat.mod_lt _ (by omega)
    generalize dn d2 / 65536 % R = r at n3 m3 hr
    have hd3 := dn_lt d2
    generalize dn d2 = d3 at n3 m3 hd3
    generalize hA3 : xu A2 26 0 (nI d3) = A3 at n3
    generalize hE3 : xu E2 127 10 (nI d3) = E3 at m3
    have a3 : ∀ k, k ≠ 26 → A3 k = U k := fun k hk => by rw [← hA3, xu_ne hk, a2 k hk]
    have a3d : A3 26 0 = nI d3 := by rw [← hA3, xu_eq, upd_eq]
    have b3 : ∀ k, k ≠ 127 → E3 k = V k := fun k hk => by rw [← hE3, xu_ne hk, b2 k hk]
    have b3j : ∀ j, j ≠ 10 → E3 127 j = V 127 j := fun j hj => by rw [← hE3, xu_eq, upd_ne hj, b2j j hj]
    have b3d : E3 127 10 = nI d3 := by rw [← hE3, xu_eq, upd_eq]
    obtain ⟨g1, g2⟩ := q_rm q hp
    have g3 : f_X10_at A3 33 (nI p) = nI (rmN V 131 p) := by
      unfold f_X10_at
      rw [a3 33 (by decide)]
      exact q_at q hp
    have g4 : f_X2_isWay A3 9 (nI (rmN V 131 p)) (nI r) = f_X11_has E3 (V 129 (rmN V 131 p)) (nI r) := by
      have e := way_eq q.1 g1 hr
      unfold f_X2_isWay f_X10_at at e ⊢
      dsimp only at e ⊢
      rw [show (9 + 2 : Nat) = 11 from rfl] at e ⊢
      rw [mgU (by decide), mgV (by decide)] at e
      rw [a3 11 (by decide)]
      exact e
    have hrow : E3 131 = V 131 := b3 131 (by decide)
    have h129 : E3 129 = V 129 := b3 129 (by decide)
    have tt : ∀ j, j < 72 → tk A3 32 j = V 131 j := fun j hj => by
      rw [tk_cg (S := U) (fun i hi => a3 _ (by omega))]
      exact q.2.1 j hj
    have v6 : vp_in (nI (rmN V 131 p)) 6 := vp_in_nI (by omega) (by decide)
    have sC : s_X11_chance V := by
      unfold s_X11_chance
      simp only [m1, w6, m2, ds1, ds2, i0, w0, m3, ds3, v2, c2n (show p < 1000000 by omega), hrow, g2, v6, ↓reduceIte, eq_self, n10, not_true_eq_false, not_false_eq_true, true_implies, false_implies, true_and, and_true, implies_true, forall_const, Sum.elim_inl, Sum.elim_inr, and_self]
    refine ⟨sC, ?_⟩
    by_cases gw : f_X11_has E3 (V 129 (rmN V 131 p)) (nI r) = 0
    · have eD : f_X10_drawDeed U = A3 := by
        unfold f_X10_drawDeed
        simp only [z9, n1, w9, n2, i0, w5, n3, g3, g4, gw, ↓reduceIte, eq_self, n10, not_true_eq_false, not_false_eq_true, true_implies, false_implies, true_and, and_true, implies_true, forall_const, Sum.elim_inl, Sum.elim_inr, and_self]
      have eC : f_X11_chance V = xu E3 131 (2 + p) (nI (rmN V 131 p)) := by
        unfold f_X11_chance
        simp only [m1, w6, m2, i0, w0, m3, c2n (show p < 1000000 by omega), hrow, g2, cn (show rmN V 131 p < 1000000 by omega), h129, gw, ↓reduceIte, eq_self, n10, not_true_eq_false, not_false_eq_true, true_implies, false_implies, true_and, and_true, implies_true, forall_const, Sum.elim_inl, Sum.elim_inr, and_self]
      rw [eD, eC]
      have er : ∀ j, xu E3 131 (2 + p) (nI (rmN V 131 p)) 131 j = V 131 j := fun j => by
        rw [xu_eq]
        by_cases c : j = 2 + p
        · rw [c, upd_eq, g2]
        · rw [upd_ne c, hrow]
      refine ch_fin q hd3 a3 a3d b3 b3j b3d (fun _ _ _ _ => rfl) (fun k hk => by rw [xu_ne hk]) (fun j hj => by rw [er, tt j hj]) (vr_cg hP q.2.2 (fun j _ => er j))
    · have eP : f_X10_put A3 33 (nI p) (nI r) = xu A3 33 p (nI r) := put_in (N := 7) rfl (by omega) (by decide)
      have eD : f_X10_drawDeed U = xu A3 33 p (nI r) := by
        unfold f_X10_drawDeed
        simp only [z9, n1, w9, n2, i0, w5, n3, g3, g4, gw, eP, ↓reduceIte, eq_self, n10, not_true_eq_false, not_false_eq_true, true_implies, false_implies, true_and, and_true, implies_true, forall_const, Sum.elim_inl, Sum.elim_inr, and_self]
      have eC : f_X11_chance V = xu E3 131 (2 + p) (nI r) := by
        unfold f_X11_chance
        simp only [m1, w6, m2, i0, w0, m3, c2n (show p < 1000000 by omega), hrow, g2, cn (show rmN V 131 p < 1000000 by omega), h129, gw, ↓reduceIte, eq_self, n10, not_true_eq_false, not_false_eq_true, true_implies, false_implies, true_and, and_true, implies_true, forall_const, Sum.elim_inl, Sum.elim_inr, and_self]
      rw [eD, eC]
      have er : xu E3 131 (2 + p) (nI r) 131 = upd (V 131) (2 + p) (nI r) := by rw [xu_eq, hrow]
      refine ch_fin q hd3 a3 a3d b3 b3j b3d (fun k h1 h2 h3 => by rw [xu_ne h2]) (fun k hk => by rw [xu_ne hk]) (fun j hj => ?_) (by rw [er]; exact vr_room q.2.2 (by omega) hr)
      rw [er, tk_33 (by omega) _ hj]
      by_cases c : j = 2 + p
      · rw [if_pos c, c, upd_eq]
      · rw [if_neg c, upd_ne c]; exact tt j hj
  · have cn0 : ¬ nI x1 = (0 : Int32) := nI_ne0 (by omega) (by omega)
    by_cases c1 : x1 = 1
    · subst c1
      have i1 : nI 1 = (1 : Int32) := rfl
      obtain ⟨w, w1, w2⟩ := q.2.2.2.1
      have uc : A2 32 4 = nI w := by rw [a2 32 (by decide), ← w2]; exact q.2.1 1 (by omega)
      have ev : E2 131 1 = nI w := by rw [row2, w2]
      have sC : s_X11_chance V := by
        unfold s_X11_chance
        simp only [m1, w6, m2, ds1, ds2, i1, ↓reduceIte, eq_self, n10, not_true_eq_false, not_false_eq_true, true_implies, false_implies, true_and, and_true, implies_true, forall_const, Sum.elim_inl, Sum.elim_inr, and_self]
      have eD : f_X10_drawDeed U = xu A2 32 4 (nI (w ||| 2 ^ p)) := by
        unfold f_X10_drawDeed
        simp only [z9, n1, w9, n2, i1, uc, bit_k A2 (show p ≤ 30 by omega), fa_or, ↓reduceIte, eq_self, n10, not_true_eq_false, not_false_eq_true, true_implies, false_implies, true_and, and_true, implies_true, forall_const, Sum.elim_inl, Sum.elim_inr, and_self]
      have eC : f_X11_chance V = xu E2 131 1 (nI (w ||| 2 ^ p)) := by
        unfold f_X11_chance
        simp only [m1, w6, m2, i1, c_1, ev, shl_k (show p ≤ 30 by omega), fa_or, ↓reduceIte, eq_self, n10, not_true_eq_false, not_false_eq_true, true_implies, false_implies, true_and, and_true, implies_true, forall_const, Sum.elim_inl, Sum.elim_inr, and_self]
      refine ⟨sC, ?_⟩
      rw [eD, eC]
      have er : xu E2 131 1 (nI (w ||| 2 ^ p)) 131 = upd (V 131) 1 (nI (w ||| 2 ^ p)) := by rw [xu_eq, row2]
      refine ch_fin q hd2 a2 a2d b2 b2j b2d (fun k h1 h2 h3 => by rw [xu_ne h1]) (fun k hk => by rw [xu_ne hk]) (fun j hj => ?_) (by rw [er]; exact vr_cough q.2.2 (or_lt w1 (pw_lt hp)))
      rw [er, tk_32 _ hj]
      by_cases c : j = 1
      · rw [if_pos c, c, upd_eq]
      · rw [if_neg c, upd_ne c]; exact t2 j hj
    · have cn1 : ¬ nI x1 = (1 : Int32) := fun e => c1 (nI_inj (b := 1) (by omega) (by decide) e)
      by_cases c2 : x1 = 2
      · subst c2
        have i2 : nI 2 = (2 : Int32) := rfl
        have j20 : ((2 : Int32) = 0) = False := eq_false (by decide)
        have j21 : ((2 : Int32) = 1) = False := eq_false (by decide)
        have w9' : A2 9 9 = nI P := by rw [a2 9 (by decide)]; exact u9
        have w6' : E2 127 6 = nI P := by rw [b2j 6 (by decide)]; exact v7
        have n3 := nx_ok a2d hd2 (n := P) h0 (by omega)
        obtain ⟨ds3, m3⟩ := dr_ok b2d hd2 (n := P) h0 (by omega)
        have hs : dn d2 / 65536 % P < P := Nat.mod_lt _ h0
        generalize dn d2 / 65536 % P = s at n3 m3 hs
        have hd3 := dn_lt d2
        generalize dn d2 = d3 at n3 m3 hd3
        generalize hA3 : xu A2 26 0 (nI d3) = A3 at n3
        generalize hE3 : xu E2 127 10 (nI d3) = E3 at m3
        have a3 : ∀ k, k ≠ 26 → A3 k = U k := fun k hk => by rw [← hA3, xu_ne hk, a2 k hk]
        have a3d : A3 26 0 = nI d3 := by rw [← hA3, xu_eq, upd_eq]
        have b3 : ∀ k, k ≠ 127 → E3 k = V k := fun k hk => by rw [← hE3, xu_ne hk, b2 k hk]
        have b3j : ∀ j, j ≠ 10 → E3 127 j = V 127 j := fun j hj => by rw [← hE3, xu_eq, upd_ne hj, b2j j hj]
        have b3d : E3 127 10 = nI d3 := by rw [← hE3, xu_eq, upd_eq]
        have n4 := nx_ok a3d hd3 (n := 10) (by omega) (by omega)
        obtain ⟨ds4, m4⟩ := dr_ok b3d hd3 (n := 10) (by omega) (by omega)
        have hl : dn d3 / 65536 % 10 < 10 := Nat.mod_lt _ (by omega)
        generalize dn d3 / 65536 % 10 = v at n4 m4 hl
        have hd4 := dn_lt d3
        generalize dn d3 = d4 at n4 m4 hd4
        generalize hA4 : xu A3 26 0 (nI d4) = A4 at n4
        generalize hE4 : xu E3 127 10 (nI d4) = E4 at m4
        have a4 : ∀ k, k ≠ 26 → A4 k = U k := fun k hk => by rw [← hA4, xu_ne hk, a3 k hk]
        have a4d : A4 26 0 = nI d4 := by rw [← hA4, xu_eq, upd_eq]
        have b4 : ∀ k, k ≠ 127 → E4 k = V k := fun k hk => by rw [← hE4, xu_ne hk, b3 k hk]
        have b4j : ∀ j, j ≠ 10 → E4 127 j = V 127 j := fun j hj => by rw [← hE4, xu_eq, upd_ne hj, b3j j hj]
        have b4d : E4 127 10 = nI d4 := by rw [← hE4, xu_eq, upd_eq]
        have n4 : f_X1_next A3 10 = (nI v, A4) := n4
        have m4 : f_X11_draw E3 10 = (nI v, E4) := m4
        have ds4 : s_X11_draw E3 10 := ds4
        have row4 : E4 131 = V 131 := b4 131 (by decide)
        have tt : ∀ j, j < 72 → tk A4 32 j = V 131 j := fun j hj => by
          rw [tk_cg (S := U) (fun i hi => a4 _ (by omega))]
          exact q.2.1 j hj
        have v3 : vp_in (23 + 7 * nI p + nI s) 72 := by rw [ix23]; exact vp_in_nI (by omega) (by decide)
        have k23 := c23n (p := p) (q := s) (by omega) (by omega)
        have sC : s_X11_chance V := by
          unfold s_X11_chance
          simp only [m1, w6, m2, ds1, ds2, i2, j20, j21, w6', m3, ds3, m4, ds4, v3, ↓reduceIte, eq_self, n10, not_true_eq_false, not_false_eq_true, true_implies, false_implies, true_and, and_true, implies_true, forall_const, Sum.elim_inl, Sum.elim_inr, and_self]
        refine ⟨sC, ?_⟩
        by_cases cs : s = p
        · subst cs
          have eD : f_X10_drawDeed U = A4 := by
            unfold f_X10_drawDeed
            simp only [z9, n1, w9, n2, i2, j20, j21, w9', n3, n4, ↓reduceIte, eq_self, n10, not_true_eq_false, not_false_eq_true, true_implies, false_implies, true_and, and_true, implies_true, forall_const, Sum.elim_inl, Sum.elim_inr, and_self]
          have eC : f_X11_chance V = xu E4 131 (23 + (7 * s + s)) (V 131 (23 + (7 * s + s))) := by
            unfold f_X11_chance
            simp only [m1, w6, m2, i2, j20, j21, w6', m3, m4, k23, row4, ↓reduceIte, eq_self, n10, not_true_eq_false, not_false_eq_true, true_implies, false_implies, true_and, and_true, implies_true, forall_const, Sum.elim_inl, Sum.elim_inr, and_self]
          rw [eD, eC]
          have er : ∀ j, xu E4 131 (23 + (7 * s + s)) (V 131 (23 + (7 * s + s))) 131 j = V 131 j := fun j => by
            rw [xu_eq]
            by_cases c : j = 23 + (7 * s + s)
            · rw [c, upd_eq]
            · rw [upd_ne c, row4]
          refine ch_fin q hd4 a4 a4d b4 b4j b4d (fun _ _ _ _ => rfl) (fun k hk => by rw [xu_ne hk]) (fun j hj => by rw [er, tt j hj]) (vr_cg hP q.2.2 (fun j _ => er j))
        · have cs' : ¬ nI s = nI p := fun e => cs (nI_inj (by omega) (by omega) e)
          have ev : f_X10_pairIndex A4 (nI p) (nI s) = nI (7 * p + s) := by unfold f_X10_pairIndex; exact pair_nI p s
          have eP : f_X10_put A4 36 (nI (7 * p + s)) (nI v) = xu A4 36 (7 * p + s) (nI v) := put_in (N := 49) rfl (by omega) (by decide)
          have eD : f_X10_drawDeed U = xu A4 36 (7 * p + s) (nI v) := by
            unfold f_X10_drawDeed
            simp only [z9, n1, w9, n2, i2, j20, j21, w9', n3, n4, cs', ev, eP, ↓reduceIte, eq_self, n10, not_true_eq_false, not_false_eq_true, true_implies, false_implies, true_and, and_true, implies_true, forall_const, Sum.elim_inl, Sum.elim_inr, and_self]
          have eC : f_X11_chance V = xu E4 131 (23 + (7 * p + s)) (nI v) := by
            unfold f_X11_chance
            simp only [m1, w6, m2, i2, j20, j21, w6', m3, m4, cs', k23, ↓reduceIte, eq_self, n10, not_true_eq_false, not_false_eq_true, true_implies, false_implies, true_and, and_true, implies_true, forall_const, Sum.elim_inl, Sum.elim_inr, and_self]
          rw [eD, eC]
          have er : xu E4 131 (23 + (7 * p + s)) (nI v) 131 = upd (V 131) (23 + (7 * p + s)) (nI v) := by rw [xu_eq, row4]
          refine ch_fin q hd4 a4 a4d b4 b4j b4d (fun k h1 h2 h3 => by rw [xu_ne h3]) (fun k hk => by rw [xu_ne hk]) (fun j hj => ?_) (by rw [er]; exact vr_like hP q.2.2 (by omega))
          rw [er, tk_36 _ hj]
          by_cases c : j = 23 + (7 * p + s)
          · rw [if_pos c, c, upd_eq]
          · rw [if_neg c, upd_ne c]; exact tt j hj
      · have cn2 : ¬ nI x1 = (2 : Int32) := fun e => c2 (nI_inj (b := 2) (by omega) (by decide) e)
        have sC : s_X11_chance V := by
          unfold s_X11_chance
          simp only [m1, w6, m2, ds1, ds2, cn0, cn1, cn2, ↓reduceIte, eq_self, n10, not_true_eq_false, not_false_eq_true, true_implies, false_implies, true_and, and_true, implies_true, forall_const, Sum.elim_inl, Sum.elim_inr, and_self]
        have eD : f_X10_drawDeed U = A2 := by
          unfold f_X10_drawDeed
          simp only [z9, n1, w9, n2, cn0, cn1, cn2, ↓reduceIte, eq_self, n10, not_true_eq_false, not_false_eq_true, true_implies, false_implies, true_and, and_true, implies_true, forall_const, Sum.elim_inl, Sum.elim_inr, and_self]
        have eC : f_X11_chance V = E2 := by
          unfold f_X11_chance
          simp only [m1, w6, m2, cn0, cn1, cn2, ↓reduceIte, eq_self, n10, not_true_eq_false, not_false_eq_true, true_implies, false_implies, true_and, and_true, implies_true, forall_const, Sum.elim_inl, Sum.elim_inr, and_self]
        refine ⟨sC, ?_⟩
        rw [eD, eC]
        exact ch_fin q hd2 a2 a2d b2 b2j b2d (fun _ _ _ _ => rfl) (fun _ _ => rfl) (fun j hj => by rw [row2]; exact t2 j hj) (by rw [row2]; exact q.2.2)
/-- the class's deed where there is nobody -/
theorem deed_0 (h : U 9 9 = nI 0) : f_X10_drawDeed U = U := by
  unfold f_X10_drawDeed
  rw [h, if_neg (by decide)]
def drI (U V : xS) (R P B : Nat) (a b : xS) : Prop := Q2 a b R P B 131 ∧ (∃ d, d < 2147483648 ∧ a 26 0 = nI d ∧ b 127 10 = nI d) ∧ (∀ k, k ≠ 26 → (k < 32 ∨ 37 ≤ k) → a k = U k) ∧ (∀ k, k ≠ 127 → k ≠ 131 → b k = V k) ∧ ∀ j, j ≠ 10 → b 127 j = V 127 j
theorem drift_loop {nn d : Nat} (q : Q2 U V R P B 131) (hB : B + nn ≤ 100000) (hd : d < 2147483648) (hu : U 26 0 = nI d) (hv : V 127 10 = nI d) : s_X10_drift_L25 (fu 0 (nI nn)) U (nI nn) 0 ∧ s_X11_drift_L18 (fu 0 (nI nn)) V (nI nn) 0 ∧ drI U V R P (B + nn) (f_X10_drift_L25 (fu 0 (nI nn)) U (nI nn) 0) (f_X11_drift_L18 (fu 0 (nI nn)) V (nI nn) 0) := by
  have key := xl_b0 (α := xS) (β := xS) (γ := xS × Prop) (δ := xS × Prop)
    (fun n a x => (f_X10_drift_L25 n a (nI nn) x, s_X10_drift_L25 n a (nI nn) x))
    (fun n b x => (f_X11_drift_L18 n b (nI nn) x, s_X11_drift_L18 n b (nI nn) x))
    (fun z w => z.2 ∧ w.2 ∧ drI U V R P (B + nn) z.1 w.1) nn (fun i a b => drI U V R P (B + i) a b)
    (fun n k a b hI => by
      have l : nI nn ≤ nI nn := nI_le (Nat.le_refl _) (by omega)
      simp only [f_X10_drift_L25, s_X10_drift_L25, f_X11_drift_L18, s_X11_drift_L18, l, ↓reduceIte, eq_self, n10, not_true_eq_false, not_false_eq_true, true_implies, false_implies, true_and, and_true, implies_true, forall_const, Sum.elim_inl, Sum.elim_inr, and_self]
      exact hI)
    (fun n k a b i hi hI => by
      obtain ⟨q', ⟨e, e1, e2, e3⟩, d1, d2, d3⟩ := hI
      have hP := xhP q'.1
      have l : ¬ nI nn ≤ nI i := nI_ge hi (by omega)
      have a9 : a 9 9 = nI P := xhP9 (S := mg a b) q'.1
      have b7 : b 127 6 = nI P := xhP7 (S := mg a b) q'.1
      by_cases h0 : P = 0
      · subst h0
        obtain ⟨⟨h, hh, eh⟩, -⟩ := q'.2.2
        obtain ⟨p1, p2, p3⟩ := pass_ok q' (Or.inl rfl) (by omega) hh eh
        obtain ⟨r1, r2, r3, -⟩ := p3
        have b7' : b 127 6 ≤ 0 := by rw [b7]; decide
        refine Or.inr ⟨f_X4_passHour a, f_X11_passes b 131, ⟨r1, ⟨e, e1, by rw [r2 26 (by decide) (by decide) (by decide)]; exact e2, by rw [r3 127 (by decide)]; exact e3⟩, fun k h1 h2 => by rw [r2 k (by omega) (by omega) (by omega), d1 k h1 h2], fun k h1 h2 => by rw [r3 k h2, d2 k h1 h2], fun j hj => by rw [r3 127 (by decide), d3 j hj]⟩, fun ⟨h1, h2, h3⟩ => ?_⟩
        dsimp only at h1 h2 h3 ⊢
        simp only [f_X10_drift_L25, s_X10_drift_L25, f_X11_drift_L18, s_X11_drift_L18, l, p1, p2, deed_0 a9, b7', nI_1, ↓reduceIte, eq_self, n10, not_true_eq_false, not_false_eq_true, true_implies, false_implies, true_and, and_true, implies_true, forall_const, Sum.elim_inl, Sum.elim_inr, and_self]
        exact ⟨h1, h2, h3⟩
      · have b7' : ¬ b 127 6 ≤ 0 := by rw [b7]; exact nI_nle (by omega) (by omega)
        obtain ⟨c1, c2, ⟨e', f1, f2, f3⟩, c4, c5, c6⟩ := chance_ok q' (by omega) e1 e2 e3
        obtain ⟨⟨h, hh, eh⟩, -⟩ := c2.2.2
        obtain ⟨p1, p2, p3⟩ := pass_ok c2 (Or.inl rfl) (by omega) hh eh
        obtain ⟨r1, r2, r3, -⟩ := p3
        refine Or.inr ⟨f_X4_passHour (f_X10_drawDeed a), f_X11_passes (f_X11_chance b) 131, ⟨r1, ⟨e', f1, by rw [r2 26 (by decide) (by decide) (by decide)]; exact f2, by rw [r3 127 (by decide)]; exact f3⟩, fun k h1 h2 => by rw [r2 k (by omega) (by omega) (by omega), c4 k h1 (by omega) (by omega) (by omega), d1 k h1 h2], fun k h1 h2 => by rw [r3 k h2, c5 k h1 h2, d2 k h1 h2], fun j hj => by rw [r3 127 (by decide), c6 j hj, d3 j hj]⟩, fun ⟨h1, h2, h3⟩ => ?_⟩
        dsimp only at h1 h2 h3 ⊢
        simp only [f_X10_drift_L25, s_X10_drift_L25, f_X11_drift_L18, s_X11_drift_L18, l, p1, p2, c1, b7', nI_1, ↓reduceIte, eq_self, n10, not_true_eq_false, not_false_eq_true, true_implies, false_implies, true_and, and_true, implies_true, forall_const, Sum.elim_inl, Sum.elim_inr, and_self]
        exact ⟨h1, h2, h3⟩)
    (n := fu 0 (nI nn)) (m := fu 0 (nI nn)) U V (by rw [fu_0 (by omega)]; omega) (by rw [fu_0 (by omega)]; omega) ⟨q, ⟨d, hd, hu, hv⟩, fun _ _ _ => rfl, fun _ _ _ => rfl, fun _ _ => rfl⟩
  exact key
end DR
theorem op_drift {S : xS} (h : xR S) (p0 : Int32) : s_X10_drift S p0 ∧ s_X11_drift ((f_X10_drift S p0).2) p0 ∧ (f_X10_drift S p0).1 = (f_X11_drift ((f_X10_drift S p0).2) p0).1 ∧ xR ((f_X11_drift ((f_X10_drift S p0).2) p0).2) := by
  obtain ⟨h1, h2, ⟨R, P, hh, hk, hv, hp, hb, hi⟩, h4, ⟨d, d1, d2, d3⟩⟩ := id h
  have hP := xhP hh
  obtain ⟨u1, u2⟩ := remU hp
  have er := refuse_eq hh hk p0
  by_cases g : f_X10_refusalOfHours S p0 = 0
  · obtain ⟨n, n1, n2, rfl, c⟩ := refuse_0 g
    have v9 := vr_9000 hk (vr_131 hP hv) c
    have tU : ∀ j, j < 72 → tk (f_X6_remember S 32) 32 j = S 131 j := fun j hj => by
      rw [tk_cg (S := S) (fun i hi => u2 _ (by omega) (by omega))]
      exact tk_131 hk j hj
    have qS : Q2 (f_X6_remember S 32) S R P 9000 131 := Q2_cg (Q2_of hh hk hv) (fun k _ _ => u2 k (by omega) (by omega)) (fun _ _ _ => rfl) tU v9
    have u26 : f_X6_remember S 32 26 0 = nI d := by rw [u2 26 (by decide) (by omega)]; exact d2
    obtain ⟨l1, -, -, -, l4, -, -⟩ := drift_loop (nn := n) qS (by omega) d1 u26 d3
    have e : f_X10_drift S (nI n) = (f_X10_drift_L25 (fu 0 (nI n)) (f_X6_remember S 32) (nI n) 0 32 5, f_X10_drift_L25 (fu 0 (nI n)) (f_X6_remember S 32) (nI n) 0) := by
      unfold f_X10_drift
      dsimp only
      rw [if_pos g]
    refine ⟨⟨fun _ => ⟨u1, l1, trivial⟩, fun q => absurd g q⟩, ?_⟩
    rw [e]
    dsimp only
    generalize hA : f_X10_drift_L25 (fu 0 (nI n)) (f_X6_remember S 32) (nI n) 0 = A at l4
    have eS : ∀ a, 127 ≤ a → A a = S a := fun a q => by rw [l4 a (by omega) (by omega), u2 a (by omega) (by omega)]
    obtain ⟨r1, r2, r3⟩ := remV (U1 := A) hp (eS 127 (by omega))
    have qV : Q2 (f_X6_remember S 32) (f_X11_remember A) R P 9000 131 := Q2_cg7 qS (fun _ _ _ => rfl) (fun j q1 _ => by rw [r3 j q1, eS 127 (by omega)]) (fun k _ _ => by rw [r2 k (by omega) (by omega), eS k (by omega)]) (fun j hj => by rw [r2 131 (by decide) (by decide), eS 131 (by omega)]; exact tU j hj) (by rw [r2 131 (by decide) (by decide), eS 131 (by omega)]; exact v9)
    have v10 : f_X11_remember A 127 10 = nI d := by rw [r3 10 (by decide), eS 127 (by omega)]; exact d3
    obtain ⟨-, m2, m3, m3d, -, m5, m6⟩ := drift_loop (nn := n) qV (by omega) d1 u26 v10
    rw [hA] at m3 m3d
    have er2 : f_X11_hoursRefused A (nI n) = 0 := by rw [refuse_cg (by rw [eS 127 (by omega)]) (eS 131 (by omega)), er]; exact g
    have e' : f_X11_drift A (nI n) = (f_X11_drift_L18 (fu 0 (nI n)) (f_X11_remember A) (nI n) 0 131 0, f_X11_drift_L18 (fu 0 (nI n)) (f_X11_remember A) (nI n) 0) := by
      unfold f_X11_drift
      dsimp only
      rw [if_pos er2, c_0]
    refine ⟨⟨fun _ => ⟨r1, m2, trivial⟩, fun q => absurd er2 q⟩, ?_⟩
    rw [e']
    dsimp only
    generalize f_X11_drift_L18 (fu 0 (nI n)) (f_X11_remember A) (nI n) 0 = E at m3 m3d m5 m6
    obtain ⟨x, x1, x2, x3⟩ := m3d
    refine ⟨m3.2.1 0 (by omega), rem_fin (U1 := A) h1 h2 hh hk hv hp hb hi h4 (fun a q1 q => l4 a q1 q) (fun a q q2 => m5 a q2 q) m6 (fun j hj => ?_) (vr_mono (by omega) m3.2.2) ⟨x, x1, by rw [m5 26 (by decide) (by decide), r2 26 (by decide) (by decide)]; exact x2, x3⟩⟩
    rw [tk_cg (S := A) (fun i hi => by rw [m5 _ (by omega) (by omega), r2 _ (by omega) (by omega)])]
    exact m3.2.1 j hj
  · have e : f_X10_drift S p0 = (f_X10_refusalOfHours S p0, S) := by unfold f_X10_drift; dsimp only; rw [if_neg g]
    have g' : ¬ f_X11_hoursRefused S p0 = 0 := by rw [er]; exact g
    have e' : f_X11_drift S p0 = (f_X11_hoursRefused S p0, S) := by unfold f_X11_drift; dsimp only; rw [if_neg g']
    refine ⟨⟨fun q => absurd q g, fun _ => trivial⟩, ?_⟩
    rw [e]
    dsimp only
    rw [e']
    exact ⟨⟨fun q => absurd q g', fun _ => trivial⟩, er.symm, h⟩
