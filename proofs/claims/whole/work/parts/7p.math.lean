/-! PERSONS, LIKINGS, THE END OF A CLAUSE -/
theorem addP {C : xS} {P : Nat} {d h : Int32} (hP : P < 7) (e : C 3 9 = nI P) : f_X2_addPerson C 3 d h = xu (xu (xu C 6 P d) 7 P h) 3 9 (nI (P + 1)) := by
  have e1 : f_X2_addPerson C 3 d h = xu (f_X10_put (f_X10_put C 6 (C 3 9) d) 7 (f_X10_put C 6 (C 3 9) d 3 9) h) 3 9 (f_X10_put (f_X10_put C 6 (C 3 9) d) 7 (f_X10_put C 6 (C 3 9) d 3 9) h 3 9 + 1) := rfl
  rw [e1, e, put_in (N := 7) rfl hP (by decide), xu_ne (a := 3) (k := 6) (by decide), e, put_in (N := 7) rfl hP (by decide), xu_ne (a := 3) (k := 7) (by decide), xu_ne (a := 3) (k := 6) (by decide), e, nI_1]
theorem num_h2 {C0 M0 C M : xS} {n k R P : Nat} (h : sd C0 M0 n k R P C M) (p q q' Q : Int32) (e1 : q = Q) (e2 : q' = Q) : s_X8_readNumber C p q ∧ s_X11_takeNumber M p q' ∧ ((∃ v k' : Nat, k ≤ k' ∧ v < 1000 ∧ p.toInt ≤ v ∧ (v : Int) ≤ Q.toInt ∧ (f_X8_readNumber C p q).1 = nI v ∧ (f_X11_takeNumber M p q').1 = 0 ∧ (f_X11_takeNumber M p q').2 127 22 = nI v ∧ (∃ x, x ≤ 240 ∧ (f_X8_readNumber C p q).2 1 6 = nI x ∧ (f_X11_takeNumber M p q').2 127 23 = nI x) ∧ (∀ a, a ≠ 1 → (f_X8_readNumber C p q).2 a = C a) ∧ (∀ a, a ≠ 127 → (f_X11_takeNumber M p q').2 a = M a) ∧ (∀ j, 24 ≤ j → (f_X11_takeNumber M p q').2 127 j = M 127 j) ∧ sd C0 M0 n k' R P (f_X8_readNumber C p q).2 (f_X11_takeNumber M p q').2) ∨ fl C0 M0 (f_X11_takeNumber M p q').1 (f_X8_readNumber C p q).2 (f_X11_takeNumber M p q').2) := by
  subst e1
  subst e2
  exact num_h h p _
def tpe (S : xS) : Int32 × xS := ((f_X11_takeNumber S 0 (S 127 24 - 1)).1, xu (xu (f_X11_takeNumber S 0 (S 127 24 - 1)).2 142 ((f_X11_takeNumber S 0 (S 127 24 - 1)).2 127 30).toNatClampNeg ((f_X11_takeNumber S 0 (S 127 24 - 1)).2 127 22)) 127 30 (xu (f_X11_takeNumber S 0 (S 127 24 - 1)).2 142 ((f_X11_takeNumber S 0 (S 127 24 - 1)).2 127 30).toNatClampNeg ((f_X11_takeNumber S 0 (S 127 24 - 1)).2 127 22) 127 30 + 1))
theorem tpe_eq (M : xS) : f_X11_takePerson M = if (f_X11_takeNumber M 0 3).1 ≤ 0 then tpe (xu (f_X11_takeNumber M 0 3).2 141 ((f_X11_takeNumber M 0 3).2 127 30).toNatClampNeg ((f_X11_takeNumber M 0 3).2 127 22)) else f_X11_takeNumber M 0 3 := by
  simp only [f_X11_takePerson, tpe, pr_eta]
def cpe (N : Int32 × xS) : xS := if (f_X8_readNumber N.2 0 (N.2 3 5 - 1)).2 1 3 = 0 then f_X2_addPerson (f_X8_readNumber N.2 0 (N.2 3 5 - 1)).2 3 N.1 (f_X8_readNumber N.2 0 (N.2 3 5 - 1)).1 else (f_X8_readNumber N.2 0 (N.2 3 5 - 1)).2
theorem cpe_eq (C : xS) : f_X8_readPerson C = cpe (f_X8_readNumber C 0 3) := by
  simp only [f_X8_readPerson, cpe]
theorem per_2 {C0 M0 N2 S7 : xS} {n k R P v : Nat} (gS : sd C0 M0 n k R P N2 S7) (hP7 : P < 7) (hv : v < 4) (s141 : S7 141 P = nI v) : s_X8_readNumber N2 0 (N2 3 5 - 1) ∧ s_X11_takeNumber S7 0 (S7 127 24 - 1) ∧ vp_in ((f_X11_takeNumber S7 0 (S7 127 24 - 1)).2 127 30) 7 ∧ bo C0 M0 n k (tpe S7).1 (cpe (nI v, N2)) (tpe S7).2 := by
  have hR6 : R ≤ 6 := gS.2.1.1
  have q1 := nm1 (R := R) (by omega)
  have s30 : S7 127 30 = nI P := gS.2.1.2.2.2.2.2.2.2.2.1
  have vP : vp_in (nI P) 7 := vp_in_nI hP7 (by decide)
  have n35 : N2 3 5 = nI R := gS.2.1.2.2.2.2.1
  have s24 : S7 127 24 = nI R := gS.2.1.2.2.2.2.2.1
  obtain ⟨b1, b2, b3⟩ := num_h2 gS 0 (N2 3 5 - 1) (S7 127 24 - 1) (nI R - 1) (by rw [n35]) (by rw [s24])
  have b4 := tn_fr S7 0 (S7 127 24 - 1)
  refine ⟨b1, b2, ?_⟩
  unfold tpe cpe
  dsimp only
  generalize f_X8_readNumber N2 0 (N2 3 5 - 1) = N' at b3 ⊢
  generalize f_X11_takeNumber S7 0 (S7 127 24 - 1) = T' at b3 b4 ⊢
  obtain ⟨N1', N2'⟩ := N'
  obtain ⟨T1', T2'⟩ := T'
  dsimp only at b3 b4 ⊢
  have u30 : T2' 127 30 = nI P := by rw [b4.2 30 (by decide) (by decide) (by decide) (by decide)]; exact s30
  have w30 : ∀ y, xu T2' 142 P y 127 30 = nI P := fun y => by rw [xu_ne (by decide)]; exact u30
  rw [u30, nI_clamp (by omega), w30, nI_1]
  refine ⟨vP, ?_⟩
  rcases b3 with ⟨w, k2, hk2, w1, w2, w3, rfl, rfl, f22, -, gc, gm, gj, g'⟩ | g'
  · rw [q1] at w3
    have hw : w < R := by omega
    rw [if_pos g'.2.2.2.2.1, f22, addP hP7 g'.2.1.2.2.2.2.2.2.2.1]
    generalize hA : xu (xu (xu N2' 6 P (nI v)) 7 P (nI w)) 3 9 (nI (P + 1)) = A
    generalize hB : xu (xu T2' 142 P (nI w)) 127 30 (nI (P + 1)) = B
    have eA : ∀ y, y ≠ 3 → y ≠ 6 → y ≠ 7 → A y = N2' y := fun y q1 q2 q3 => by rw [← hA, xu_ne q1, xu_ne q3, xu_ne q2]
    have e6 : A 6 = upd (N2' 6) P (nI v) := by rw [← hA, xu_ne (by decide), xu_ne (by decide), xu_eq]
    have e7 : A 7 = upd (N2' 7) P (nI w) := by rw [← hA, xu_ne (by decide), xu_eq, xu_ne (by decide)]
    have ej : ∀ j, j ≠ 9 → A 3 j = N2' 3 j := fun j q => by rw [← hA, xu_eq, upd_ne q, xu_ne (by decide), xu_ne (by decide)]
    have e9 : A 3 9 = nI (P + 1) := by rw [← hA, xu_eq, upd_eq]
    have fB : ∀ y, y ≠ 127 → y ≠ 142 → B y = T2' y := fun y q1 q2 => by rw [← hB, xu_ne q1, xu_ne q2]
    have f142 : B 142 = upd (T2' 142) P (nI w) := by rw [← hB, xu_ne (by decide), xu_eq]
    have fj : ∀ j, j ≠ 30 → B 127 j = T2' 127 j := fun j q => by rw [← hB, xu_eq, upd_ne q, xu_ne (by decide)]
    have f30 : B 127 30 = nI (P + 1) := by rw [← hB, xu_eq, upd_eq]
    have t141 : T2' 141 P = nI v := by rw [gm 141 (by decide)]; exact s141
    refine Or.inl ⟨rfl, k2, R, P + 1, hk2, sd_u g' ?_ (fun y q => eA y (by omega) (by omega) (by omega)) (fun y q1 q2 => fB y q2 (by omega)) (fun j q => fj j (by omega)) (fj 36 (by decide))⟩
    obtain ⟨d1, d2, d3, d4, d5, d6, d7, d8, d9, d10, d11, d12, dA, dW, dP, dH, dL⟩ := g'.2.1
    unfold hR
    rw [eA 1 (by decide) (by decide) (by decide), eA 4 (by decide) (by decide) (by decide), eA 5 (by decide) (by decide) (by decide), eA 8 (by decide) (by decide) (by decide), e6, e7, ej 5 (by decide), ej 6 (by decide), ej 7 (by decide), ej 8 (by decide), e9, fB 139 (by decide) (by decide), fB 140 (by decide) (by decide), fB 141 (by decide) (by decide), fB 143 (by decide) (by decide), f142, fj 24 (by decide), fj 25 (by decide), fj 26 (by decide), fj 27 (by decide), fj 33 (by decide), f30]
    refine ⟨d1, by omega, d3, fun q => absurd q (by omega), d5, d6, d7, rfl, rfl, d10, d11, d12, dA, dW, fun p hp => ?_, fun p hp1 hp2 => by rw [upd_ne (by omega)]; exact dH p (by omega) hp2, dL⟩
    by_cases c : p = P
    · subst c
      rw [upd_eq, upd_eq, upd_eq, t141]
      exact ⟨rfl, ⟨v, hv, rfl⟩, w, hw, rfl, rfl⟩
    · rw [upd_ne c, upd_ne c, upd_ne c]
      exact dP p (by omega)
  · rw [if_neg (fl_r g').1]
    exact Or.inr (fl_m g' ⟨fun a q q' => by rw [xu_ne q', xu_ne (by omega)], fun j q => by rw [xu_eq, upd_ne (by omega), xu_ne (by decide)]⟩ (by rw [xu_eq, upd_ne (by decide), xu_ne (by decide)]))
theorem per_ok {C0 M0 C M : xS} {n k R P : Nat} (h : sd C0 M0 n k R P C M) (hR2 : 2 ≤ R) (hP7 : P < 7) : s_X8_readPerson C ∧ s_X11_takePerson M ∧ bo C0 M0 n k (f_X11_takePerson M).1 (f_X8_readPerson C) (f_X11_takePerson M).2 := by
  obtain ⟨a1, a2, a3⟩ := num_h h 0 3
  have eC := cpe_eq C
  have eT := tpe_eq M
  have sC : s_X8_readNumber (f_X8_readNumber C 0 3).2 0 ((f_X8_readNumber C 0 3).2 3 5 - 1) → s_X8_readPerson C := fun z => ⟨a1, z, trivial⟩
  have sM1 : ¬ (f_X11_takeNumber M 0 3).1 ≤ 0 → s_X11_takePerson M := fun z => ⟨a2, fun q => absurd q z, fun _ => trivial⟩
  have sM2 : ∀ S7, S7 = xu (f_X11_takeNumber M 0 3).2 141 ((f_X11_takeNumber M 0 3).2 127 30).toNatClampNeg ((f_X11_takeNumber M 0 3).2 127 22) → vp_in ((f_X11_takeNumber M 0 3).2 127 30) 7 → s_X11_takeNumber S7 0 (S7 127 24 - 1) → vp_in ((f_X11_takeNumber S7 0 (S7 127 24 - 1)).2 127 30) 7 → s_X11_takePerson M := fun S7 e z1 z2 z3 => by
    subst e
    exact ⟨a2, fun _ => ⟨z1, z2, z3, trivial⟩, fun _ => trivial⟩
  rw [eC, eT]
  clear eC eT
  generalize f_X8_readNumber C 0 3 = N at a3 sC ⊢
  generalize f_X11_takeNumber M 0 3 = T at a3 sM1 sM2 ⊢
  obtain ⟨N1, N2⟩ := N
  obtain ⟨T1, T2⟩ := T
  dsimp only at a3 sC sM1 sM2 ⊢
  rcases a3 with ⟨v, k1, hk1, v1, v2, v3, rfl, rfl, e22, -, -, -, -, g⟩ | g
  · have v3' : v < 4 := by
      have e : (3 : Int32).toInt = 3 := rfl
      omega
    have t30 : T2 127 30 = nI P := g.2.1.2.2.2.2.2.2.2.2.1
    have gS : sd C0 M0 n k1 R P N2 (xu T2 141 P (nI v)) := by
      refine sd_u g ?_ (fun _ _ => rfl) (fun a q _ => xu_ne (by omega)) (fun j _ => by rw [xu_ne (by decide)]) (by rw [xu_ne (by decide)])
      obtain ⟨d1, d2, d3, d4, d5, d6, d7, d8, d9, d10, d11, d12, dA, dW, dP, dH, dL⟩ := g.2.1
      unfold hR
      rw [xu_ne (a := 127) (by decide), xu_ne (a := 139) (by decide), xu_ne (a := 140) (by decide), xu_ne (a := 142) (by decide), xu_ne (a := 143) (by decide), xu_eq]
      exact ⟨d1, d2, d3, d4, d5, d6, d7, d8, d9, d10, d11, d12, dA, dW, fun p hp => by rw [upd_ne (by omega)]; exact dP p hp, dH, dL⟩
    have s141 : xu T2 141 P (nI v) 141 P = nI v := by rw [xu_eq, upd_eq]
    have sM3 := sM2 _ rfl (by rw [t30]; exact vp_in_nI hP7 (by decide))
    rw [e22, t30, nI_clamp (by omega)] at sM3
    rw [if_pos z00, e22, t30, nI_clamp (by omega)]
    generalize xu T2 141 P (nI v) = S7 at gS s141 sM3 ⊢
    obtain ⟨r1, r2, r3, r4⟩ := per_2 gS hP7 v3' s141
    refine ⟨sC r1, sM3 r2 r3, ?_⟩
    rcases r4 with ⟨z, k2, R', P', z2, z3⟩ | z
    · exact Or.inl ⟨z, k2, R', P', by omega, z3⟩
    · exact Or.inr z
  · obtain ⟨g1, g2, -⟩ := fl_r g
    have ec : cpe (N1, N2) = N2 := by
      unfold cpe
      dsimp only
      rw [(num_n g1 _ _).1, if_neg g1]
    rw [ec, if_neg (nle_of g2)]
    exact ⟨sC (num_n g1 _ _).2, sM1 (nle_of g2), Or.inr g⟩
theorem addL {C : xS} {a b : Nat} {v : Int32} (ha : a < 7) (hb : b < 7) : f_X2_addLiking C 3 (nI a) (nI b) v = xu C 8 (7 * a + b) v := by
  have e1 : f_X2_addLiking C 3 (nI a) (nI b) v = f_X10_put C 8 (nI a * 7 + nI b) v := rfl
  rw [e1, pair_nI, put_in (N := 49) rfl (by omega) (by decide)]
def cl3 (S : xS) (a b : Int32) : xS := if (f_X8_readNumber S 0 9).2 1 3 = 0 then xu (f_X2_addLiking (f_X8_readNumber S 0 9).2 3 a b (f_X8_readNumber S 0 9).1) 1 7 (f_X2_addLiking (f_X8_readNumber S 0 9).2 3 a b (f_X8_readNumber S 0 9).1 1 7 + 1) else (f_X8_readNumber S 0 9).2
def cl2 (N N' : Int32 × xS) : xS := if N.1 = N'.1 then cl3 (f_X8_blame N'.2 4 (N'.2 1 6)) N.1 N'.1 else cl3 (f_X8_blame N'.2 0 (N'.2 1 6)) N.1 N'.1
def lN1 (C : xS) : Int32 × xS := f_X8_readNumber C 0 (C 3 9 - 1)
def lN2 (C : xS) : Int32 × xS := f_X8_readNumber (lN1 C).2 0 ((lN1 C).2 3 9 - 1)
theorem cl2_eq (C : xS) : f_X8_readLiking C = cl2 (lN1 C) (lN2 C) := by
  unfold f_X8_readLiking cl2 cl3 lN2 lN1
  rfl
def tl3 (S T : xS) : Int32 × xS := ((f_X11_takeNumber T 0 9).1, xu (xu (f_X11_takeNumber T 0 9).2 143 (7 * S 127 22 + T 127 22).toNatClampNeg ((f_X11_takeNumber T 0 9).2 127 22)) 127 33 (xu (f_X11_takeNumber T 0 9).2 143 (7 * S 127 22 + T 127 22).toNatClampNeg ((f_X11_takeNumber T 0 9).2 127 22) 127 33 + 1))
def lT1 (M : xS) : Int32 × xS := f_X11_takeNumber M 0 (M 127 30 - 1)
def tl2 (T T' : Int32 × xS) : Int32 × xS := if T.1 ≤ 0 then (if T'.1 ≤ 0 then (if T.2 127 22 = T'.2 127 22 then f_X11_fails T'.2 4 (T'.2 127 23) else tl3 T.2 T'.2) else T') else T
theorem tl2_eq (M : xS) : f_X11_takeLiking M = tl2 (lT1 M) (lT1 (lT1 M).2) := by
  unfold f_X11_takeLiking tl2 tl3 lT1
  dsimp only
theorem lik_3 {C0 M0 N2 T2 X : xS} {n k R P v w : Nat} (g' : sd C0 M0 n k R P N2 T2) (hv : v < P) (hw : w < P) (e22 : X 127 22 = nI v) (f22 : T2 127 22 = nI w) (hb : ∃ b, b < 20 ∧ T2 127 33 = nI b) : s_X8_readNumber N2 0 9 ∧ s_X11_takeNumber T2 0 9 ∧ vp_in (7 * X 127 22 + T2 127 22) 49 ∧ bo C0 M0 n k (tl3 X T2).1 (cl3 N2 (nI v) (nI w)) (tl3 X T2).2 := by
  have hP7 : P ≤ 7 := g'.2.1.2.1
  obtain ⟨c1, c2, c3⟩ := num_h g' 0 9
  have c4 := tn_fr T2 0 9
  have e49 : 7 * nI v + nI w = nI (7 * v + w) := by rw [i_7, nI_mul, nI_add]
  unfold tl3 cl3
  dsimp only
  rw [e22, f22, e49, nI_clamp (by omega)]
  refine ⟨c1, c2, vp_in_nI (by omega) (by decide), ?_⟩
  generalize f_X8_readNumber N2 0 9 = N'' at c3 ⊢
  generalize f_X11_takeNumber T2 0 9 = T'' at c3 c4 ⊢
  obtain ⟨N1'', N2''⟩ := N''
  obtain ⟨T1'', T2''⟩ := T''
  dsimp only at c3 c4 ⊢
  obtain ⟨l, l1, l3⟩ := hb
  have t33 : T2'' 127 33 = nI l := by rw [c4.2 33 (by decide) (by decide) (by decide) (by decide)]; exact l3
  have t33' : ∀ i y, xu T2'' 143 i y 127 33 = nI l := fun i y => by rw [xu_ne (by decide)]; exact t33
  rw [t33', nI_1]
  rcases c3 with ⟨u, k3, hk3, u1, u2, u3, rfl, rfl, h22, -, hc, hm, hj, g''⟩ | g''
  · have u3' : u ≤ 9 := by
      have e : (9 : Int32).toInt = 9 := rfl
      omega
    obtain ⟨b, -, b2, b3⟩ := g''.2.1.2.2.2.2.2.2.2.2.2.2.2.1
    have c17 : ∀ i y, xu N2'' 8 i y 1 7 = nI l := fun i y => by rw [xu_ne (by decide), b2, ← b3, t33]
    rw [if_pos g''.2.2.2.2.1, h22, addL (by omega) (by omega), c17, nI_1]
    generalize hA : xu (xu N2'' 8 (7 * v + w) (nI u)) 1 7 (nI (l + 1)) = A
    generalize hB : xu (xu T2'' 143 (7 * v + w) (nI u)) 127 33 (nI (l + 1)) = B
    have eA : ∀ y, y ≠ 1 → y ≠ 8 → A y = N2'' y := fun y q1 q2 => by rw [← hA, xu_ne q1, xu_ne q2]
    have e8 : A 8 = upd (N2'' 8) (7 * v + w) (nI u) := by rw [← hA, xu_ne (by decide), xu_eq]
    have ej : ∀ j, j ≠ 7 → A 1 j = N2'' 1 j := fun j q => by rw [← hA, xu_eq, upd_ne q, xu_ne (by decide)]
    have e17 : A 1 7 = nI (l + 1) := by rw [← hA, xu_eq, upd_eq]
    have fB : ∀ y, y ≠ 127 → y ≠ 143 → B y = T2'' y := fun y q1 q2 => by rw [← hB, xu_ne q1, xu_ne q2]
    have f143 : B 143 = upd (T2'' 143) (7 * v + w) (nI u) := by rw [← hB, xu_ne (by decide), xu_eq]
    have fj' : ∀ j, j ≠ 33 → B 127 j = T2'' 127 j := fun j q => by rw [← hB, xu_eq, upd_ne q, xu_ne (by decide)]
    have f33 : B 127 33 = nI (l + 1) := by rw [← hB, xu_eq, upd_eq]
    refine Or.inl ⟨rfl, k3, R, P, hk3, sd_u7 g'' ?_ (fun y q q' => eA y q' (by omega)) ej (fun y q1 q2 => fB y q2 (by omega)) (fun j q => fj' j (by omega)) (fj' 36 (by decide))⟩
    obtain ⟨d1, d2, d3, d4, d5, d6, d7, d8, d9, d10, d11, -, dA, dW, dP, dH, dL⟩ := g''.2.1
    unfold hR
    rw [eA 3 (by decide) (by decide), eA 4 (by decide) (by decide), eA 5 (by decide) (by decide), eA 6 (by decide) (by decide), eA 7 (by decide) (by decide), e8, e17, fB 139 (by decide) (by decide), fB 140 (by decide) (by decide), fB 141 (by decide) (by decide), fB 142 (by decide) (by decide), f143, fj' 24 (by decide), fj' 25 (by decide), fj' 26 (by decide), fj' 27 (by decide), fj' 30 (by decide), f33]
    refine ⟨d1, d2, d3, d4, d5, d6, d7, d8, d9, d10, d11, ⟨l + 1, by omega, rfl, rfl⟩, dA, dW, dP, dH, fun j hj => ?_⟩
    by_cases c : j = 7 * v + w
    · rw [c, upd_eq, upd_eq]
      exact ⟨rfl, u, u3', rfl⟩
    · rw [upd_ne c, upd_ne c]
      exact dL j hj
  · rw [if_neg (fl_r g'').1]
    exact Or.inr (fl_m g'' ⟨fun a q q' => by rw [xu_ne q', xu_ne (by omega)], fun j q => by rw [xu_eq, upd_ne (by omega), xu_ne (by decide)]⟩ (by rw [xu_eq, upd_ne (by decide), xu_ne (by decide)]))
theorem cl3_n {S : xS} {a b : Int32} (h : ¬ S 1 3 = 0) : cl3 S a b = S := by
  unfold cl3
  rw [(num_n h _ _).1, if_neg h]
theorem lik_2 {C0 M0 N2 T2 : xS} {n k R P v : Nat} (g : sd C0 M0 n k R P N2 T2) (hv : v < P) (e22 : T2 127 22 = nI v) (hb : ∃ b, b < 20 ∧ T2 127 33 = nI b) : s_X8_readNumber N2 0 (N2 3 9 - 1) ∧ s_X11_takeNumber T2 0 (T2 127 30 - 1) ∧ ∀ N' T', N' = f_X8_readNumber N2 0 (N2 3 9 - 1) → T' = f_X11_takeNumber T2 0 (T2 127 30 - 1) → (nI v = N'.1 → s_X8_readNumber (f_X8_blame N'.2 4 (N'.2 1 6)) 0 9) ∧ (¬ nI v = N'.1 → s_X8_readNumber (f_X8_blame N'.2 0 (N'.2 1 6)) 0 9) ∧ (T'.1 ≤ 0 → ¬ T2 127 22 = T'.2 127 22 → s_X11_takeNumber T'.2 0 9 ∧ vp_in (7 * T2 127 22 + T'.2 127 22) 49) ∧ bo C0 M0 n k (tl2 (0, T2) T').1 (cl2 (nI v, N2) N') (tl2 (0, T2) T').2 := by
  have hP7 : P ≤ 7 := g.2.1.2.1
  have hn : n ≤ 240 := g.1.2.2.1
  have q1 := nm1 (R := P) (by omega)
  have n39 : N2 3 9 = nI P := g.2.1.2.2.2.2.2.2.2.1
  have t30 : T2 127 30 = nI P := g.2.1.2.2.2.2.2.2.2.2.1
  obtain ⟨b1, b2, b3⟩ := num_h2 g 0 (N2 3 9 - 1) (T2 127 30 - 1) (nI P - 1) (by rw [n39]) (by rw [t30])
  refine ⟨b1, b2, fun N' T' eN' eT' => ?_⟩
  rw [← eN', ← eT'] at b3
  clear eN' eT'
  obtain ⟨N1', N2'⟩ := N'
  obtain ⟨T1', T2'⟩ := T'
  dsimp only at b3 ⊢
  unfold cl2 tl2
  dsimp only
  rw [if_pos z00]
  rcases b3 with ⟨w, k2, hk2, w1, w2, w3, rfl, rfl, f22, ⟨x, x1, x2, x3⟩, gc, gm, gj, g'⟩ | g'
  · rw [q1] at w3
    have hw : w < P := by omega
    have hf := g'.2.2.2.2.1
    rw [if_pos z00, x2, blame_0 hf]
    by_cases cw : v = w
    · subst cw
      have flt := fl_t (blame_fl (C := N2') (M := T2') (f := 4) (x := x) (k := k2) hf (by decide) (by decide) (by omega) (by have := g'.2.2.2.1; omega) g'.2.2.1.1).1 g'.2.2.2.2.2.2.2.1 g'.2.2.2.2.2.2.2.2
      have nf := (fl_r flt).1
      have e4 : (4 : Int32) = nI 4 := rfl
      rw [if_pos rfl, if_pos (by rw [e22, f22]), x3, e4, cl3_n nf]
      exact ⟨fun _ => (num_n nf 0 9).2, fun q => absurd rfl q, fun _ q => absurd (by rw [e22, f22]) q, Or.inr flt⟩
    · have cw' : ¬ nI v = nI w := fun q => cw (nI_inj (by omega) (by omega) q)
      obtain ⟨l, l1, l3⟩ := hb
      obtain ⟨r1, r2, r3, r4⟩ := lik_3 g' hv hw e22 f22 ⟨l, l1, by rw [gj 33 (by decide)]; exact l3⟩
      rw [if_neg cw', if_neg (by rw [e22, f22]; exact cw')]
      refine ⟨fun q => absurd q cw', fun _ => r1, fun _ _ => ⟨r2, r3⟩, ?_⟩
      rcases r4 with ⟨z, k3, R', P', z2, z3⟩ | z
      · exact Or.inl ⟨z, k3, R', P', by omega, z3⟩
      · exact Or.inr z
  · obtain ⟨y1, y2, -⟩ := fl_r g'
    rw [blame_n y1, blame_n y1, cl3_n y1, ite_self, if_neg (nle_of y2)]
    exact ⟨fun _ => (num_n y1 0 9).2, fun _ => (num_n y1 0 9).2, fun q => absurd q (nle_of y2), Or.inr g'⟩
theorem lik_ok {C0 M0 C M : xS} {n k R P : Nat} (h : sd C0 M0 n k R P C M) (hb : ∃ b, b < 20 ∧ M 127 33 = nI b) : s_X8_readLiking C ∧ s_X11_takeLiking M ∧ bo C0 M0 n k (f_X11_takeLiking M).1 (f_X8_readLiking C) (f_X11_takeLiking M).2 := by
  have hP7 : P ≤ 7 := h.2.1.2.1
  have q1 := nm1 (R := P) (by omega)
  have c39 : C 3 9 = nI P := h.2.1.2.2.2.2.2.2.2.1
  have m30 : M 127 30 = nI P := h.2.1.2.2.2.2.2.2.2.2.1
  obtain ⟨a1, a2, a3⟩ := num_h2 h 0 (C 3 9 - 1) (M 127 30 - 1) (nI P - 1) (by rw [c39]) (by rw [m30])
  have sC' : s_X8_readNumber (lN1 C).2 0 ((lN1 C).2 3 9 - 1) → ((lN1 C).1 = (lN2 C).1 → s_X8_readNumber (f_X8_blame (lN2 C).2 4 ((lN2 C).2 1 6)) 0 9) → (¬ (lN1 C).1 = (lN2 C).1 → s_X8_readNumber (f_X8_blame (lN2 C).2 0 ((lN2 C).2 1 6)) 0 9) → s_X8_readLiking C := fun z2 z3 z4 => ⟨a1, z2, fun q => ⟨z3 q, trivial⟩, fun q => ⟨z4 q, trivial⟩⟩
  have sM : ∀ T T', f_X11_takeNumber M 0 (M 127 30 - 1) = T → f_X11_takeNumber T.2 0 (T.2 127 30 - 1) = T' → (T.1 ≤ 0 → s_X11_takeNumber T.2 0 (T.2 127 30 - 1)) → (T.1 ≤ 0 → T'.1 ≤ 0 → ¬ T.2 127 22 = T'.2 127 22 → s_X11_takeNumber T'.2 0 9 ∧ vp_in (7 * T.2 127 22 + T'.2 127 22) 49) → s_X11_takeLiking M := by
    intro T T' hT hT' z2 z3
    unfold s_X11_takeLiking
    dsimp only
    rw [hT, hT']
    exact ⟨a2, fun p1 => ⟨z2 p1, fun p2 => ⟨fun _ => trivial, fun p3 => ⟨(z3 p1 p2 p3).1, (z3 p1 p2 p3).2, trivial⟩⟩, fun _ => trivial⟩, fun _ => trivial⟩
  have eN' : lN2 C = f_X8_readNumber (lN1 C).2 0 ((lN1 C).2 3 9 - 1) := rfl
  have hN2 : f_X8_readNumber C 0 (C 3 9 - 1) = lN1 C := rfl
  have hT2 : f_X11_takeNumber M 0 (M 127 30 - 1) = lT1 M := rfl
  have sM' := sM (lT1 M) (lT1 (lT1 M).2) hT2 rfl
  clear sM
  rw [cl2_eq, tl2_eq]
  rw [hN2, hT2] at a3
  rw [eN'] at sC' ⊢
  clear eN' hN2 hT2
  generalize lN1 C = N at a3 sC' ⊢
  generalize lT1 M = T at a3 sM' ⊢
  unfold lT1 at sM' ⊢
  obtain ⟨N1, N2⟩ := N
  obtain ⟨T1, T2⟩ := T
  dsimp only at a3 sC' sM' ⊢
  rcases a3 with ⟨v, k1, hk1, v1, v2, v3, rfl, rfl, e22, -, fc, fm, fj, g⟩ | g
  · rw [q1] at v3
    have hv : v < P := by omega
    obtain ⟨l, l1, l3⟩ := hb
    obtain ⟨r1, r2, r3⟩ := lik_2 g hv e22 ⟨l, l1, by rw [fj 33 (by decide)]; exact l3⟩
    obtain ⟨r4, r5, r6, r7⟩ := r3 _ _ rfl rfl
    refine ⟨sC' r1 r4 r5, sM' (fun _ => r2) (fun _ => r6), ?_⟩
    rcases r7 with ⟨z, k3, R', P', z2, z3⟩ | z
    · exact Or.inl ⟨z, k3, R', P', by omega, z3⟩
    · exact Or.inr z
  · obtain ⟨y1, y2, -⟩ := fl_r g
    have sC2 := sC' (num_n y1 _ _).2
    rw [(num_n y1 _ _).1] at sC2 ⊢
    dsimp only at sC2
    unfold cl2 tl2
    dsimp only
    rw [blame_n y1, blame_n y1] at sC2
    rw [blame_n y1, blame_n y1, cl3_n y1, ite_self, if_neg (nle_of y2)]
    exact ⟨sC2 (fun _ => (num_n y1 0 9).2) (fun _ => (num_n y1 0 9).2), sM' (fun q => absurd q (nle_of y2)) (fun q => absurd q (nle_of y2)), Or.inr g⟩
/-- the same, behind a clause -/
def flx (C M : xS) (r : Int32) (C' M' : xS) : Prop := ∃ f x k, 1 ≤ f ∧ f ≤ 4 ∧ x ≤ 1000 ∧ k ≤ 950 ∧ r = nI f ∧ C' 1 3 = nI f ∧ C' 1 4 = nI x ∧ M' 127 20 = nI x ∧ C' 1 5 = nI k ∧ frC C C' ∧ frM M M'
theorem skipD {C : xS} {n k : Nat} (t1 : C 1 2 = nI n) (hn : n ≤ 240) (p1 : C 1 5 = nI k) (hk : k ≤ 1000) : s_X8_skipBlanks C ∧ ∃ k', (k' ≤ n ∨ k' = k) ∧ mvC C (f_X8_skipBlanks C) k' := by
  by_cases c : k ≤ n
  · obtain ⟨h1, -, k', -, h3, h4, -⟩ := skip_ok (C := C) (M := fun a => if a = 127 then (fun j => if j = 19 then nI n else nI k) else C 2) (n := n) (k := k) t1 rfl hn (fun _ _ => rfl) p1 rfl c
    exact ⟨h1, k', Or.inl h3, h4⟩
  · have ef : fu (C 1 5) (C 1 2) = 1 + 1 := by
      rw [p1, t1]
      unfold fu
      rw [nI_toInt (by omega), nI_toInt (by omega)]
      omega
    have e1 : C 1 2 ≤ C 1 5 := by rw [p1, t1]; exact nI_le (by omega) (by omega)
    have e2 : f_X8_skipBlanks C = C := by
      unfold f_X8_skipBlanks
      rw [ef]
      simp only [f_X8_skipBlanks_L0, e1, ↓reduceIte, eq_self, n10, not_true_eq_false, not_false_eq_true, true_implies, false_implies, true_and, and_true, implies_true, forall_const, Sum.elim_inl, Sum.elim_inr, and_self]
    refine ⟨⟨?_, trivial⟩, k, Or.inr rfl, by rw [e2]; exact ⟨fun _ _ => rfl, fun _ _ => rfl, p1⟩⟩
    rw [ef]
    simp only [s_X8_skipBlanks_L0, e1, ↓reduceIte, eq_self, n10, not_true_eq_false, not_false_eq_true, true_implies, false_implies, true_and, and_true, implies_true, forall_const, Sum.elim_inl, Sum.elim_inr, and_self]
/-- the end of a clause behind a fault -/
theorem end_f {C0 M0 C M : xS} {n : Nat} {r : Int32} (t : C0 1 2 = nI n) (hn : n ≤ 240) (h : fl C0 M0 r C M) : s_X8_readEnd C ∧ flx C0 M0 r (f_X8_readEnd C) M := by
  have hf := (fl_r h).1
  obtain ⟨f, x, k, h1, h2, h3, h4, h5, h6, h7, h8, h9, h10, h11⟩ := h
  obtain ⟨s1, k', hk', s2, s3, s4⟩ := skipD (C := C) (n := n) (k := k) (by rw [h10.2]; exact t) hn h9 (by omega)
  have nf : ¬ f_X8_skipBlanks C 1 3 = 0 := by rw [s3 3 (by decide)]; exact hf
  have e : f_X8_readEnd C = xu (f_X8_skipBlanks C) 1 5 (nI (k' + 1)) := by
    unfold f_X8_readEnd
    dsimp only
    rw [blame_n nf, blame_n nf, s4, nI_1, ite_self]
  rw [e]
  refine ⟨⟨s1, trivial⟩, f, x, k' + 1, h1, h2, h3, by omega, h5, ?_, ?_, h8, by rw [xu_eq, upd_eq], frC_t h10 (frC_1 (fun a q => by rw [xu_ne q, s2 a q]) (by rw [xu_eq, upd_ne (by decide), s3 2 (by decide)])), h11⟩
  · rw [xu_eq, upd_ne (by decide), s3 3 (by decide)]; exact h6
  · rw [xu_eq, upd_ne (by decide), s3 4 (by decide)]; exact h7
theorem sd_s {C0 M0 C M : xS} {n k R P : Nat} (h : sd C0 M0 n k R P C M) : s_X8_skipBlanks C ∧ s_X11_here M ∧ ∃ k', k ≤ k' ∧ k' ≤ n ∧ sd C0 M0 n k' R P (f_X8_skipBlanks C) (f_X11_here M).2 ∧ (f_X11_here M).1 = (if k' < n then M 138 k' else -1) ∧ (k' < n → ¬ M 138 k' = 32) ∧ (f_X11_here M).2 138 = M 138 := by
  obtain ⟨t, d, hp, hk, hf, h4, h20, fc, fm⟩ := h
  obtain ⟨s1, s2, k', m1, m2, m3, m4, m5, m6⟩ := skip_ok t.1 t.2.1 t.2.2.1 (fun i hi => (t.2.2.2 i hi).1) hp.1 hp.2 hk
  have f1 : frC C (f_X8_skipBlanks C) := frC_1 m3.1 (m3.2.1 2 (by decide))
  have f2 : frM M (f_X11_here M).2 := frM_1 m4.1 (fun j hj => m4.2.1 j (by omega))
  exact ⟨s1, s2, k', m1, m2, ⟨txt_f t f1 f2, hR_cg (fun a _ _ => m3.1 a (by omega)) (fun a _ _ => m4.1 a (by omega)) (fun j hj => m4.2.1 j (by omega)) (m3.2.1 7 (by decide)) d, ⟨m3.2.2, m4.2.2⟩, m2, by rw [m3.2.1 3 (by decide)]; exact hf, by rw [m3.2.1 4 (by decide)]; exact h4, by rw [m4.2.1 20 (by decide)]; exact h20, frC_t fc f1, frM_t fm f2⟩, m5, m6, m4.1 138 (by decide)⟩
/-- the reference's end of a clause -/
def tcT (T : Int32 × xS) : Int32 × xS := if T.1 ≤ 0 then (if (f_X11_here T.2).1 = 59 then (0, xu (f_X11_here T.2).2 127 21 ((f_X11_here T.2).2 127 21 + 1)) else f_X11_fails (f_X11_here T.2).2 1 ((f_X11_here T.2).2 127 21)) else T
theorem end_ok {C0 M0 X : xS} {n k : Nat} {T : Int32 × xS} (t : C0 1 2 = nI n) (hn : n ≤ 240) (h : bo C0 M0 n k T.1 X T.2) : s_X8_readEnd X ∧ (T.1 ≤ 0 → s_X11_here T.2) ∧ (((tcT T).1 = 0 ∧ ∃ k' R P, k < k' ∧ sd C0 M0 n k' R P (f_X8_readEnd X) (tcT T).2) ∨ flx C0 M0 (tcT T).1 (f_X8_readEnd X) (tcT T).2) := by
  obtain ⟨r, Y⟩ := T
  dsimp only at h ⊢
  unfold tcT
  dsimp only
  rcases h with ⟨rfl, k1, R, P, hk1, g⟩ | g
  · obtain ⟨s1, s2, k2, m1, m2, g2, m5, m6, m7⟩ := sd_s g
    rw [if_pos z00]
    refine ⟨⟨s1, trivial⟩, fun _ => s2, ?_⟩
    have el : f_X8_letter (f_X8_skipBlanks X) = (f_X11_here Y).1 := by
      rw [letter_ok g2.1.1 hn g2.2.2.1.1 (by omega), m5]
      by_cases c : k2 < n
      · rw [if_pos c, if_pos c, (g2.1.2.2.2 k2 c).1, m7]
      · rw [if_neg c, if_neg c]
    unfold f_X8_readEnd
    dsimp only
    rw [el]
    generalize f_X8_skipBlanks X = A at g2 ⊢
    generalize hH : f_X11_here Y = H at g2 m5 ⊢
    obtain ⟨H1, B⟩ := H
    dsimp only at g2 m5 ⊢
    have hf := g2.2.2.2.2.1
    have hp := g2.2.2.1
    by_cases c59 : H1 = 59
    · have ck : k2 < n := by
        rcases Nat.lt_or_ge k2 n with c | c
        · exact c
        · rw [if_neg (by omega), c59] at m5
          exact absurd m5 (by decide)
      rw [if_pos c59, if_pos c59, blame_0 hf, hp.1, hp.2, nI_1]
      dsimp only
      left
      refine ⟨rfl, k2 + 1, R, P, by omega, ?_⟩
      obtain ⟨t', d, hp, hk, hf, h4, h20, fc, fm⟩ := g2
      have f1 : frC A (xu A 1 5 (nI (k2 + 1))) := frC_1 (fun a q => xu_ne q) (by rw [xu_eq, upd_ne (by decide)])
      have f2 : frM B (xu B 127 21 (nI (k2 + 1))) := frM_1 (fun a q => xu_ne q) (fun j hj => by rw [xu_eq, upd_ne (by omega)])
      exact ⟨txt_f t' f1 f2, hR_cg (fun a _ _ => xu_ne (by omega)) (fun a _ _ => xu_ne (by omega)) (fun j hj => by rw [xu_eq, upd_ne (by omega)]) (by rw [xu_eq, upd_ne (by decide)]) d, ⟨by rw [xu_eq, upd_eq], by rw [xu_eq, upd_eq]⟩, ck, by rw [xu_eq, upd_ne (by decide)]; exact hf, by rw [xu_eq, upd_ne (by decide)]; exact h4, by rw [xu_eq, upd_ne (by decide)]; exact h20, frC_t fc f1, frM_t fm f2⟩
    · rw [if_neg c59, if_neg c59, hp.1, hp.2]
      right
      have flt := fl_t (blame_fl (C := A) (M := B) (f := 1) (x := k2) (k := k2) hf (by decide) (by decide) (by omega) (by omega) hp.1).1 g2.2.2.2.2.2.2.2.1 g2.2.2.2.2.2.2.2.2
      have flt' : fl C0 M0 1 (f_X8_blame A 1 (nI k2)) (f_X11_fails B 1 (nI k2)).2 := flt
      have en : f_X8_blame A 1 (nI k2) 1 5 = nI k2 := by rw [blame_f hf (by decide), xu_eq, upd_ne (by decide), xu_eq, upd_ne (by decide)]; exact hp.1
      rw [en, nI_1]
      obtain ⟨f, x, k, h1, h2, h3, h4, h5, h6, h7, h8, h9, h10, h11⟩ := flt'
      exact ⟨f, x, k2 + 1, h1, h2, h3, by omega, h5, by rw [xu_eq, upd_ne (by decide)]; exact h6, by rw [xu_eq, upd_ne (by decide)]; exact h7, h8, by rw [xu_eq, upd_eq], frC_t h10 (frC_1 (fun a q => xu_ne q) (by rw [xu_eq, upd_ne (by decide)])), h11⟩
  · obtain ⟨y1, y2, -⟩ := fl_r g
    obtain ⟨s1, s2⟩ := end_f t hn g
    rw [if_neg (nle_of y2)]
    exact ⟨s1, fun q => absurd q (nle_of y2), Or.inr s2⟩
