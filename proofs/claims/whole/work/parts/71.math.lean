theorem fb_rng (x : Int32) : -2147483648 ≤ x.toInt ∧ x.toInt < 2147483648 := by
  have h1 := Int32.le_toInt x
  have h2 := Int32.toInt_lt x
  omega
theorem fb_bmod {z : Int} (h1 : -2147483648 ≤ z) (h2 : z < 2147483648) : z.bmod (2 ^ 32) = z := by
  rw [Int.bmod_eq_of_le (by omega) (by omega)]
theorem fb_addI {x y : Int32} (h1 : -2147483648 ≤ x.toInt + y.toInt) (h2 : x.toInt + y.toInt < 2147483648) : (x + y).toInt = x.toInt + y.toInt := by
  rw [Int32.toInt_add, fb_bmod h1 h2]
theorem fb_subI {x y : Int32} (h1 : -2147483648 ≤ x.toInt - y.toInt) (h2 : x.toInt - y.toInt < 2147483648) : (x - y).toInt = x.toInt - y.toInt := by
  rw [Int32.toInt_sub, fb_bmod h1 h2]
theorem i_1 : (1 : Int32).toInt = 1 := rfl
theorem i_0 : (0 : Int32).toInt = 0 := rfl
/-- a counter below its end -/
theorem i_succ {i a : Int32} (h : ¬ a ≤ i) : (i + 1).toInt = i.toInt + 1 := by
  rw [i_le] at h
  have h1 := fb_rng a
  have h2 := fb_rng i
  rw [fb_addI (by rw [i_1]; omega) (by rw [i_1]; omega), i_1]
/-- what is left of a counter -/
def mu (i a : Int32) : Nat := (a.toInt - i.toInt).toNat
theorem mu_s {i a : Int32} {n : Nat} (h : ¬ a ≤ i) (hn : mu i a + 1 ≤ n + 1) : mu (i + 1) a + 1 ≤ n := by
  unfold mu at hn ⊢
  rw [i_succ h]
  rw [i_le] at h
  omega
theorem mu_fu (i a : Int32) : mu i a + 1 ≤ fu i a := by unfold mu fu; omega
theorem s_hale_ok (S : xS) (a b : Int32) : ∀ (n : Nat) (x : Int64) (i : Int32), mu i a + 1 ≤ n → s_X10_hale_L30 n S a b x i := by
  intro n
  induction n with
  | zero => intro x i h; exact absurd h (by omega)
  | succ n ih => intro x i h; exact ⟨fun _ => trivial, fun hc => ih _ _ (mu_s hc h)⟩
theorem s_hale_ok2 (S : xS) (a b : Int32) : ∀ (n : Nat) (x : Int64) (i : Int32), mu i a + 1 ≤ n → s_X11_hale_L34 n S a b x i := by
  intro n
  induction n with
  | zero => intro x i h; exact absurd h (by omega)
  | succ n ih => intro x i h; exact ⟨fun _ => trivial, fun hc => ih _ _ (mu_s hc h)⟩
theorem hale_eq (S : xS) (a b : Int32) : ∀ (n : Nat) (x : Int64) (i : Int32), f_X10_hale_L30 n S a b x i = f_X11_hale_L34 n S a b x i := by
  intro n
  induction n with
  | zero => intro x i; rfl
  | succ n ih =>
    intro x i
    show (if a ≤ i then x else f_X10_hale_L30 n S a b ((x * (b : Int32).toInt64) / 100) (i + 1)) = (if a ≤ i then x else f_X11_hale_L34 n S a b ((x * (b : Int32).toInt64) / 100) (i + 1))
    rw [ih]
theorem op_hale {S : xS} (h : xR S) (p0 p1 : Int32) : s_X10_hale S p0 p1 ∧ s_X11_hale S p0 p1 ∧ f_X10_hale S p0 p1 = (f_X11_hale S p0 p1) ∧ xR S := by
  have e1 : f_X11_in S p0.toInt64 0 60 = f_X10_within S p0 0 60 := in_within S S p0 0 60 rfl rfl
  have e2 : f_X11_in S p1.toInt64 0 100 = f_X10_within S p1 0 100 := in_within S S p1 0 100 rfl rfl
  refine ⟨⟨fun _ => trivial, fun _ => ⟨fun _ => trivial, fun _ => ⟨s_hale_ok _ _ _ _ _ _ (mu_fu _ _), trivial⟩⟩⟩, ⟨fun _ => trivial, fun _ => ⟨fun _ => trivial, fun _ => ⟨s_hale_ok2 _ _ _ _ _ _ (mu_fu _ _), trivial⟩⟩⟩, ?_, h⟩
  unfold f_X10_hale f_X11_hale
  dsimp only
  rw [e1, e2, hale_eq]
/-! persons, rooms -/
theorem person_eq {S : xS} {R P : Nat} (h : xRh S R P) (p : Int32) : f_X11_isPerson S p = f_X2_isPerson S 9 p := by
  obtain ⟨h1, h2, h3, h4, h5, h6, h7, -⟩ := h
  show f_X11_in S p.toInt64 0 ((S 127 6) - 1).toInt64 = f_X2_isPerson S 9 p
  have hs : (nI P - 1).toInt = (P : Int) - 1 := by rw [fb_subI (by rw [nI_toInt (by omega), i_1]; omega) (by rw [nI_toInt (by omega), i_1]; omega), nI_toInt (by omega), i_1]
  rw [in_eq, h7, Int32.toInt_toInt64, Int32.toInt_toInt64, hs]
  unfold f_X2_isPerson
  rw [h6]
  have z : (0 : Int64).toInt = 0 := rfl
  rw [z]
  by_cases c1 : p < 0
  · rw [if_pos c1, if_neg (by rw [i_lt, i_0] at c1; omega)]
  · rw [if_neg c1]
    by_cases c2 : nI P ≤ p
    · rw [if_pos c2, if_neg (by rw [i_le, nI_toInt (by omega)] at c2; omega)]
    · rw [if_neg c2, if_pos (by rw [i_lt, i_0] at c1; rw [i_le, nI_toInt (by omega)] at c2; omega)]
theorem room_eq {S : xS} {R P : Nat} (h : xRh S R P) (p : Int32) : f_X11_isRoom S p = f_X2_isRoom S 9 p := by
  obtain ⟨h1, h2, h3, h4, h5, h6, h7, -⟩ := h
  show f_X11_in S p.toInt64 0 ((S 127 0) - 1).toInt64 = f_X2_isRoom S 9 p
  have hs : (nI R - 1).toInt = (R : Int) - 1 := by rw [fb_subI (by rw [nI_toInt (by omega), i_1]; omega) (by rw [nI_toInt (by omega), i_1]; omega), nI_toInt (by omega), i_1]
  rw [in_eq, h5, Int32.toInt_toInt64, Int32.toInt_toInt64, hs]
  unfold f_X2_isRoom
  rw [h4]
  have z : (0 : Int64).toInt = 0 := rfl
  rw [z]
  by_cases c1 : p < 0
  · rw [if_pos c1, if_neg (by rw [i_lt, i_0] at c1; omega)]
  · rw [if_neg c1]
    by_cases c2 : nI R ≤ p
    · rw [if_pos c2, if_neg (by rw [i_le, nI_toInt (by omega)] at c2; omega)]
    · rw [if_neg c2, if_pos (by rw [i_lt, i_0] at c1; rw [i_le, nI_toInt (by omega)] at c2; omega)]
theorem isPerson_ne {S : xS} {P : Nat} (hP : P < 2147483648) (h : S 9 9 = nI P) {p : Int32} (hp : ¬ f_X2_isPerson S 9 p = 0) : ∃ j, j < P ∧ p = nI j := by
  unfold f_X2_isPerson at hp
  by_cases c1 : p < 0
  · rw [if_pos c1] at hp; exact absurd rfl hp
  · rw [if_neg c1, h] at hp
    by_cases c2 : nI P ≤ p
    · rw [if_pos c2] at hp; exact absurd rfl hp
    · obtain ⟨j, h1, h2⟩ := vp_in_of (vp_of hP c1 c2) hP
      exact ⟨j, h1, h2⟩
theorem isRoom_ne {S : xS} {R : Nat} (hR : R < 2147483648) (h : S 9 5 = nI R) {p : Int32} (hp : ¬ f_X2_isRoom S 9 p = 0) : ∃ j, j < R ∧ p = nI j := by
  unfold f_X2_isRoom at hp
  by_cases c1 : p < 0
  · rw [if_pos c1] at hp; exact absurd rfl hp
  · rw [if_neg c1, h] at hp
    by_cases c2 : nI R ≤ p
    · rw [if_pos c2] at hp; exact absurd rfl hp
    · obtain ⟨j, h1, h2⟩ := vp_in_of (vp_of hR c1 c2) hR
      exact ⟨j, h1, h2⟩
theorem two_eq {S : xS} {R P : Nat} (h : xRh S R P) (p q : Int32) : f_X11_areTwo S p q = f_X2_isPair S 9 p q := by
  unfold f_X11_areTwo f_X2_isPair
  rw [person_eq h, person_eq h]
theorem isPair_ne {S : xS} {P : Nat} (hP : P < 2147483648) (h : S 9 9 = nI P) {p q : Int32} (hp : ¬ f_X2_isPair S 9 p q = 0) : ∃ i j, i < P ∧ j < P ∧ i ≠ j ∧ p = nI i ∧ q = nI j := by
  unfold f_X2_isPair at hp
  dsimp only at hp
  by_cases c1 : f_X2_isPerson S 9 p = 0
  · rw [if_pos c1] at hp; exact absurd rfl hp
  · rw [if_neg c1] at hp
    by_cases c2 : f_X2_isPerson S 9 q = 0
    · rw [if_pos c2] at hp; exact absurd rfl hp
    · rw [if_neg c2] at hp
      by_cases c3 : p = q
      · rw [if_pos c3] at hp; exact absurd rfl hp
      · obtain ⟨i, h1, rfl⟩ := isPerson_ne hP h c1
        obtain ⟨j, h2, rfl⟩ := isPerson_ne hP h c2
        exact ⟨i, j, h1, h2, fun e => c3 (by rw [e]), rfl, rfl⟩
theorem nI_mul (a b : Nat) : nI a * nI b = nI (a * b) := pk_mul a b
theorem pair_nI (i j : Nat) : nI i * 7 + nI j = nI (7 * i + j) := by
  have e : (7 : Int32) = nI 7 := rfl
  rw [e, nI_mul, nI_add, Nat.mul_comm]
theorem op_liking {S : xS} (h : xR S) (p0 p1 : Int32) : s_X11_liking S p0 p1 ∧ f_X10_liking S p0 p1 = (f_X11_liking S p0 p1) ∧ xR S := by
  obtain ⟨R, P, a1, a2, -⟩ := h.2.2.1
  have hP : P ≤ 7 := a1.2.1
  have e := two_eq a1 p0 p1
  have hL : ∀ i j : Nat, 23 + 7 * nI i + nI j = nI (23 + (7 * i + j)) := fun i j => by
    have e23 : (23 : Int32) = nI 23 := rfl
    have e7 : (7 : Int32) = nI 7 := rfl
    rw [e23, e7, nI_mul, nI_add, nI_add, Nat.add_assoc]
  refine ⟨⟨fun _ => trivial, fun hc => ?_⟩, ?_, h⟩
  · rw [e] at hc
    obtain ⟨i, j, h1, h2, h3, rfl, rfl⟩ := isPair_ne (by omega) a1.2.2.2.2.2.1 hc
    refine ⟨?_, trivial⟩
    rw [hL]
    exact vp_in_nI (by omega) (by omega)
  · unfold f_X10_liking f_X11_liking
    dsimp only
    rw [e]
    by_cases hc : f_X2_isPair S 9 p0 p1 = 0
    · rw [if_pos hc, if_pos hc]
    · rw [if_neg hc, if_neg hc]
      obtain ⟨i, j, h1, h2, h3, rfl, rfl⟩ := isPair_ne (by omega) a1.2.2.2.2.2.1 hc
      rw [hL, nI_clamp (by omega)]
      have e3 : f_X10_pairIndex S (nI i) (nI j) = nI (7 * i + j) := by unfold f_X10_pairIndex; exact pair_nI i j
      rw [e3, at_in (N := 49) rfl (by omega) (by omega), a2.2.2.2 (7 * i + j) (by omega), Nat.zero_add]
