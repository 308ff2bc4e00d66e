theorem c_1 : (1 : Int32).toNatClampNeg = 1 := rfl
theorem c_0 : (0 : Int32).toNatClampNeg = 0 := rfl
theorem has_nI (S T : xS) (s : Int32) {k : Nat} (hk : k ≤ 30) : f_X10_has S s (nI k) = f_X11_has T s (nI k) := by
  unfold f_X10_has f_X11_has
  have e : (30 : Int32) = nI 30 := rfl
  rw [if_neg (nI_pos (by omega)), if_neg (by rw [e]; exact nI_nlt (by omega) (by omega))]
theorem words_eq (S T : xS) (a b c : Int32) : f_X11_sayBy S a b c = f_X10_words T a b c := rfl
theorem pair_at {S : xS} {k p q : Nat} (hk : xlen k = 49) (hp : p < 7) (hq : q < 7) : f_X10_at S k (f_X10_pairIndex S (nI p) (nI q)) = S k (7 * p + q) := by
  have e3 : f_X10_pairIndex S (nI p) (nI q) = nI (7 * p + q) := by unfold f_X10_pairIndex; exact pair_nI p q
  rw [e3, at_in (N := 49) hk (by omega) (by omega)]
theorem ix2 (p : Nat) : 2 + nI p = nI (2 + p) := nI_add 2 p
theorem ix9 (p : Nat) : 9 + nI p = nI (9 + p) := nI_add 9 p
theorem ix16 (p : Nat) : 16 + nI p = nI (16 + p) := nI_add 16 p
theorem ix23 (p q : Nat) : 23 + 7 * nI p + nI q = nI (23 + (7 * p + q)) := by
  have e7 : (7 : Int32) = nI 7 := rfl
  have e23 : (23 : Int32) = nI 23 := rfl
  rw [e7, e23, nI_mul, nI_add, nI_add, Nat.add_assoc]
theorem reaches_eq {S T : xS} {a b : Nat} (ha : a < 6) (hb : b < 6) (h : S 10 a = T 128 a) : f_X4_reaches S (nI a) (nI b) = if a = b then 1 else if f_X11_has T (T 128 a) (nI b) = 0 then 0 else 1 := by
  unfold f_X4_reaches
  dsimp only
  by_cases hab : a = b
  · rw [if_pos (by rw [hab]), if_pos hab]
  · rw [if_neg (fun e => hab (nI_inj (by omega) (by omega) e)), if_neg hab, at_in (N := 6) rfl ha (by decide), has_nI S T _ (by omega), h]
theorem hears_eq {S : xS} {k0 p q a b : Nat} (hp : p < 7) (hq : q < 7) (ha : a < 6) (hb : b < 6) (h : S 10 a = S 128 a) (e1 : S k0 (2 + p) = nI a) (e2 : S k0 (2 + q) = nI b) : f_X11_hears S k0 (nI p) (nI q) = f_X4_reaches S (nI a) (nI b) := by
  rw [reaches_eq ha hb h]
  unfold f_X11_hears
  dsimp only
  rw [ix2, ix2, nI_clamp (by omega), nI_clamp (by omega), e1, e2, nI_clamp (by omega)]
  by_cases hab : a = b
  · rw [if_pos (by rw [hab]), if_pos hab]
  · rw [if_neg (fun e => hab (nI_inj (by omega) (by omega) e)), if_neg hab]
theorem says_eq {S : xS} {R P : Nat} (h : xRh S R P) {k0 p q a b : Nat} (hp : p < P) (hq : q < P) (ha : a < R) (hb : b < R) (e1 : S k0 (2 + p) = nI a) (e2 : S k0 (2 + q) = nI b) (e3 : S k0 (23 + (7 * p + q)) = S 36 (7 * p + q)) : f_X11_says S k0 (nI p) (nI q) = f_X4_says S (nI p) (nI a) (nI q) (nI b) (f_X11_has S (S k0 1) (nI q)) := by
  obtain ⟨h1, h2, -, -, -, -, -, -, -, -, h11, h12, -, -⟩ := h
  have k1 : f_X10_at S 12 (nI p) = S 130 p := by rw [at_in (N := 7) rfl (by omega) (by decide)]; exact (h12 p hp).1
  have k2 := pair_at (S := S) (k := 36) (p := p) (q := q) rfl (by omega) (by omega)
  have k3 := reaches_eq (S := S) (T := S) (a := a) (b := b) (by omega) (by omega) (h11 a (by omega)).1
  unfold f_X11_says f_X4_says f_X11_isThere
  dsimp only
  rw [k1, k2, k3, ix2, ix2, ix23, nI_clamp (show p < 2 ^ 31 by omega), nI_clamp (show 2 + p < 2 ^ 31 by omega), nI_clamp (show 2 + q < 2 ^ 31 by omega), nI_clamp (show 23 + (7 * p + q) < 2 ^ 31 by omega), c_1, e1, e2, e3, nI_clamp (show a < 2 ^ 31 by omega)]
  simp only [words_eq _ S]
  by_cases hab : a = b
  · subst hab
    simp
  · have hn : ¬ nI a = nI b := fun e => hab (nI_inj (by omega) (by omega) e)
    rw [if_neg hn, if_neg hn, if_neg hn, if_neg hab]
    by_cases hc : f_X11_has S (S k0 1) (nI q) = 0
    · rw [if_pos hc, if_pos hc]; simp
    · rw [if_neg hc, if_neg hc]
      by_cases hk : S 130 p = 3
      · rw [if_pos hk, if_pos hk]; simp
      · rw [if_neg hk, if_neg hk]
        by_cases hr : f_X11_has S (S 128 a) (nI b) = 0
        · simp [hr]
        · simp [hr]
