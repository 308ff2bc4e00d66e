theorem n10 : ((1 : Int32) = 0) = False := eq_false (by decide)
theorem or_z (x : Int32) : x ||| 0 = x := by simp
section RM
variable {S : xS} {R P : Nat}
theorem le_9 (h : xRh S R P) : S 9 9 ≤ nI P := by rw [xhP9 h]; exact nI_le (Nat.le_refl _) (by have := xhP h; omega)
theorem le_7 (h : xRh S R P) : S 127 6 ≤ nI P := by rw [xhP7 h]; exact nI_le (Nat.le_refl _) (by have := xhP h; omega)
theorem nle_9 (h : xRh S R P) {i : Nat} (hi : i < P) : ¬ S 9 9 ≤ nI i := by rw [xhP9 h]; exact nI_ge hi (by have := xhP h; omega)
theorem nle_7 (h : xRh S R P) {i : Nat} (hi : i < P) : ¬ S 127 6 ≤ nI i := by rw [xhP7 h]; exact nI_ge hi (by have := xhP h; omega)
theorem le_9R (h : xRh S R P) : S 9 5 ≤ nI R := by rw [xhR9 h]; exact nI_le (Nat.le_refl _) (by have := xhR h; omega)
theorem le_7R (h : xRh S R P) : S 127 0 ≤ nI R := by rw [xhR7 h]; exact nI_le (Nat.le_refl _) (by have := xhR h; omega)
theorem nle_9R (h : xRh S R P) {i : Nat} (hi : i < R) : ¬ S 9 5 ≤ nI i := by rw [xhR9 h]; exact nI_ge hi (by have := xhR h; omega)
theorem nle_7R (h : xRh S R P) {i : Nat} (hi : i < R) : ¬ S 127 0 ≤ nI i := by rw [xhR7 h]; exact nI_ge hi (by have := xhR h; omega)
theorem fu_9 (h : xRh S R P) : P + 1 ≤ fu 0 (S 9 9) := by rw [xhP9 h, fu_0 (by have := xhP h; omega)]; omega
theorem fu_7 (h : xRh S R P) : P + 1 ≤ fu 0 (S 127 6) := by rw [xhP7 h, fu_0 (by have := xhP h; omega)]; omega
theorem fu_9R (h : xRh S R P) : R + 1 ≤ fu 0 (S 9 5) := by rw [xhR9 h, fu_0 (by have := xhR h; omega)]; omega
theorem fu_7R (h : xRh S R P) : R + 1 ≤ fu 0 (S 127 0) := by rw [xhR7 h, fu_0 (by have := xhR h; omega)]; omega
theorem at_rm (h : xRh S R P) (hk : xRk S 32 131 0) (hv : xRv S R P 131 0) {p : Nat} (hp : p < P) : f_X10_at S 33 (nI p) = nI (rmN S 131 p) := by
  have hP := xhP h
  rw [at_in (N := 7) rfl (by omega) (by decide), kR hk (by omega)]
  exact (rm_of (xhR h) hv hp).2
theorem c2n {p : Nat} (hp : p < 1000000) : (2 + nI p).toNatClampNeg = 2 + p := by rw [ix2, nI_clamp (by omega)]
theorem c9n {p : Nat} (hp : p < 1000000) : (9 + nI p).toNatClampNeg = 9 + p := by rw [ix9, nI_clamp (by omega)]
theorem c16n {p : Nat} (hp : p < 1000000) : (16 + nI p).toNatClampNeg = 16 + p := by rw [ix16, nI_clamp (by omega)]
theorem cn {p : Nat} (hp : p < 1000000) : (nI p).toNatClampNeg = p := nI_clamp (by omega)
theorem who_ok (h : xRh S R P) (hk : xRk S 32 131 0) (hv : xRv S R P 131 0) {r : Nat} (hr : r < R) : s_X4_personsIn S (nI (2 ^ r)) ∧ s_X11_whoIsIn S (nI r) ∧ f_X4_personsIn S (nI (2 ^ r)) = f_X11_whoIsIn S (nI r) := by
  have hP := xhP h
  have hR := xhR h
  have key := xl_b0 (α := Int32) (β := Int32) (γ := Int32 × Prop) (δ := Int32 × Prop)
    (fun n a x => (f_X4_personsIn_L4 n S (nI (2 ^ r)) a x, s_X4_personsIn_L4 n S (nI (2 ^ r)) a x))
    (fun n a x => (f_X11_whoIsIn_L4 n S (nI r) a x, s_X11_whoIsIn_L4 n S (nI r) a x))
    (fun z w => z.2 ∧ w.2 ∧ z.1 = w.1) P (fun _ a b => a = b)
    (fun n m a b hI => by
      simp only [f_X4_personsIn_L4, s_X4_personsIn_L4, f_X11_whoIsIn_L4, s_X11_whoIsIn_L4, le_9 h, le_7 h, hI, ↓reduceIte, eq_self, n10, not_true_eq_false, not_false_eq_true, true_implies, false_implies, true_and, and_true, implies_true, forall_const, Sum.elim_inl, Sum.elim_inr, and_self])
    (fun n m a b i hi hI => by
      subst hI
      obtain ⟨a1, a2⟩ := rm_of hR hv hi
      have e2 : f_X10_has S (nI (2 ^ r)) (nI (rmN S 131 i)) = if r = rmN S 131 i then 1 else 0 := by
        rw [has_k1 S (p31 (pw_lt hr) (by omega)) (by omega), Nat.testBit_two_pow]
        simp only [decide_eq_true_eq]
      have v1 : vp_in (2 + nI i) 72 := by rw [ix2]; exact vp_in_nI (by omega) (by decide)
      by_cases c : r = rmN S 131 i
      · rw [if_pos c] at e2
        have e3 : S 131 (2 + i) = nI r := by rw [a2, ← c]
        refine Or.inr ⟨a ||| nI (2 ^ i), a ||| nI (2 ^ i), rfl, fun ⟨h1, h2, h3⟩ => ?_⟩
        dsimp only at h1 h2 h3 ⊢
        simp only [f_X4_personsIn_L4, s_X4_personsIn_L4, f_X11_whoIsIn_L4, s_X11_whoIsIn_L4, nle_9 h hi, nle_7 h hi, at_rm h hk hv hi, e2, c2n (show i < 1000000 by omega), e3, bit_k S (show i ≤ 30 by omega), shl_k (show i ≤ 30 by omega), nI_1, h1, h2, h3, v1, ↓reduceIte, eq_self, n10, not_true_eq_false, not_false_eq_true, true_implies, false_implies, true_and, and_true, implies_true, forall_const, Sum.elim_inl, Sum.elim_inr, and_self]
      · rw [if_neg c] at e2
        have e3 : ¬ nI (rmN S 131 i) = nI r := fun e => c (nI_inj (by omega) (by omega) e).symm
        refine Or.inr ⟨a, a, rfl, fun ⟨h1, h2, h3⟩ => ?_⟩
        dsimp only at h1 h2 h3 ⊢
        simp only [f_X4_personsIn_L4, s_X4_personsIn_L4, f_X11_whoIsIn_L4, s_X11_whoIsIn_L4, nle_9 h hi, nle_7 h hi, at_rm h hk hv hi, e2, c2n (show i < 1000000 by omega), a2, e3, or_z, nI_1, h1, h2, h3, v1, ↓reduceIte, eq_self, n10, not_true_eq_false, not_false_eq_true, true_implies, false_implies, true_and, and_true, implies_true, forall_const, Sum.elim_inl, Sum.elim_inr, and_self])
    0 0 (fu_9 h) (fu_7 h) rfl
  exact ⟨⟨key.1, trivial⟩, ⟨key.2.1, trivial⟩, key.2.2⟩
end RM
theorem op_room {S : xS} (h : xR S) (p0 p1 : Int32) : s_X10_room S p0 p1 ∧ s_X11_room S p0 p1 ∧ f_X10_room S p0 p1 = (f_X11_room S p0 p1) ∧ xR S := by
  obtain ⟨R, P, hh, hk, hv, -⟩ := h.2.2.1
  have hR := xhR hh
  have e := room_eq hh p0
  refine ⟨⟨fun _ => trivial, fun hc => ?_⟩, ⟨fun _ => trivial, fun hc => ?_⟩, ?_, h⟩
  · obtain ⟨r, hr, rfl⟩ := isRoom_ne (by omega) (xhR9 hh) hc
    refine ⟨fun _ => ⟨?_, trivial⟩, fun _ => trivial⟩
    rw [bit_k S (by omega)]
    exact (who_ok hh hk hv hr).1
  · rw [e] at hc
    obtain ⟨r, hr, rfl⟩ := isRoom_ne (by omega) (xhR9 hh) hc
    exact ⟨fun _ => ⟨(who_ok hh hk hv hr).2.1, trivial⟩, fun _ => ⟨fun _ => ⟨vp_in_nI (by omega) (by decide), trivial⟩, fun _ => ⟨fun _ => ⟨vp_in_nI (by omega) (by decide), trivial⟩, fun _ => trivial⟩⟩⟩
  · unfold f_X10_room f_X11_room
    dsimp only
    rw [e]
    by_cases hc : f_X2_isRoom S 9 p0 = 0
    · rw [if_pos hc, if_pos hc]
    · rw [if_neg hc, if_neg hc]
      obtain ⟨r, hr, rfl⟩ := isRoom_ne (by omega) (xhR9 hh) hc
      rw [bit_k S (by omega), (who_ok hh hk hv hr).2.2, at_in (N := 6) rfl (by omega) (by decide), at_in (N := 6) rfl (by omega) (by decide), nI_clamp (by omega), (xhA hh (by omega)).1, (xhA hh (by omega)).2]
