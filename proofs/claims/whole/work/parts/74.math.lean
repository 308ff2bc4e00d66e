/-! LOOPS AND BITS -/
/-- a loop that counts up to N: its invariant, what is shown of its end -/
theorem xl_a {α γ : Type} (F : Nat → α → Int32 → γ) (P : γ → Prop) (N : Nat) (Inv : Nat → α → Prop)
    (h0 : ∀ n a, Inv N a → P (F (n + 1) a (nI N)))
    (h1 : ∀ n a i, i < N → Inv i a → P (F (n + 1) a (nI i)) ∨ ∃ a', Inv (i + 1) a' ∧ (P (F n a' (nI (i + 1))) → P (F (n + 1) a (nI i)))) :
    ∀ d i a n, i + d = N → d + 1 ≤ n → Inv i a → P (F n a (nI i)) := by
  intro d
  induction d with
  | zero =>
    intro i a n hi hn hI
    have hi : i = N := hi
    subst hi
    cases n with
    | zero => exact absurd hn (by omega)
    | succ n => exact h0 n a hI
  | succ d ih =>
    intro i a n hi hn hI
    cases n with
    | zero => exact absurd hn (by omega)
    | succ n =>
      rcases h1 n a i (by omega) hI with h | ⟨a', h2, h3⟩
      · exact h
      · exact h3 (ih (i + 1) a' n (by omega) (by omega) h2)
theorem xl_a0 {α γ : Type} (F : Nat → α → Int32 → γ) (P : γ → Prop) (N : Nat) (Inv : Nat → α → Prop)
    (h0 : ∀ n a, Inv N a → P (F (n + 1) a (nI N)))
    (h1 : ∀ n a i, i < N → Inv i a → P (F (n + 1) a (nI i)) ∨ ∃ a', Inv (i + 1) a' ∧ (P (F n a' (nI (i + 1))) → P (F (n + 1) a (nI i))))
    {n : Nat} (a : α) (hn : N + 1 ≤ n) (h : Inv 0 a) : P (F n a 0) :=
  xl_a F P N Inv h0 h1 N 0 a n (by omega) hn h
/-- two loops in step -/
theorem xl_b {α β γ δ : Type} (F : Nat → α → Int32 → γ) (G : Nat → β → Int32 → δ) (P : γ → δ → Prop) (N : Nat) (Inv : Nat → α → β → Prop)
    (h0 : ∀ n m a b, Inv N a b → P (F (n + 1) a (nI N)) (G (m + 1) b (nI N)))
    (h1 : ∀ n m a b i, i < N → Inv i a b → P (F (n + 1) a (nI i)) (G (m + 1) b (nI i)) ∨ ∃ a' b', Inv (i + 1) a' b' ∧ (P (F n a' (nI (i + 1))) (G m b' (nI (i + 1))) → P (F (n + 1) a (nI i)) (G (m + 1) b (nI i)))) :
    ∀ d i a b n m, i + d = N → d + 1 ≤ n → d + 1 ≤ m → Inv i a b → P (F n a (nI i)) (G m b (nI i)) := by
  intro d
  induction d with
  | zero =>
    intro i a b n m hi hn hm hI
    have hi : i = N := hi
    subst hi
    cases n with
    | zero => exact absurd hn (by omega)
    | succ n =>
      cases m with
      | zero => exact absurd hm (by omega)
      | succ m => exact h0 n m a b hI
  | succ d ih =>
    intro i a b n m hi hn hm hI
    cases n with
    | zero => exact absurd hn (by omega)
    | succ n =>
      cases m with
      | zero => exact absurd hm (by omega)
      | succ m =>
        rcases h1 n m a b i (by omega) hI with h | ⟨a', b', h2, h3⟩
        · exact h
        · exact h3 (ih (i + 1) a' b' n m (by omega) (by omega) (by omega) h2)
theorem xl_b0 {α β γ δ : Type} (F : Nat → α → Int32 → γ) (G : Nat → β → Int32 → δ) (P : γ → δ → Prop) (N : Nat) (Inv : Nat → α → β → Prop)
    (h0 : ∀ n m a b, Inv N a b → P (F (n + 1) a (nI N)) (G (m + 1) b (nI N)))
    (h1 : ∀ n m a b i, i < N → Inv i a b → P (F (n + 1) a (nI i)) (G (m + 1) b (nI i)) ∨ ∃ a' b', Inv (i + 1) a' b' ∧ (P (F n a' (nI (i + 1))) (G m b' (nI (i + 1))) → P (F (n + 1) a (nI i)) (G (m + 1) b (nI i))))
    {n m : Nat} (a : α) (b : β) (hn : N + 1 ≤ n) (hm : N + 1 ≤ m) (h : Inv 0 a b) : P (F n a 0) (G m b 0) :=
  xl_b F G P N Inv h0 h1 N 0 a b n m (by omega) hn hm h
theorem fu_n {i N : Nat} (h : i ≤ N) (hN : N < 2147483648) : fu (nI i) (nI N) = N - i + 2 := by
  unfold fu
  rw [nI_toInt (by omega), nI_toInt (by omega)]
  omega
theorem fu_0 {N : Nat} (hN : N < 2147483648) : fu 0 (nI N) = N + 2 := by
  have h := fu_n (i := 0) (Nat.zero_le N) hN
  rw [nI_0] at h
  omega
theorem fd_n {N : Nat} (hN : N < 2147483648) : fd (nI N) = N + 2 := by
  unfold fd
  rw [nI_toInt (by omega)]
  omega
theorem fa_and (a b : Nat) : nI a &&& nI b = nI (a &&& b) := by
  apply Int32.toBitVec_inj.1
  show BitVec.ofNat 32 a &&& BitVec.ofNat 32 b = BitVec.ofNat 32 (a &&& b)
  apply BitVec.eq_of_getLsbD_eq
  intro i hi
  simp [hi]
theorem fa_or (a b : Nat) : nI a ||| nI b = nI (a ||| b) := by
  apply Int32.toBitVec_inj.1
  show BitVec.ofNat 32 a ||| BitVec.ofNat 32 b = BitVec.ofNat 32 (a ||| b)
  apply BitVec.eq_of_getLsbD_eq
  intro i hi
  simp [hi]
theorem sl_k : ∀ n, n < 32 → ((nI n &&& 31).toBitVec.smod 32).toNat = n := by decide
theorem shl_k {k : Nat} (hk : k ≤ 30) : (1 : Int32) <<< (nI k &&& 31) = nI (2 ^ k) := by
  have h2 : (2 : Nat) ^ k < 2 ^ 31 := Nat.pow_lt_pow_right (by decide) (by omega)
  have h := pk_shlN (n := 1) (nI k &&& 31) k (sl_k k (by omega)) (by omega)
  rw [Nat.one_mul] at h
  exact h
theorem bit_k (S : xS) {k : Nat} (hk : k ≤ 30) : f_X10_bit S (nI k) = nI (2 ^ k) := by
  unfold f_X10_bit
  have e : (30 : Int32) = nI 30 := rfl
  rw [if_neg (nI_pos (by omega)), if_neg (by rw [e]; exact nI_nlt (by omega) (by omega)), shl_k hk]
theorem and1 {w : Nat} : nI w &&& 1 = nI (w % 2) := by
  have e : (1 : Int32) = nI 1 := rfl
  rw [e, fa_and, Nat.and_one_is_mod]
theorem hasR {w k : Nat} (hw : w < 2147483648) (hk : k ≤ 30) : ((nI w >>> (nI k &&& 31)) &&& 1) = nI (if w.testBit k then 1 else 0) := by
  rw [pk_shrN (by omega) _ k (sl_k k (by omega)), and1, Nat.testBit_eq_decide_div_mod_eq]
  by_cases h : w / 2 ^ k % 2 = 1
  · rw [h]; simp
  · rw [show w / 2 ^ k % 2 = 0 by omega]; simp
theorem has_k (S : xS) {w k : Nat} (hw : w < 2147483648) (hk : k ≤ 30) : f_X11_has S (nI w) (nI k) = if w.testBit k then 1 else 0 := by
  unfold f_X11_has
  rw [hasR hw hk]
  by_cases h : w.testBit k = true
  · rw [if_pos h, if_pos h]; rfl
  · rw [if_neg h, if_neg h]; rfl
theorem has_k1 (S : xS) {w k : Nat} (hw : w < 2147483648) (hk : k ≤ 30) : f_X10_has S (nI w) (nI k) = if w.testBit k then 1 else 0 := by
  rw [has_nI S S _ hk, has_k S hw hk]
theorem tb_or (n j i : Nat) : (n ||| 2 ^ j).testBit i = (n.testBit i || decide (j = i)) := by
  rw [Nat.testBit_or, Nat.testBit_two_pow]
theorem pw_lt {a b : Nat} (h : a < b) : (2 : Nat) ^ a < 2 ^ b := Nat.pow_lt_pow_right (by decide) h
theorem or_lt {a b n : Nat} (h1 : a < 2 ^ n) (h2 : b < 2 ^ n) : a ||| b < 2 ^ n := Nat.or_lt_two_pow h1 h2
theorem p31 {a n : Nat} (h : a < 2 ^ n) (hn : n ≤ 30) : a < 2147483648 := by
  have h2 : (2 : Nat) ^ n ≤ 2 ^ 30 := Nat.pow_le_pow_right (by decide) hn
  omega
/-! THE STATE'S PARTS BY THEIR NAMES -/
section HP
variable {S : xS} {R P : Nat}
theorem xhR (h : xRh S R P) : R ≤ 6 := h.1
theorem xhP (h : xRh S R P) : P ≤ 7 := h.2.1
theorem xhR9 (h : xRh S R P) : S 9 5 = nI R := h.2.2.2.1
theorem xhR7 (h : xRh S R P) : S 127 0 = nI R := h.2.2.2.2.1
theorem xhP9 (h : xRh S R P) : S 9 9 = nI P := h.2.2.2.2.2.1
theorem xhP7 (h : xRh S R P) : S 127 6 = nI P := h.2.2.2.2.2.2.1
theorem xhC (h : xRh S R P) : S 9 6 = S 127 1 := h.2.2.2.2.2.2.2.1
theorem xhA (h : xRh S R P) {r : Nat} (hr : r < 6) : S 10 r = S 128 r ∧ S 11 r = S 129 r := h.2.2.2.2.2.2.2.2.2.2.1 r hr
theorem xhK (h : xRh S R P) {p : Nat} (hp : p < P) : S 12 p = S 130 p ∧ ∃ d, d < 4 ∧ S 130 p = nI d := h.2.2.2.2.2.2.2.2.2.2.2.1 p hp
theorem xhH (h : xRh S R P) {r : Nat} (hr : r < R) : ∃ w, w < 2 ^ R ∧ S 128 r = nI w := h.2.2.2.2.2.2.2.2.2.2.2.2.1 r hr
theorem xhL (h : xRh S R P) {r : Nat} (hr : r < R) : ∃ w, w < 2 ^ R ∧ S 129 r = nI w := h.2.2.2.2.2.2.2.2.2.2.2.2.2 r hr
/-- whose room, as a number -/
def rmN (S : xS) (m p : Nat) : Nat := (S m (2 + p)).toNatClampNeg
theorem rm_of {m : Nat} (hR : R ≤ 6) (h : xRv S R P m 0) {p : Nat} (hp : p < P) : rmN S m p < R ∧ S m (2 + p) = nI (rmN S m p) := by
  obtain ⟨r, h1, h2⟩ := h.2.2.1 p hp
  rw [Nat.zero_add] at h2
  unfold rmN
  rw [h2, nI_clamp (by omega)]
  exact ⟨h1, rfl⟩
/-- the hour, as a number -/
theorem hr_of {m : Nat} (h : xRv S R P m 0) : ∃ k, k ≤ 9100 ∧ S m 0 = nI k := h.1
theorem co_of {m : Nat} (h : xRv S R P m 0) : ∃ w, w < 2 ^ P ∧ S m 1 = nI w := h.2.1
theorem wm_of {m : Nat} (h : xRv S R P m 0) {p : Nat} (hp : p < 7) : -9999 ≤ (S m (9 + p)).toInt ∧ (S m (9 + p)).toInt ≤ 9999 := by
  have := h.2.2.2.1 p hp
  rw [Nat.zero_add] at this
  exact this
theorem ch_of {m : Nat} (h : xRv S R P m 0) {p : Nat} (hp : p < 7) : ∃ c, c ≤ 99 ∧ S m (16 + p) = nI c := by
  have := h.2.2.2.2.1 p hp
  rw [Nat.zero_add] at this
  exact this
theorem lk_of {m : Nat} (h : xRv S R P m 0) {j : Nat} (hj : j < 49) : ∃ v, v ≤ 9 ∧ S m (23 + j) = nI v := by
  have := h.2.2.2.2.2 j hj
  rw [Nat.zero_add] at this
  exact this
theorem kH (h : xRk S 32 131 0) : S 32 5 = S 131 0 := h.1
theorem kC (h : xRk S 32 131 0) : S 32 4 = S 131 1 := h.2.1
theorem kR (h : xRk S 32 131 0) {p : Nat} (hp : p < 7) : S 33 p = S 131 (2 + p) := by
  have := (h.2.2.1 p hp).1
  rw [Nat.zero_add] at this
  exact this
theorem kW (h : xRk S 32 131 0) {p : Nat} (hp : p < 7) : S 34 p = S 131 (9 + p) := by
  have := (h.2.2.1 p hp).2.1
  rw [Nat.zero_add] at this
  exact this
theorem kX (h : xRk S 32 131 0) {p : Nat} (hp : p < 7) : S 35 p = S 131 (16 + p) := by
  have := (h.2.2.1 p hp).2.2
  rw [Nat.zero_add] at this
  exact this
theorem kL (h : xRk S 32 131 0) {j : Nat} (hj : j < 49) : S 36 j = S 131 (23 + j) := by
  have := h.2.2.2 j hj
  rw [Nat.zero_add] at this
  exact this
/-! WHAT IS SAID -/
theorem wd_bd : ∀ v, v ≤ 9 → (-9 ≤ (nI v - 9).toInt ∧ (nI v - 9).toInt ≤ 9) ∧ (-9 ≤ (nI v).toInt ∧ (nI v).toInt ≤ 9) ∧ (-9 ≤ (nI v / 2).toInt ∧ (nI v / 2).toInt ≤ 9) ∧ -9 ≤ ((nI v - 9) / 2).toInt ∧ ((nI v - 9) / 2).toInt ≤ 9 := by
  intro v hv
  have h : ∀ v : Fin 10, (-9 ≤ (nI v.val - 9).toInt ∧ (nI v.val - 9).toInt ≤ 9) ∧ (-9 ≤ (nI v.val).toInt ∧ (nI v.val).toInt ≤ 9) ∧ (-9 ≤ (nI v.val / 2).toInt ∧ (nI v.val / 2).toInt ≤ 9) ∧ -9 ≤ ((nI v.val - 9) / 2).toInt ∧ ((nI v.val - 9) / 2).toInt ≤ 9 := by decide +kernel
  exact h ⟨v, by omega⟩
theorem words_bd (S : xS) (k t : Int32) {v : Nat} (hv : v ≤ 9) : -9 ≤ (f_X10_words S k (nI v) t).toInt ∧ (f_X10_words S k (nI v) t).toInt ≤ 9 := by
  obtain ⟨h1, h2, h3, h4⟩ := wd_bd v hv
  have h5 : -9 ≤ (0 : Int32).toInt ∧ (0 : Int32).toInt ≤ 9 := by decide
  unfold f_X10_words
  repeat' split
  all_goals first | exact h1 | exact h2 | exact h3 | exact h4 | exact h5
theorem says4_bd (S : xS) {p q v : Nat} (a b c : Int32) (hp : p < 7) (hq : q < 7) (hv : v ≤ 9) (h : S 36 (7 * p + q) = nI v) : -9 ≤ (f_X4_says S (nI p) a (nI q) b c).toInt ∧ (f_X4_says S (nI p) a (nI q) b c).toInt ≤ 9 := by
  unfold f_X4_says
  dsimp only
  rw [pair_at (k := 36) rfl hp hq, h]
  repeat' split
  all_goals exact words_bd S _ _ hv
/-- what p says of q by a row of the reference's -/
theorem s_there {S : xS} {a : Nat} (ha : a < 6) (x y : Int32) : s_X11_isThere S (nI a) x y := ⟨fun _ => trivial, fun _ => ⟨fun _ => trivial, fun _ => ⟨vp_in_nI ha (by decide), trivial⟩⟩⟩
theorem s_says {k0 p q a : Nat} (hx : xlen k0 = 72) (hp : p < 7) (hq : q < 7) (ha : a < 6) (e : S k0 (2 + p) = nI a) : s_X11_says S k0 (nI p) (nI q) := by
  have v1 : vp_in (2 + nI p) (xlen k0) := by rw [ix2, hx]; exact vp_in_nI (by omega) (by decide)
  have v2 : vp_in (2 + nI q) (xlen k0) := by rw [ix2, hx]; exact vp_in_nI (by omega) (by decide)
  have v3 : vp_in (23 + 7 * nI p + nI q) (xlen k0) := by rw [ix23, hx]; exact vp_in_nI (by omega) (by decide)
  have v4 : vp_in 1 (xlen k0) := by rw [hx]; exact vp_in_nI (n := 1) (by omega) (by decide)
  have v5 : ∀ x y, s_X11_isThere S (S k0 (2 + nI p).toNatClampNeg) x y := fun x y => by rw [ix2, nI_clamp (by omega), e]; exact s_there ha x y
  exact ⟨v1, v2, vp_in_nI hp (by decide), fun _ => ⟨v5 _ _, v3, trivial⟩, fun _ => ⟨v4, fun _ => ⟨v5 _ _, v3, trivial⟩, fun _ => ⟨v5 _ _, v3, trivial⟩⟩⟩
theorem s_hears {k0 p q a : Nat} (hx : xlen k0 = 72) (hp : p < 7) (hq : q < 7) (ha : a < 6) (e : S k0 (2 + p) = nI a) : s_X11_hears S k0 (nI p) (nI q) := by
  have v1 : vp_in (2 + nI p) (xlen k0) := by rw [ix2, hx]; exact vp_in_nI (by omega) (by decide)
  have v2 : vp_in (2 + nI q) (xlen k0) := by rw [ix2, hx]; exact vp_in_nI (by omega) (by decide)
  refine ⟨v1, v2, fun _ => trivial, fun _ => ⟨?_, trivial⟩⟩
  rw [ix2, nI_clamp (by omega), e]
  exact vp_in_nI ha (by decide)
/-- what p says of q now -/
def sy (S : xS) (p q : Nat) : Int32 := f_X11_says S 131 (nI p) (nI q)
theorem sy_says (h : xRh S R P) (hk : xRk S 32 131 0) (hv : xRv S R P 131 0) {p q : Nat} (hp : p < P) (hq : q < P) : f_X4_saysNow S (nI p) (nI q) = sy S p q := by
  have hP := xhP h
  have hR := xhR h
  obtain ⟨a1, a2⟩ := rm_of hR hv hp
  obtain ⟨b1, b2⟩ := rm_of hR hv hq
  have e := says_eq h (k0 := 131) hp hq a1 b1 a2 b2 (kL hk (j := 7 * p + q) (by omega)).symm
  unfold sy
  rw [e]
  unfold f_X4_saysNow
  dsimp only
  rw [at_in (N := 7) rfl (by omega) (by decide), at_in (N := 7) rfl (by omega) (by decide), kR hk (by omega), kR hk (by omega), a2, b2, kC hk, has_nI S S _ (by omega)]
theorem sy_bd (h : xRh S R P) (hk : xRk S 32 131 0) (hv : xRv S R P 131 0) {p q : Nat} (hp : p < P) (hq : q < P) : -9 ≤ (sy S p q).toInt ∧ (sy S p q).toInt ≤ 9 := by
  have hP := xhP h
  have hR := xhR h
  obtain ⟨a1, a2⟩ := rm_of hR hv hp
  obtain ⟨b1, b2⟩ := rm_of hR hv hq
  have e := says_eq h (k0 := 131) hp hq a1 b1 a2 b2 (kL hk (j := 7 * p + q) (by omega)).symm
  unfold sy
  rw [e]
  obtain ⟨v, v1, v2⟩ := lk_of hv (j := 7 * p + q) (by omega)
  exact says4_bd S _ _ _ (by omega) (by omega) v1 ((kL hk (by omega)).trans v2)
theorem sy_s (h : xRh S R P) (hv : xRv S R P 131 0) {p q : Nat} (hp : p < P) (hq : q < P) : s_X11_says S 131 (nI p) (nI q) := by
  have hP := xhP h
  have hR := xhR h
  obtain ⟨a1, a2⟩ := rm_of hR hv hp
  exact s_says rfl (by omega) (by omega) (by omega) a2
end HP
/-! CALLS: person, said -/
theorem op_person {S : xS} (h : xR S) (p0 p1 : Int32) : s_X11_person S p0 p1 ∧ f_X10_person S p0 p1 = (f_X11_person S p0 p1) ∧ xR S := by
  obtain ⟨R, P, hh, hk, hv, -⟩ := h.2.2.1
  have hP := xhP hh
  have e := person_eq hh p0
  refine ⟨⟨fun _ => trivial, fun hc => ?_⟩, ?_, h⟩
  · rw [e] at hc
    obtain ⟨p, hp, rfl⟩ := isPerson_ne (by omega) (xhP9 hh) hc
    refine ⟨fun _ => ⟨vp_in_nI (by omega) (by decide), trivial⟩, fun _ => ⟨fun _ => ⟨?_, trivial⟩, fun _ => ⟨fun _ => ⟨?_, trivial⟩, fun _ => ⟨fun _ => ⟨?_, trivial⟩, fun _ => trivial⟩⟩⟩⟩
    · rw [ix2]; exact vp_in_nI (by omega) (by decide)
    · rw [ix9]; exact vp_in_nI (by omega) (by decide)
    · rw [ix16]; exact vp_in_nI (by omega) (by decide)
  · unfold f_X10_person f_X11_person
    dsimp only
    rw [e]
    by_cases hc : f_X2_isPerson S 9 p0 = 0
    · rw [if_pos hc, if_pos hc]
    · rw [if_neg hc, if_neg hc]
      obtain ⟨p, hp, rfl⟩ := isPerson_ne (by omega) (xhP9 hh) hc
      obtain ⟨w, w1, w2⟩ := co_of hv
      have hw := p31 w1 (by omega)
      rw [ix2, ix9, ix16, nI_clamp (by omega), nI_clamp (by omega), nI_clamp (by omega), nI_clamp (by omega), at_in (N := 7) rfl (by omega) (by decide), at_in (N := 7) rfl (by omega) (by decide), at_in (N := 7) rfl (by omega) (by decide), at_in (N := 7) rfl (by omega) (by decide), (xhK hh hp).1, kR hk (by omega), kW hk (by omega), kX hk (by omega), kC hk, c_1, w2, has_k1 S hw (by omega), hasR hw (by omega)]
      by_cases t : w.testBit p = true
      · rw [if_pos t, if_pos t]; rfl
      · rw [if_neg t, if_neg t]; rfl
theorem op_said {S : xS} (h : xR S) (p0 p1 p2 : Int32) : s_X11_said S p0 p1 p2 ∧ f_X10_said S p0 p1 p2 = (f_X11_said S p0 p1 p2) ∧ xR S := by
  obtain ⟨R, P, hh, hk, hv, -⟩ := h.2.2.1
  have hP := xhP hh
  have hR := xhR hh
  have e := two_eq hh p0 p1
  refine ⟨⟨fun _ => trivial, fun hc => ?_⟩, ?_, h⟩
  · rw [e] at hc
    obtain ⟨p, q, hp, hq, -, rfl, rfl⟩ := isPair_ne (by omega) (xhP9 hh) hc
    obtain ⟨a1, a2⟩ := rm_of hR hv hp
    exact ⟨fun _ => ⟨sy_s hh hv hp hq, trivial⟩, fun _ => ⟨fun _ => ⟨s_hears rfl (by omega) (by omega) (by omega) a2, trivial⟩, fun _ => trivial⟩⟩
  · unfold f_X10_said f_X11_said
    dsimp only
    rw [e]
    by_cases hc : f_X2_isPair S 9 p0 p1 = 0
    · rw [if_pos hc, if_pos hc]
    · rw [if_neg hc, if_neg hc]
      obtain ⟨p, q, hp, hq, -, rfl, rfl⟩ := isPair_ne (by omega) (xhP9 hh) hc
      obtain ⟨a1, a2⟩ := rm_of hR hv hp
      obtain ⟨b1, b2⟩ := rm_of hR hv hq
      rw [sy_says hh hk hv hp hq, hears_eq (k0 := 131) (by omega) (by omega) (by omega) (by omega) (xhA hh (by omega)).1 a2 b2, at_in (N := 7) rfl (by omega) (by decide), at_in (N := 7) rfl (by omega) (by decide), kR hk (by omega), kR hk (by omega), a2, b2]
      rfl
