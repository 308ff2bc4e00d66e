/-! THE MATH: how the class's cells and the reference's go together -/
theorem xu_ne {S : xS} {k j a : Nat} {v : Int32} (h : a ≠ k) : xu S k j v a = S a := by unfold xu; rw [if_neg h]
theorem xu_eq {S : xS} {k j : Nat} {v : Int32} : xu S k j v k = upd (S k) j v := by unfold xu; rw [if_pos rfl]
theorem upd_eq {f : Nat → Int32} {j : Nat} {v : Int32} : upd f j v j = v := by unfold upd; rw [if_pos rfl]
theorem upd_ne {f : Nat → Int32} {j i : Nat} {v : Int32} (h : i ≠ j) : upd f j v i = f i := by unfold upd; rw [if_neg h]
theorem xr_ne {S : xS} {k a : Nat} {f : Nat → Int32} (h : a ≠ k) : xr S k f a = S a := by unfold xr; rw [if_neg h]
theorem xr_eq {S : xS} {k : Nat} {f : Nat → Int32} : xr S k f k = f := by unfold xr; rw [if_pos rfl]
/-- the text -/
def xRt (S : xS) : Prop := ∃ n : Nat, n ≤ 240 ∧ S 1 2 = nI n ∧ S 127 19 = nI n ∧ ∀ i, i < n → S 2 i = S 138 i ∧ 0 ≤ (S 138 i).toInt
/-- the hill: R rooms, P persons -/
def xRh (S : xS) (R P : Nat) : Prop := R ≤ 6 ∧ P ≤ 7 ∧ (0 < P → 2 ≤ R) ∧ S 9 5 = nI R ∧ S 127 0 = nI R ∧ S 9 9 = nI P ∧ S 127 6 = nI P ∧ S 9 6 = S 127 1 ∧ S 9 7 = S 127 2 ∧ S 9 8 = S 127 3 ∧ (∀ r, r < 6 → S 10 r = S 128 r ∧ S 11 r = S 129 r) ∧ (∀ p, p < P → S 12 p = S 130 p ∧ ∃ d, d < 4 ∧ S 130 p = nI d) ∧ (∀ r, r < R → ∃ w, w < 2 ^ R ∧ S 128 r = nI w) ∧ ∀ r, r < R → ∃ w, w < 2 ^ R ∧ S 129 r = nI w
/-- a Talk t of the class against a row of the reference, from o on -/
def xRk (S : xS) (t m o : Nat) : Prop := S t 5 = S m o ∧ S t 4 = S m (o + 1) ∧ (∀ p, p < 7 → S (t + 1) p = S m (o + (2 + p)) ∧ S (t + 2) p = S m (o + (9 + p)) ∧ S (t + 3) p = S m (o + (16 + p))) ∧ ∀ j, j < 49 → S (t + 4) j = S m (o + (23 + j))
/-- a row of the reference is what a talk can be -/
def xRv (S : xS) (R P m o : Nat) : Prop := (∃ h, h ≤ 9100 ∧ S m o = nI h) ∧ (∃ w, w < 2 ^ P ∧ S m (o + 1) = nI w) ∧ (∀ p, p < P → ∃ r, r < R ∧ S m (o + (2 + p)) = nI r) ∧ (∀ p, p < 7 → -9999 ≤ (S m (o + (9 + p))).toInt ∧ (S m (o + (9 + p))).toInt ≤ 9999) ∧ (∀ p, p < 7 → ∃ r, r ≤ 99 ∧ S m (o + (16 + p)) = nI r) ∧ ∀ j, j < 49 → ∃ v, v ≤ 9 ∧ S m (o + (23 + j)) = nI v
def xRp (S : xS) (R P : Nat) : Prop := ∃ n c : Nat, n < 16 ∧ c ≤ 16 ∧ S 27 1 = nI n ∧ S 27 2 = nI c ∧ S 127 36 = nI c ∧ ∀ j, j < c → xRk S (37 + 5 * ((n + 16 - c + j) % 16)) 144 (72 * j) ∧ xRv S R P 144 (72 * j)
def xRn (S : xS) : Prop := ∃ c : Nat, c ≤ 6 ∧ S 19 3 = nI c ∧ S 127 11 = nI c ∧ ∀ i, i < c → S 20 i = S 133 i ∧ S 21 i = S 134 i ∧ S 22 i = S 135 i ∧ (∃ d, d < 3 ∧ S 133 i = nI d) ∧ (-9 ≤ (S 134 i).toInt ∧ (S 134 i).toInt ≤ 9) ∧ (S 135 i = 0 ∨ S 135 i = 1)
def xRb (S : xS) (P : Nat) : Prop := ∃ c : Nat, c ≤ 15 ∧ S 23 2 = nI c ∧ S 127 15 = nI c ∧ ∀ i, i < c → S 24 i = S 136 i ∧ S 25 i = S 137 i ∧ ∃ p, p < P ∧ S 136 i = nI p
def xRd (S : xS) : Prop := ∃ d : Nat, d < 2147483648 ∧ S 26 0 = nI d ∧ S 127 10 = nI d
def xRi (S : xS) (R P : Nat) : Prop := ∀ i, i < 2 → S (30 + i) 2 = S 147 i ∧ (S 147 i = 0 ∨ S 147 i = 1) ∧ (S 147 i = 1 → xRk S (117 + 5 * i) 146 (73 * i) ∧ xRv S R P 146 (73 * i) ∧ S (30 + i) 1 = S 146 (73 * i + 72) ∧ ∃ d, d < 2147483648 ∧ S 146 (73 * i + 72) = nI d)
def xRg (S : xS) : Prop := ∃ R P : Nat, xRh S R P ∧ xRk S 32 131 0 ∧ xRv S R P 131 0 ∧ xRp S R P ∧ xRb S P ∧ xRi S R P
def xR (S : xS) : Prop := xRt S ∧ S 1 4 = S 127 20 ∧ xRg S ∧ xRn S ∧ xRd S
section CG
variable {S T : xS} {R P t m o : Nat}
theorem xRt_cg (e1 : T 1 2 = S 1 2) (e2 : T 2 = S 2) (e19 : T 127 19 = S 127 19) (e138 : T 138 = S 138) (h : xRt S) : xRt T := by
  unfold xRt at h ⊢
  rw [e1, e2, e19, e138]
  exact h
theorem xRh_cg (e : ∀ a, 9 ≤ a → a ≤ 12 → T a = S a) (e0 : ∀ j, j = 0 ∨ j = 1 ∨ j = 2 ∨ j = 3 ∨ j = 6 → T 127 j = S 127 j) (em : ∀ a, 128 ≤ a → a ≤ 130 → T a = S a) (h : xRh S R P) : xRh T R P := by
  unfold xRh at h ⊢
  rw [e 9 (by omega) (by omega), e 10 (by omega) (by omega), e 11 (by omega) (by omega), e 12 (by omega) (by omega), em 128 (by omega) (by omega), em 129 (by omega) (by omega), em 130 (by omega) (by omega), e0 0 (by omega), e0 1 (by omega), e0 2 (by omega), e0 3 (by omega), e0 6 (by omega)]
  exact h
theorem xRk_cg (ea : ∀ i, i ≤ 4 → T (t + i) = S (t + i)) (em : T m = S m) (h : xRk S t m o) : xRk T t m o := by
  have e0 := ea 0 (by omega)
  rw [Nat.add_zero] at e0
  unfold xRk at h ⊢
  rw [e0, em, ea 1 (by omega), ea 2 (by omega), ea 3 (by omega), ea 4 (by omega)]
  exact h
theorem xRv_cg (em : T m = S m) (h : xRv S R P m o) : xRv T R P m o := by
  unfold xRv at h ⊢
  rw [em]
  exact h
theorem xRp_cg (e27 : T 27 = S 27) (eT : ∀ a, 37 ≤ a → a < 117 → T a = S a) (eu : T 127 36 = S 127 36) (e144 : T 144 = S 144) (h : xRp S R P) : xRp T R P := by
  obtain ⟨n, c, h1, h2, h3, h4, h5, h6⟩ := h
  refine ⟨n, c, h1, h2, by rw [e27]; exact h3, by rw [e27]; exact h4, by rw [eu]; exact h5, fun j hj => ?_⟩
  obtain ⟨a, b⟩ := h6 j hj
  have hm := Nat.mod_lt (n + 16 - c + j) (show 0 < 16 by omega)
  exact ⟨xRk_cg (fun i hi => eT _ (by omega) (by omega)) e144 a, xRv_cg e144 b⟩
theorem xRb_cg (e : ∀ a, 23 ≤ a → a ≤ 25 → T a = S a) (e15 : T 127 15 = S 127 15) (e136 : T 136 = S 136) (e137 : T 137 = S 137) (h : xRb S P) : xRb T P := by
  unfold xRb at h ⊢
  rw [e 23 (by omega) (by omega), e 24 (by omega) (by omega), e 25 (by omega) (by omega), e15, e136, e137]
  exact h
theorem xRi_cg (e : ∀ a, a = 30 ∨ a = 31 ∨ (117 ≤ a ∧ a < 127) → T a = S a) (e146 : T 146 = S 146) (e147 : T 147 = S 147) (h : xRi S R P) : xRi T R P := fun i hi => by
  obtain ⟨a, b, c⟩ := h i hi
  rw [e (30 + i) (by omega), e147, e146]
  refine ⟨a, b, fun hk => ?_⟩
  obtain ⟨c1, c2, c3⟩ := c hk
  exact ⟨xRk_cg (fun j hj => e _ (by omega)) e146 c1, xRv_cg e146 c2, c3⟩
theorem xRn_cg (e : ∀ a, 19 ≤ a → a ≤ 22 → T a = S a) (e11 : T 127 11 = S 127 11) (e133 : T 133 = S 133) (e134 : T 134 = S 134) (e135 : T 135 = S 135) (h : xRn S) : xRn T := by
  unfold xRn at h ⊢
  rw [e 19 (by omega) (by omega), e 20 (by omega) (by omega), e 21 (by omega) (by omega), e 22 (by omega) (by omega), e11, e133, e134, e135]
  exact h
theorem xRd_cg (e26 : T 26 0 = S 26 0) (e10 : T 127 10 = S 127 10) (h : xRd S) : xRd T := by
  unfold xRd at h ⊢
  rw [e26, e10]
  exact h
/-- what stands for the hill, the talk, what can be undone, the book, the images -/
def xGc (a : Nat) : Prop := (9 ≤ a ∧ a ≤ 12) ∨ (23 ≤ a ∧ a ≤ 25) ∨ a = 27 ∨ (30 ≤ a ∧ a < 127) ∨ (128 ≤ a ∧ a ≤ 131) ∨ a = 136 ∨ a = 137 ∨ a = 144 ∨ a = 146 ∨ a = 147
def xGj (j : Nat) : Prop := j = 0 ∨ j = 1 ∨ j = 2 ∨ j = 3 ∨ j = 6 ∨ j = 15 ∨ j = 36
theorem xRg_cg (e : ∀ a, xGc a → T a = S a) (e7 : ∀ j, xGj j → T 127 j = S 127 j) (h : xRg S) : xRg T := by
  obtain ⟨R, P, h1, h2, h3, h4, h5, h6⟩ := h
  have e131 : T 131 = S 131 := e _ (by unfold xGc; omega)
  refine ⟨R, P, xRh_cg (fun a _ _ => e a (by unfold xGc; omega)) (fun j hj => e7 j (by unfold xGj; omega)) (fun a _ _ => e a (by unfold xGc; omega)) h1, xRk_cg (fun i hi => e _ (by unfold xGc; omega)) e131 h2, xRv_cg e131 h3, xRp_cg (e _ (by unfold xGc; omega)) (fun a _ _ => e a (by unfold xGc; omega)) (e7 _ (by unfold xGj; omega)) (e _ (by unfold xGc; omega)) h4, xRb_cg (fun a _ _ => e a (by unfold xGc; omega)) (e7 _ (by unfold xGj; omega)) (e _ (by unfold xGc; omega)) (e _ (by unfold xGc; omega)) h5, xRi_cg (fun a ha => e a (by unfold xGc; omega)) (e _ (by unfold xGc; omega)) (e _ (by unfold xGc; omega)) h6⟩
end CG
/-! numbers -/
theorem i_lt {x y : Int32} : x < y ↔ x.toInt < y.toInt := Int32.lt_iff_toInt_lt
theorem i_le {x y : Int32} : x ≤ y ↔ x.toInt ≤ y.toInt := Int32.le_iff_toInt_le
theorem within_eq (S : xS) (v a b : Int32) : f_X10_within S v a b = if a.toInt ≤ v.toInt ∧ v.toInt ≤ b.toInt then 1 else 0 := by
  unfold f_X10_within
  by_cases h1 : v < a
  · rw [if_pos h1, if_neg (by rw [i_lt] at h1; omega)]
  · rw [if_neg h1]
    by_cases h2 : b < v
    · rw [if_pos h2, if_neg (by rw [i_lt] at h2; omega)]
    · rw [if_neg h2, if_pos (by rw [i_lt] at h1 h2; omega)]
theorem in_eq (S : xS) (x y z : Int64) : f_X11_in S x y z = if y.toInt ≤ x.toInt ∧ x.toInt ≤ z.toInt then 1 else 0 := by
  unfold f_X11_in
  by_cases h1 : lg_cmp x y < 0
  · rw [if_pos h1, if_neg (by rw [lg_cmp_lt, Int64.lt_iff_toInt_lt] at h1; omega)]
  · rw [if_neg h1]
    by_cases h2 : 0 < lg_cmp x z
    · rw [if_pos h2, if_neg (by rw [lg_cmp_gt, Int64.lt_iff_toInt_lt] at h2; omega)]
    · rw [if_neg h2, if_pos (by rw [lg_cmp_lt, Int64.lt_iff_toInt_lt] at h1; rw [lg_cmp_gt, Int64.lt_iff_toInt_lt] at h2; omega)]
theorem in_within (S T : xS) (v a b : Int32) {y z : Int64} (hy : y.toInt = a.toInt) (hz : z.toInt = b.toInt) : f_X11_in S v.toInt64 y z = f_X10_within T v a b := by
  rw [in_eq, within_eq, Int32.toInt_toInt64, hy, hz]
theorem within_S (S T : xS) (v a b : Int32) : f_X10_within S v a b = f_X10_within T v a b := by rw [within_eq, within_eq]
theorem nI_inj {a b : Nat} (ha : a < 2147483648) (hb : b < 2147483648) (h : nI a = nI b) : a = b := (nI_eq ha hb).mp h
theorem put_in {S : xS} {k n N : Nat} {v : Int32} (hk : xlen k = N) (hn : n < N) (hN : N < 2147483648) : f_X10_put S k (nI n) v = xu S k n v := by
  unfold f_X10_put
  rw [if_neg (nI_pos (by omega)), hk, if_neg (nI_ge hn (by omega)), nI_clamp (by omega)]
theorem at_in {S : xS} {k n N : Nat} (hk : xlen k = N) (hn : n < N) (hN : N < 2147483648) : f_X10_at S k (nI n) = S k n := by
  unfold f_X10_at
  rw [if_neg (nI_pos (by omega)), hk, if_neg (nI_ge hn (by omega)), nI_clamp (by omega)]
/-! the operations -/
theorem op_fault {S : xS} (h : xR S) : f_X10_fault S = (f_X11_fault S) ∧ xR S := ⟨h.2.1, h⟩
theorem op_seed {S : xS} (h : xR S) (p0 : Int32) : (f_X10_seed S p0).1 = (f_X11_seed ((f_X10_seed S p0).2) p0).1 ∧ xR ((f_X11_seed ((f_X10_seed S p0).2) p0).2) := by
  by_cases hp : 0 ≤ p0
  · have e1 : f_X10_seed S p0 = (S 26 0, xu S 26 0 p0) := by unfold f_X10_seed; rw [if_pos hp]
    have e2 : f_X11_seed (xu S 26 0 p0) p0 = (S 127 10, xu (xu S 26 0 p0) 127 10 p0) := by
      unfold f_X11_seed
      rw [if_pos hp, xu_ne (by decide)]
    rw [e1]
    show S 26 0 = (f_X11_seed (xu S 26 0 p0) p0).1 ∧ xR (f_X11_seed (xu S 26 0 p0) p0).2
    rw [e2]
    show S 26 0 = S 127 10 ∧ xR (xu (xu S 26 0 p0) 127 10 p0)
    obtain ⟨h1, h2, h3, h4, d, g1, g2, g3⟩ := h
    have ea : ∀ a, a ≠ 26 → a ≠ 127 → xu (xu S 26 0 p0) 127 10 p0 a = S a := fun a q1 q2 => by rw [xu_ne q2, xu_ne q1]
    have ej : ∀ j, j ≠ 10 → xu (xu S 26 0 p0) 127 10 p0 127 j = S 127 j := fun j q => by rw [xu_eq, upd_ne q, xu_ne (by decide)]
    refine ⟨g2.trans g3.symm, xRt_cg (by rw [ea _ (by decide) (by decide)]) (ea _ (by decide) (by decide)) (ej _ (by decide)) (ea _ (by decide) (by decide)) h1, ?_, xRg_cg (fun a ha => ea a (by unfold xGc at ha; omega) (by unfold xGc at ha; omega)) (fun j hj => ej j (by unfold xGj at hj; omega)) h3, xRn_cg (fun a _ _ => ea a (by omega) (by omega)) (ej _ (by decide)) (ea _ (by decide) (by decide)) (ea _ (by decide) (by decide)) (ea _ (by decide) (by decide)) h4, ?_⟩
    · show xu (xu S 26 0 p0) 127 10 p0 1 4 = xu (xu S 26 0 p0) 127 10 p0 127 20
      rw [ea _ (by decide) (by decide), ej _ (by decide)]
      exact h2
    · obtain ⟨j, hj, rfl⟩ := nI_of (x := p0) (by rw [i_lt]; rw [i_le] at hp; omega)
      exact ⟨j, hj, by show xu _ 127 10 _ 26 0 = _; rw [xu_ne (by decide), xu_eq, upd_eq], by show xu _ 127 10 _ 127 10 = _; rw [xu_eq, upd_eq]⟩
  · have e1 : f_X10_seed S p0 = (-1000000002, S) := by unfold f_X10_seed; rw [if_neg hp]
    have e2 : f_X11_seed S p0 = (-1000000002, S) := by unfold f_X11_seed; rw [if_neg hp]
    rw [e1]
    show (-1000000002 : Int32) = (f_X11_seed S p0).1 ∧ xR (f_X11_seed S p0).2
    rw [e2]
    exact ⟨rfl, h⟩
theorem op_tear {S : xS} (h : xR S) : (f_X10_tear S).1 = (f_X11_tear ((f_X10_tear S).2)).1 ∧ xR ((f_X11_tear ((f_X10_tear S).2)).2) := by
  obtain ⟨h1, h2, h3, ⟨c, g1, g2, g3, g4⟩, h5⟩ := h
  have hb : ∃ P R c, xRh S R P ∧ c ≤ 15 ∧ S 23 2 = nI c ∧ S 127 15 = nI c := by
    obtain ⟨R, P, a1, a2, a3, a4, ⟨d, b1, b2, b3, b4⟩, a6⟩ := h3
    exact ⟨P, R, d, a1, b1, b2, b3⟩
  obtain ⟨P0, R0, c2, -, -, k2, k3⟩ := hb
  have ea : ∀ a, a ≠ 19 → a ≠ 23 → a ≠ 127 → (f_X11_tear ((f_X10_tear S).2)).2 a = S a := fun a q1 q2 q3 => by
    show xu (xu (xu (xu S 19 3 0) 23 2 0) 127 11 0) 127 15 0 a = S a
    rw [xu_ne q3, xu_ne q3, xu_ne q2, xu_ne q1]
  have ej : ∀ j, j ≠ 11 → j ≠ 15 → (f_X11_tear ((f_X10_tear S).2)).2 127 j = S 127 j := fun j q1 q2 => by
    show xu (xu (xu (xu S 19 3 0) 23 2 0) 127 11 0) 127 15 0 127 j = S 127 j
    rw [xu_eq, upd_ne q2, xu_eq, upd_ne q1, xu_ne (by decide), xu_ne (by decide)]
  have e19 : (f_X11_tear ((f_X10_tear S).2)).2 19 3 = nI 0 := by
    show xu (xu (xu (xu S 19 3 0) 23 2 0) 127 11 0) 127 15 0 19 3 = _
    rw [xu_ne (by decide), xu_ne (by decide), xu_ne (by decide), xu_eq, upd_eq]; rfl
  have e23 : (f_X11_tear ((f_X10_tear S).2)).2 23 2 = nI 0 := by
    show xu (xu (xu (xu S 19 3 0) 23 2 0) 127 11 0) 127 15 0 23 2 = _
    rw [xu_ne (by decide), xu_ne (by decide), xu_eq, upd_eq]; rfl
  have e11 : (f_X11_tear ((f_X10_tear S).2)).2 127 11 = nI 0 := by
    show xu (xu (xu (xu S 19 3 0) 23 2 0) 127 11 0) 127 15 0 127 11 = _
    rw [xu_eq, upd_ne (by decide), xu_eq, upd_eq]; rfl
  have e15 : (f_X11_tear ((f_X10_tear S).2)).2 127 15 = nI 0 := by
    show xu (xu (xu (xu S 19 3 0) 23 2 0) 127 11 0) 127 15 0 127 15 = _
    rw [xu_eq, upd_eq]; rfl
  generalize hT : (f_X11_tear ((f_X10_tear S).2)).2 = T at ea ej e19 e23 e11 e15 ⊢
  refine ⟨?_, xRt_cg (by rw [ea _ (by decide) (by decide) (by decide)]) (ea _ (by decide) (by decide) (by decide)) (ej _ (by decide) (by decide)) (ea _ (by decide) (by decide) (by decide)) h1, by rw [ea _ (by decide) (by decide) (by decide), ej _ (by decide) (by decide)]; exact h2, ?_, ⟨0, by omega, e19, e11, fun i hi => absurd hi (by omega)⟩, xRd_cg (by rw [ea _ (by decide) (by decide) (by decide)]) (ej _ (by decide) (by decide)) h5⟩
  · show S 19 3 + S 23 2 = xu (xu S 19 3 0) 23 2 0 127 11 + xu (xu S 19 3 0) 23 2 0 127 15
    rw [xu_ne (by decide), xu_ne (by decide), g2, g3, k2, k3]
  · obtain ⟨R, P, a1, a2, a3, a4, a5, a6⟩ := h3
    have e131 : T 131 = S 131 := ea _ (by decide) (by decide) (by decide)
    exact ⟨R, P, xRh_cg (fun a _ _ => ea a (by omega) (by omega) (by omega)) (fun j hj => ej j (by omega) (by omega)) (fun a _ _ => ea a (by omega) (by omega) (by omega)) a1, xRk_cg (fun i hi => ea _ (by omega) (by omega) (by omega)) e131 a2, xRv_cg e131 a3, xRp_cg (ea _ (by decide) (by decide) (by decide)) (fun a _ _ => ea a (by omega) (by omega) (by omega)) (ej _ (by decide) (by decide)) (ea _ (by decide) (by decide) (by decide)) a4, ⟨0, by omega, e23, e15, fun i hi => absurd hi (by omega)⟩, xRi_cg (fun a ha => ea a (by omega) (by omega) (by omega)) (ea _ (by decide) (by decide) (by decide)) (ea _ (by decide) (by decide) (by decide)) a6⟩
