/-! AN HOUR, over two states: U for the class, V for the reference -/
/-- a talk as a row of 72 -/
def tk (S : xS) (t j : Nat) : Int32 := if j = 0 then S t 5 else if j = 1 then S t 4 else if j < 9 then S (t + 1) (j - 2) else if j < 16 then S (t + 2) (j - 9) else if j < 23 then S (t + 3) (j - 16) else S (t + 4) (j - 23)
def vr (R P B : Nat) (f : Nat → Int32) : Prop := (∃ h, h ≤ B ∧ f 0 = nI h) ∧ (∃ w, w < 2 ^ P ∧ f 1 = nI w) ∧ (∀ p, p < P → ∃ r, r < R ∧ f (2 + p) = nI r) ∧ (∀ p, p < 7 → -9999 ≤ (f (9 + p)).toInt ∧ (f (9 + p)).toInt ≤ 9999) ∧ (∀ p, p < 7 → ∃ r, r ≤ 99 ∧ f (16 + p) = nI r) ∧ ∀ j, j < 49 → ∃ v, v ≤ 9 ∧ f (23 + j) = nI v
theorem tk_0 (S : xS) (t : Nat) : tk S t 0 = S t 5 := rfl
theorem tk_1 (S : xS) (t : Nat) : tk S t 1 = S t 4 := rfl
theorem tk_r (S : xS) (t : Nat) {p : Nat} (h : p < 7) : tk S t (2 + p) = S (t + 1) p := by
  unfold tk
  rw [if_neg (by omega), if_neg (by omega), if_pos (by omega), Nat.add_sub_cancel_left]
theorem tk_w (S : xS) (t : Nat) {p : Nat} (h : p < 7) : tk S t (9 + p) = S (t + 2) p := by
  unfold tk
  rw [if_neg (by omega), if_neg (by omega), if_neg (by omega), if_pos (by omega), Nat.add_sub_cancel_left]
theorem tk_x (S : xS) (t : Nat) {p : Nat} (h : p < 7) : tk S t (16 + p) = S (t + 3) p := by
  unfold tk
  rw [if_neg (by omega), if_neg (by omega), if_neg (by omega), if_neg (by omega), if_pos (by omega), Nat.add_sub_cancel_left]
theorem tk_l (S : xS) (t j : Nat) : tk S t (23 + j) = S (t + 4) j := by
  unfold tk
  rw [if_neg (by omega), if_neg (by omega), if_neg (by omega), if_neg (by omega), if_neg (by omega), Nat.add_sub_cancel_left]
/-- what is so of all 72, part by part -/
theorem j72 {p : Nat → Prop} (h0 : p 0) (h1 : p 1) (h2 : ∀ i, i < 7 → p (2 + i)) (h3 : ∀ i, i < 7 → p (9 + i)) (h4 : ∀ i, i < 7 → p (16 + i)) (h5 : ∀ i, i < 49 → p (23 + i)) : ∀ j, j < 72 → p j := by
  intro j hj
  by_cases a0 : j = 0
  · rw [a0]; exact h0
  by_cases a1 : j = 1
  · rw [a1]; exact h1
  by_cases a2 : j < 9
  · rw [show j = 2 + (j - 2) by omega]; exact h2 _ (by omega)
  by_cases a3 : j < 16
  · rw [show j = 9 + (j - 9) by omega]; exact h3 _ (by omega)
  by_cases a4 : j < 23
  · rw [show j = 16 + (j - 16) by omega]; exact h4 _ (by omega)
  · rw [show j = 23 + (j - 23) by omega]; exact h5 _ (by omega)
theorem xRk_iff {S : xS} {t m o : Nat} : xRk S t m o ↔ ∀ j, j < 72 → tk S t j = S m (o + j) := by
  constructor
  · intro ⟨h1, h2, h3, h4⟩
    refine j72 ?_ ?_ ?_ ?_ ?_ ?_
    · rw [tk_0]; exact h1
    · rw [tk_1]; exact h2
    · intro i hi; rw [tk_r _ _ hi]; exact (h3 i hi).1
    · intro i hi; rw [tk_w _ _ hi]; exact (h3 i hi).2.1
    · intro i hi; rw [tk_x _ _ hi]; exact (h3 i hi).2.2
    · intro i hi; rw [tk_l _ _]; exact h4 i hi
  · intro h
    refine ⟨h 0 (by omega), h 1 (by omega), fun p hp => ⟨?_, ?_, ?_⟩, fun j hj => ?_⟩
    · exact (tk_r S t hp).symm.trans (h _ (by omega))
    · exact (tk_w S t hp).symm.trans (h _ (by omega))
    · exact (tk_x S t hp).symm.trans (h _ (by omega))
    · exact (tk_l S t j).symm.trans (h _ (by omega))
theorem xRv_iff {S : xS} {R P m o : Nat} : xRv S R P m o ↔ vr R P 9100 (fun j => S m (o + j)) := Iff.rfl
theorem vr_cg {R P B : Nat} {f g : Nat → Int32} (hP : P ≤ 7) (h : vr R P B f) (e : ∀ j, j < 72 → g j = f j) : vr R P B g := by
  obtain ⟨⟨a, a1, a2⟩, ⟨b, b1, b2⟩, c, d, x, l⟩ := h
  refine ⟨⟨a, a1, (e _ (by omega)).trans a2⟩, ⟨b, b1, (e _ (by omega)).trans b2⟩, fun p hp => ?_, fun p hp => ?_, fun p hp => ?_, fun j hj => ?_⟩
  · rw [e _ (by omega)]; exact c p hp
  · rw [e _ (by omega)]; exact d p hp
  · rw [e _ (by omega)]; exact x p hp
  · rw [e _ (by omega)]; exact l j hj
theorem vr_mono {R P B C : Nat} {f : Nat → Int32} (hB : B ≤ C) (h : vr R P B f) : vr R P C f := by
  obtain ⟨⟨a, a1, a2⟩, h⟩ := h
  exact ⟨⟨a, by omega, a2⟩, h⟩
def mg (U V : xS) : xS := fun a => if a < 127 then U a else V a
theorem mgU {U V : xS} {a : Nat} (h : a < 127) : mg U V a = U a := if_pos h
theorem mgV {U V : xS} {a : Nat} (h : ¬ a < 127) : mg U V a = V a := if_neg h
/-- class and reference stand alike: hill, talk against the row m -/
def Q2 (U V : xS) (R P B m : Nat) : Prop := xRh (mg U V) R P ∧ (∀ j, j < 72 → tk U 32 j = V m j) ∧ vr R P B (V m)
theorem hears_cg {V T : xS} {m p q : Nat} (hp : p < 7) (hq : q < 7) (e1 : T m (2 + p) = V m (2 + p)) (e2 : T m (2 + q) = V m (2 + q)) (e3 : T 128 = V 128) : f_X11_hears T m (nI p) (nI q) = f_X11_hears V m (nI p) (nI q) := by
  unfold f_X11_hears
  rw [c2n (by omega), c2n (by omega), e1, e2, e3]
  rfl
theorem c23n {p q : Nat} (hp : p < 100) (hq : q < 100) : (23 + 7 * nI p + nI q).toNatClampNeg = 23 + (7 * p + q) := by rw [ix23, nI_clamp (by omega)]
theorem says_cg {V T : xS} {m p q : Nat} (hp : p < 7) (hq : q < 7) (e1 : T m (2 + p) = V m (2 + p)) (e2 : T m (2 + q) = V m (2 + q)) (e3 : T 128 = V 128) (e4 : T 130 = V 130) (e5 : T m 1 = V m 1) (e6 : T m (23 + (7 * p + q)) = V m (23 + (7 * p + q))) : f_X11_says T m (nI p) (nI q) = f_X11_says V m (nI p) (nI q) := by
  unfold f_X11_says f_X11_isThere
  rw [c2n (by omega), c2n (by omega), c23n (by omega) (by omega), c_1, e1, e2, e3, e4, e5, e6]
  rfl
theorem says4_cg {U T : xS} {a b c d e : Int32} (e10 : T 10 = U 10) (e12 : T 12 = U 12) (e36 : T 36 = U 36) : f_X4_says T a b c d e = f_X4_says U a b c d e := by
  unfold f_X4_says f_X4_reaches f_X10_at
  rw [e10, e12, e36]
  rfl
theorem reach_cg {U T : xS} {a b : Int32} (e10 : T 10 = U 10) : f_X4_reaches T a b = f_X4_reaches U a b := by
  unfold f_X4_reaches f_X10_at
  rw [e10]
  rfl
section Q
variable {U V : xS} {R P B m : Nat}
theorem q_rm (q : Q2 U V R P B m) {p : Nat} (hp : p < P) : rmN V m p < R ∧ V m (2 + p) = nI (rmN V m p) := by
  obtain ⟨r, h1, h2⟩ := q.2.2.2.2.1 p hp
  have hR := xhR q.1
  unfold rmN
  rw [h2, nI_clamp (by omega)]
  exact ⟨h1, rfl⟩
theorem q_at (q : Q2 U V R P B m) {p : Nat} (hp : p < P) : f_X10_at U 33 (nI p) = nI (rmN V m p) := by
  have hP := xhP q.1
  rw [at_in (N := 7) rfl (by omega) (by decide), ← (q_rm q hp).2, ← q.2.1 (2 + p) (by omega), tk_r _ _ (by omega)]
theorem q_hears (q : Q2 U V R P B m) (hm : 127 < m) {p s : Nat} (hp : p < P) (hs : s < P) : f_X4_reaches U (nI (rmN V m p)) (nI (rmN V m s)) = f_X11_hears V m (nI p) (nI s) := by
  have hP := xhP q.1
  have hR := xhR q.1
  obtain ⟨a1, a2⟩ := q_rm q hp
  obtain ⟨b1, b2⟩ := q_rm q hs
  have em : mg U V m = V m := mgV (by omega)
  have e := hears_eq (S := mg U V) (k0 := m) (p := p) (q := s) (a := rmN V m p) (b := rmN V m s) (by omega) (by omega) (by omega) (by omega) (xhA q.1 (by omega)).1 (by rw [em]; exact a2) (by rw [em]; exact b2)
  rw [hears_cg (V := V) (by omega) (by omega) (by rw [em]) (by rw [em]) (mgV (by omega)), reach_cg (U := U) (mgU (by omega))] at e
  exact e.symm
theorem q_says4 (q : Q2 U V R P B m) (hm : 127 < m) {p s : Nat} (hp : p < P) (hs : s < P) : f_X11_says V m (nI p) (nI s) = f_X4_says U (nI p) (nI (rmN V m p)) (nI s) (nI (rmN V m s)) (f_X11_has V (V m 1) (nI s)) := by
  have hP := xhP q.1
  have hR := xhR q.1
  obtain ⟨a1, a2⟩ := q_rm q hp
  obtain ⟨b1, b2⟩ := q_rm q hs
  have em : mg U V m = V m := mgV (by omega)
  have e36 : mg U V 36 = U 36 := mgU (by omega)
  have el : V m (23 + (7 * p + s)) = U 36 (7 * p + s) := by rw [← q.2.1 _ (by omega), tk_l]
  have e := says_eq (S := mg U V) q.1 (k0 := m) hp hs a1 b1 (by rw [em]; exact a2) (by rw [em]; exact b2) (by rw [em, e36]; exact el)
  rw [says_cg (V := V) (by omega) (by omega) (by rw [em]) (by rw [em]) (mgV (by omega)) (mgV (by omega)) (by rw [em]) (by rw [em]), says4_cg (U := U) (mgU (by omega)) (mgU (by omega)) (mgU (by omega)), em] at e
  exact e
theorem q_says (q : Q2 U V R P B m) (hm : 127 < m) {p s : Nat} (hp : p < P) (hs : s < P) : f_X4_saysNow U (nI p) (nI s) = f_X11_says V m (nI p) (nI s) := by
  have hP := xhP q.1
  rw [q_says4 q hm hp hs]
  unfold f_X4_saysNow
  dsimp only
  rw [q_at q hp, q_at q hs, has_nI U V _ (by omega), ← q.2.1 1 (by omega), tk_1]
theorem q_bd (q : Q2 U V R P B m) (hm : 127 < m) {p s : Nat} (hp : p < P) (hs : s < P) : -9 ≤ (f_X11_says V m (nI p) (nI s)).toInt ∧ (f_X11_says V m (nI p) (nI s)).toInt ≤ 9 := by
  have hP := xhP q.1
  rw [q_says4 q hm hp hs]
  obtain ⟨v, v1, v2⟩ := q.2.2.2.2.2.2.2 (7 * p + s) (by omega)
  refine says4_bd U _ _ _ (by omega) (by omega) v1 ?_
  rw [← v2, ← q.2.1 _ (by omega), tk_l]
theorem q_s (q : Q2 U V R P B m) (hx : xlen m = 72) {p s : Nat} (hp : p < P) (hs : s < P) : s_X11_says V m (nI p) (nI s) ∧ s_X11_hears V m (nI p) (nI s) := by
  have hP := xhP q.1
  have hR := xhR q.1
  obtain ⟨a1, a2⟩ := q_rm q hp
  exact ⟨s_says hx (by omega) (by omega) (by omega) a2, s_hears hx (by omega) (by omega) (by omega) a2⟩
theorem fa_xor (a b : Nat) : nI a ^^^ nI b = nI (a ^^^ b) := by
  apply Int32.toBitVec_inj.1
  show BitVec.ofNat 32 a ^^^ BitVec.ofNat 32 b = BitVec.ofNat 32 (a ^^^ b)
  apply BitVec.eq_of_getLsbD_eq
  intro i hi
  simp [hi]
theorem fm_nn (S : xS) {a b : Nat} (ha : a < 2 ^ 31) (h0 : 0 < b) (hb : b < 2 ^ 31) : f_J9_floorMod_7cf53 S (nI a) (nI b) = nI (a % b) := by
  unfold f_J9_floorMod_7cf53
  have hx : a ^^^ b < 2 ^ 31 := Nat.xor_lt_two_pow ha hb
  rw [if_pos (by rw [fa_xor]; exact nI_pos' hx), pk_rem ha h0 hb]
theorem spk (S : xS) (h : S 9 9 = nI P) (h0 : 0 < P) (hP : P ≤ 7) {i k : Nat} (hi : i < 1000000) (hk : k < 1000000) : f_X4_spokenOfBy S (nI i) (nI k) = nI ((i + k + 1) % P) := by
  unfold f_X4_spokenOfBy
  dsimp only
  rw [h, if_neg (nI_nle h0 (by omega)), nI_add, nI_1, fm_nn S (by omega) h0 (by omega)]
theorem spk2 (S : xS) (h : S 127 6 = nI P) (h0 : 0 < P) (hP : P ≤ 7) {i k : Nat} (hi : i < 1000000) (hk : k < 1000000) : f_X11_spokenOf S (nI i) (nI k) = nI ((i + k + 1) % P) := by
  unfold f_X11_spokenOf
  rw [h, nI_add, nI_1, pk_rem (by omega) h0 (by omega)]
theorem md_inj {z i k : Nat} (hP : P ≤ 7) (hz : z < P) (hi : i < P) (h : (z + k + 1) % P = (i + k + 1) % P) : z = i := by
  have h0 : P = 1 ∨ P = 2 ∨ P = 3 ∨ P = 4 ∨ P = 5 ∨ P = 6 ∨ P = 7 := by omega
  rcases h0 with rfl | rfl | rfl | rfl | rfl | rfl | rfl <;> omega
/-- the bounds of WARM, of CHILLED -/
def cl (v : Int32) : Int32 := if v ≤ 9999 then (if -9999 ≤ v then v else -9999) else 9999
def ck (v : Int32) : Int32 := if v ≤ 99 then (if 0 ≤ v then v else 0) else 99
theorem i_9999 : (9999 : Int32).toInt = 9999 := by decide
theorem i_m9999 : (-9999 : Int32).toInt = -9999 := by decide
theorem i_99 : (99 : Int32).toInt = 99 := by decide
theorem i_eq {a b : Int32} (h : a.toInt = b.toInt) : a = b := Int32.toInt_inj.mp h
theorem bnd_cl (S : xS) (v : Int32) : f_X10_bounded S v (-9999) 9999 = cl v := by
  unfold f_X10_bounded cl
  dsimp only
  by_cases c1 : v ≤ 9999
  · rw [if_pos c1]
    have c1' := c1
    rw [i_le, i_9999] at c1'
    have e : (if v < 9999 then v else 9999) = v := by
      by_cases c : v < 9999
      · rw [if_pos c]
      · rw [if_neg c]
        apply i_eq
        rw [i_lt, i_9999] at c
        rw [i_9999]
        omega
    rw [e]
    by_cases c2 : -9999 ≤ v
    · rw [if_pos c2]
      by_cases c : -9999 < v
      · rw [if_pos c]
      · rw [if_neg c]
        apply i_eq
        rw [i_lt, i_m9999] at c
        rw [i_le, i_m9999] at c2
        rw [i_m9999]
        omega
    · rw [if_neg c2, if_neg (by rw [i_lt, i_m9999]; rw [i_le, i_m9999] at c2; omega)]
  · rw [if_neg c1]
    have c1' := c1
    rw [i_le, i_9999] at c1'
    have e : ¬ v < 9999 := by rw [i_lt, i_9999]; omega
    rw [if_neg e, if_pos (by decide)]
theorem bnd_ck (S : xS) (v : Int32) : f_X10_bounded S v 0 99 = ck v := by
  unfold f_X10_bounded ck
  dsimp only
  by_cases c1 : v ≤ 99
  · rw [if_pos c1]
    have c1' := c1
    rw [i_le, i_99] at c1'
    have e : (if v < 99 then v else 99) = v := by
      by_cases c : v < 99
      · rw [if_pos c]
      · rw [if_neg c]
        apply i_eq
        rw [i_lt, i_99] at c
        rw [i_99]
        omega
    rw [e]
    by_cases c2 : 0 ≤ v
    · rw [if_pos c2]
      by_cases c : 0 < v
      · rw [if_pos c]
      · rw [if_neg c]
        apply i_eq
        rw [i_lt, i_0] at c
        rw [i_le, i_0] at c2
        rw [i_0]
        omega
    · rw [if_neg c2, if_neg (by rw [i_lt, i_0]; rw [i_le, i_0] at c2; omega)]
  · rw [if_neg c1]
    have c1' := c1
    rw [i_le, i_99] at c1'
    have e : ¬ v < 99 := by rw [i_lt, i_99]; omega
    rw [if_neg e, if_pos (by decide)]
theorem cl_bd (v : Int32) : -9999 ≤ (cl v).toInt ∧ (cl v).toInt ≤ 9999 := by
  unfold cl
  by_cases c1 : v ≤ 9999
  · rw [if_pos c1]
    rw [i_le, i_9999] at c1
    by_cases c2 : -9999 ≤ v
    · rw [if_pos c2]
      rw [i_le, i_m9999] at c2
      omega
    · rw [if_neg c2, i_m9999]; omega
  · rw [if_neg c1, i_9999]; omega
theorem ck_bd (v : Int32) : ∃ r, r ≤ 99 ∧ ck v = nI r := by
  unfold ck
  by_cases c1 : v ≤ 99
  · rw [if_pos c1]
    by_cases c2 : 0 ≤ v
    · rw [if_pos c2]
      obtain ⟨j, h1, rfl⟩ := nI_of2 (x := v) (M := 99) (n := 99) rfl (by rw [i_lt, i_0]; rw [i_le, i_0] at c2; omega) c1
      exact ⟨j, h1, rfl⟩
    · rw [if_neg c2]; exact ⟨0, by omega, rfl⟩
  · rw [if_neg c1]; exact ⟨99, by omega, rfl⟩
theorem cl_id {v : Int32} (h1 : -9999 ≤ v.toInt) (h2 : v.toInt ≤ 9999) : cl v = v := by
  unfold cl
  rw [if_pos (by rw [i_le, i_9999]; exact h2), if_pos (by rw [i_le, i_m9999]; exact h1)]
theorem tk_34 {S : xS} {q : Nat} (hq : q < 7) (v : Int32) {j : Nat} (hj : j < 72) : tk (xu S 34 q v) 32 j = if j = 9 + q then v else tk S 32 j := by
  refine j72 (p := fun j => tk (xu S 34 q v) 32 j = if j = 9 + q then v else tk S 32 j) ?_ ?_ ?_ ?_ ?_ ?_ j hj
  · rw [if_neg (by omega)]; rfl
  · rw [if_neg (by omega)]; rfl
  · intro i hi
    rw [if_neg (by omega), tk_r _ _ hi, tk_r _ _ hi]; rfl
  · intro i hi
    rw [tk_w _ _ hi, tk_w _ _ hi]
    show xu S 34 q v 34 i = if 9 + i = 9 + q then v else S 34 i
    rw [xu_eq]
    by_cases c : i = q
    · subst c; rw [upd_eq, if_pos rfl]
    · rw [upd_ne c, if_neg (by omega)]
  · intro i hi
    rw [if_neg (by omega), tk_x _ _ hi, tk_x _ _ hi]; rfl
  · intro i hi
    rw [if_neg (by omega), tk_l, tk_l]; rfl
theorem tk_35 {S : xS} {q : Nat} (hq : q < 7) (v : Int32) {j : Nat} (hj : j < 72) : tk (xu S 35 q v) 32 j = if j = 16 + q then v else tk S 32 j := by
  refine j72 (p := fun j => tk (xu S 35 q v) 32 j = if j = 16 + q then v else tk S 32 j) ?_ ?_ ?_ ?_ ?_ ?_ j hj
  · rw [if_neg (by omega)]; rfl
  · rw [if_neg (by omega)]; rfl
  · intro i hi
    rw [if_neg (by omega), tk_r _ _ hi, tk_r _ _ hi]; rfl
  · intro i hi
    rw [if_neg (by omega), tk_w _ _ hi, tk_w _ _ hi]; rfl
  · intro i hi
    rw [tk_x _ _ hi, tk_x _ _ hi]
    show xu S 35 q v 35 i = if 16 + i = 16 + q then v else S 35 i
    rw [xu_eq]
    by_cases c : i = q
    · subst c; rw [upd_eq, if_pos rfl]
    · rw [upd_ne c, if_neg (by omega)]
  · intro i hi
    rw [if_neg (by omega), tk_l, tk_l]; rfl
end Q
