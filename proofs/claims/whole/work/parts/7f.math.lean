/-! TRIED: warm, bestRoom -/
theorem fm_neg (S : xS) {x : Int32} {m b : Nat} (hx : x.toInt = -(m : Int)) (hm : 0 < m) (hm2 : m < 1000000) (h0 : 0 < b) (hb : b < 1000) : f_J9_floorMod_7cf53 S x (nI b) = nI ((b - m % b) % b) := by
  have hb2 : (nI b).toInt = (b : Int) := nI_toInt (by omega)
  have hms : x.toBitVec.msb = true := by
    rw [BitVec.msb_eq_toInt]
    show decide (x.toInt < 0) = true
    rw [hx]
    exact decide_eq_true (by omega)
  have hms2 : (nI b).toBitVec.msb = false := by
    rw [BitVec.msb_eq_toInt]
    show decide ((nI b).toInt < 0) = false
    rw [hb2]
    exact decide_eq_false (by omega)
  have hxor : ¬ 0 ≤ x ^^^ nI b := by
    have h1 : (x ^^^ nI b).toBitVec.msb = true := by rw [Int32.toBitVec_xor, BitVec.msb_xor, hms, hms2]; rfl
    rw [BitVec.msb_eq_toInt] at h1
    have h2 := of_decide_eq_true h1
    have h3 : (x ^^^ nI b).toInt < 0 := h2
    rw [i_le, i_0]
    omega
  have hdm := Nat.div_add_mod m b
  have hlt := Nat.mod_lt m h0
  have hq : (x / nI b).toInt = -((m / b : Nat) : Int) := by
    rw [Int32.toInt_div, hx, hb2, Int.neg_tdiv, ← Int.ofNat_tdiv]
    have : m / b ≤ m := Nat.div_le_self _ _
    generalize m / b = q at this ⊢
    exact fb_bmod (by omega) (by omega)
  have hmul : (x / nI b * nI b).toInt = -((b * (m / b) : Nat) : Int) := by
    have e : -((m / b : Nat) : Int) * (b : Int) = -((b * (m / b) : Nat) : Int) := by
      rw [Int.neg_mul, Int.mul_comm]
      push_cast
      rfl
    rw [Int32.toInt_mul, hq, hb2, e]
    exact fb_bmod (by omega) (by omega)
  have hr : (x - x / nI b * nI b).toInt = -((m % b : Nat) : Int) := by
    rw [fb_subI (by rw [hx, hmul]; omega) (by rw [hx, hmul]; omega), hx, hmul]
    omega
  unfold f_J9_floorMod_7cf53
  rw [if_neg hxor]
  by_cases c : m % b = 0
  · have e0 : x - x / nI b * nI b = 0 := i_eq (by rw [hr, c]; rfl)
    rw [if_pos e0, e0, c, Nat.sub_zero, Nat.mod_self]
    rfl
  · have e0 : ¬ x - x / nI b * nI b = 0 := fun e => by
      rw [e, i_0] at hr
      omega
    rw [if_neg e0]
    apply i_eq
    have e1 : (b - m % b) % b = b - m % b := Nat.mod_eq_of_lt (by omega)
    rw [fb_addI (by rw [hr, hb2]; omega) (by rw [hr, hb2]; omega), hr, hb2, e1, nI_toInt (by omega)]
    omega
theorem speaker_ok {S : xS} {P p k : Nat} (h9 : S 9 9 = nI P) (hP : P ≤ 7) (hp : p < P) (hk : k < 900000) : ∃ z, z < P ∧ (z + k + 1) % P = p ∧ f_X4_speakerOf S (nI p) (nI k) = nI z := by
  have e1 : (nI p - nI k).toInt = (p : Int) - k := by rw [fb_subI (by rw [nI_toInt (by omega), nI_toInt (by omega)]; omega) (by rw [nI_toInt (by omega), nI_toInt (by omega)]; omega), nI_toInt (by omega), nI_toInt (by omega)]
  have e2 : (nI p - nI k - 1).toInt = (p : Int) - k - 1 := by rw [fb_subI (by rw [e1, i_1]; omega) (by rw [e1, i_1]; omega), e1, i_1]
  have ef : f_X4_speakerOf S (nI p) (nI k) = f_J9_floorMod_7cf53 S (nI p - nI k - 1) (nI P) := by
    unfold f_X4_speakerOf
    dsimp only
    rw [h9, if_neg (nI_nle (by omega) (by omega))]
  rw [ef]
  by_cases c : k + 1 ≤ p
  · have e3 : nI p - nI k - 1 = nI (p - k - 1) := i_eq (by rw [e2, nI_toInt (by omega)]; omega)
    refine ⟨p - k - 1, by omega, ?_, ?_⟩
    · rw [show p - k - 1 + k + 1 = p by omega]
      exact Nat.mod_eq_of_lt hp
    · rw [e3, fm_nn S (by omega) (by omega) (by omega), Nat.mod_eq_of_lt (by omega)]
  · have h0 : P = 1 ∨ P = 2 ∨ P = 3 ∨ P = 4 ∨ P = 5 ∨ P = 6 ∨ P = 7 := by omega
    refine ⟨(P - (k + 1 - p) % P) % P, Nat.mod_lt _ (by omega), ?_, fm_neg S (m := k + 1 - p) (by rw [e2]; omega) (by omega) (by omega) (by omega) (by omega)⟩
    rcases h0 with rfl | rfl | rfl | rfl | rfl | rfl | rfl <;> omega
/-- the class's talk as a row tells it -/
def syn (S : xS) (f : Nat → Int32) : xS := fun a => if a = 32 then (fun j => if j = 4 then f 1 else f 0) else if a = 33 then (fun p => f (2 + p)) else if a = 34 then (fun p => f (9 + p)) else if a = 35 then (fun p => f (16 + p)) else if a = 36 then (fun j => f (23 + j)) else S a
theorem syn_tk (S : xS) (f : Nat → Int32) : ∀ j, j < 72 → tk (syn S f) 32 j = f j := by
  refine j72 ?_ ?_ ?_ ?_ ?_ ?_
  · rfl
  · rfl
  · intro i hi; rw [tk_r _ _ hi]; rfl
  · intro i hi; rw [tk_w _ _ hi]; rfl
  · intro i hi; rw [tk_x _ _ hi]; rfl
  · intro i hi; rw [tk_l]; rfl
theorem syn_o (S : xS) (f : Nat → Int32) {a : Nat} (h : a < 32 ∨ 36 < a) : syn S f a = S a := by
  unfold syn
  rw [if_neg (by omega), if_neg (by omega), if_neg (by omega), if_neg (by omega), if_neg (by omega)]
theorem syn_Q2 {S V : xS} {R P B m : Nat} (hh : xRh (mg S V) R P) (hv : vr R P B (V m)) : Q2 (syn S (V m)) V R P B m := by
  refine ⟨xRh_cg (S := mg S V) (fun k h1 h2 => ?_) (fun j _ => ?_) (fun k h1 h2 => ?_) hh, fun j hj => syn_tk S _ j hj, hv⟩
  · rw [mgU (by omega), mgU (by omega), syn_o _ _ (by omega)]
  · rw [mgV (by omega), mgV (by omega)]
  · rw [mgV (by omega), mgV (by omega)]
theorem says4_cg2 {U T : xS} {p q : Nat} {b d e : Int32} (hp : p < 7) (hq : q < 7) (e10 : T 10 = U 10) (e12 : T 12 = U 12) (e36 : T 36 (7 * p + q) = U 36 (7 * p + q)) : f_X4_says T (nI p) b (nI q) d e = f_X4_says U (nI p) b (nI q) d e := by
  unfold f_X4_says
  dsimp only
  rw [pair_at (S := T) rfl hp hq, pair_at (S := U) rfl hp hq, e36, reach_cg (U := U) e10]
  unfold f_X10_at
  rw [e12]
  rfl
theorem tries_ok (S : xS) : s_X11_tries S ∧ (∀ k, k ≠ 132 → f_X11_tries S k = S k) ∧ ∀ j, j < 72 → f_X11_tries S 132 j = S 131 j := by
  have key := cpl (fun n a x => (f_X11_tries_L2 n a x, s_X11_tries_L2 n a x)) S 132 131 0 0 72 (by decide)
    (fun n a ha => by simp only [f_X11_tries_L2, s_X11_tries_L2, le72, ↓reduceIte, eq_self, n10, not_true_eq_false, not_false_eq_true, true_implies, false_implies, true_and, and_true, implies_true, forall_const, Sum.elim_inl, Sum.elim_inr, and_self])
    (fun n a i hi ha => by
      have v1 : vp_in (nI i) 72 := vp_in_nI hi (by decide)
      simp only [f_X11_tries_L2, s_X11_tries_L2, nle72 hi, cn (show i < 1000000 by omega), nI_1, Nat.zero_add, v1, ↓reduceIte, eq_self, n10, not_true_eq_false, not_false_eq_true, true_implies, false_implies, true_and, and_true, implies_true, forall_const, Sum.elim_inl, Sum.elim_inr, and_self]
      exact id)
    fu72
  simp only [Nat.zero_add] at key
  exact ⟨⟨key.1, trivial⟩, key.2.1, key.2.2.1⟩
theorem xR_tried {S T : xS} (h : xR S) (ea : ∀ a, a ≠ 132 → a ≠ 145 → a ≠ 17 → a ≠ 18 → T a = S a) : xR T := by
  obtain ⟨h1, h2, ⟨R, P, hh, hk, hv, hp, hb, hi⟩, h4, h5⟩ := h
  have eq : ∀ a, (a < 17 ∨ (18 < a ∧ a < 132) ∨ (132 < a ∧ a < 145) ∨ 145 < a) → T a = S a := fun a ha => ea a (by omega) (by omega) (by omega) (by omega)
  have e7 : T 127 = S 127 := eq _ (by omega)
  exact ⟨xRt_cg (by rw [eq _ (by omega)]) (eq _ (by omega)) (by rw [e7]) (eq _ (by omega)) h1, by rw [eq _ (by omega), e7]; exact h2, ⟨R, P, xRh_cg (fun a _ _ => eq a (by omega)) (fun j _ => by rw [e7]) (fun a _ _ => eq a (by omega)) hh, xRk_cg (fun i hi => eq _ (by omega)) (eq _ (by omega)) hk, xRv_cg (eq _ (by omega)) hv, xRp_cg (eq _ (by omega)) (fun a _ _ => eq a (by omega)) (by rw [e7]) (eq _ (by omega)) hp, xRb_cg (fun a _ _ => eq a (by omega)) (by rw [e7]) (eq _ (by omega)) (eq _ (by omega)) hb, xRi_cg (fun a ha => eq a (by omega)) (eq _ (by omega)) (eq _ (by omega)) hi⟩, xRn_cg (fun a _ _ => eq a (by omega)) (by rw [e7]) (eq _ (by omega)) (eq _ (by omega)) (eq _ (by omega)) h4, xRd_cg (by rw [eq _ (by omega)]) (by rw [e7]) h5⟩
/-- what p would hear, where the speaker is known -/
theorem heard_eq {S : xS} {R P p z w k h : Nat} (hh : xRh S R P) (hk : xRk S 32 131 0) (hv : xRv S R P 131 0) (hp : p < P) (hz : z < P) (eh : S 32 5 = nI h) (hh2 : h + k < 900000) (hzk : (z + (h + k) + 1) % P = p) : f_X9_heardIn S (nI p) (nI w) (nI k) = if z = p then 0 else if f_X4_reaches S (nI (rmN S 131 z)) (nI w) = 0 then 0 else f_X4_says S (nI z) (nI (rmN S 131 z)) (nI p) (nI w) (if k = 0 then f_X11_has S (S 131 1) (nI p) else 0) := by
  have hP := xhP hh
  obtain ⟨z', z1, z2, z3⟩ := speaker_ok (xhP9 hh) hP hp (k := h + k) hh2
  have ez : z' = z := md_inj hP z1 hz (by rw [z2, hzk])
  subst ez
  unfold f_X9_heardIn
  dsimp only
  rw [eh, nI_add, z3, at_rm hh hk hv z1]
  by_cases c1 : z' = p
  · rw [if_pos (by rw [c1]), if_pos c1]
  · rw [if_neg (fun e => c1 (nI_inj (by omega) (by omega) e)), if_neg c1]
    by_cases c2 : f_X4_reaches S (nI (rmN S 131 z')) (nI w) = 0
    · rw [if_pos c2, if_pos c2]
    · rw [if_neg c2, if_neg c2]
      by_cases c3 : k = 0
      · subst c3
        have i0 : nI 0 = (0 : Int32) := rfl
        rw [if_pos i0, if_pos rfl, kC hk, has_nI S S _ (by omega)]
        have hb : f_X11_has S (S 131 1) (nI p) = 0 ∨ f_X11_has S (S 131 1) (nI p) = 1 := by
          unfold f_X11_has
          split
          · exact Or.inr rfl
          · exact Or.inl rfl
        rcases hb with hb | hb
        · rw [hb, if_pos rfl]
        · rw [hb, if_neg (by decide)]
      · rw [if_neg (nI_ne0 (by omega) (by omega)), if_neg c3]
/-- a tried state: p is in w, i hours on -/
def TI (S : xS) (R P p w h i : Nat) (V : xS) : Prop := vr R P (9100 + i) (V 132) ∧ V 132 0 = nI (h + i) ∧ (V 132 1 = if i = 0 then S 131 1 else 0) ∧ (∀ q, q < P → V 132 (2 + q) = if q = p then nI w else S 131 (2 + q)) ∧ (∀ j, j < 49 → V 132 (23 + j) = S 131 (23 + j)) ∧ ∀ a, a ≠ 132 → V a = S a
theorem TI_mg {S V : xS} (ea : ∀ a, a ≠ 132 → V a = S a) {R P : Nat} (hh : xRh S R P) : xRh (mg S V) R P := by
  refine xRh_cg (S := S) (fun k h1 h2 => mgU (by omega)) (fun j _ => ?_) (fun k h1 h2 => ?_) hh
  · rw [mgV (by omega), ea 127 (by decide)]
  · rw [mgV (by omega), ea k (by omega)]
theorem tri_step {S V : xS} {R P p w h i : Nat} (hh : xRh S R P) (hk : xRk S 32 131 0) (hv : xRv S R P 131 0) (hp : p < P) (hw : w < R) (eh : S 32 5 = nI h) (hh2 : h ≤ 9100) (hi : i ≤ 1000) (hT : TI S R P p w h i V) : s_X11_passes V 132 ∧ TI S R P p w h (i + 1) (f_X11_passes V 132) ∧ f_X11_passes V 132 132 (9 + p) = cl (V 132 (9 + p) + f_X9_heardIn S (nI p) (nI w) (nI i)) := by
  obtain ⟨t1, t2, t3, t4, t5, t6⟩ := hT
  have hP := xhP hh
  have hR := xhR hh
  have q := syn_Q2 (S := S) (V := V) (m := 132) (TI_mg t6 hh) t1
  obtain ⟨-, p2, p3⟩ := pass_ok q (Or.inr rfl) (by omega) (show h + i ≤ 9100 + i by omega) t2
  obtain ⟨r1, -, r3, r4, r5, r6, r7⟩ := p3
  refine ⟨p2, ⟨r1.2.2, r4, by rw [if_neg (by omega)]; exact r5, fun s hs => by rw [r6 _ (by omega)]; exact t4 s hs, fun j hj => by rw [r6 _ (by omega)]; exact t5 j hj, fun a ha => by rw [r3 a ha]; exact t6 a ha⟩, ?_⟩
  obtain ⟨z, z1, z2, -⟩ := speaker_ok (xhP9 hh) hP hp (k := h + i) (by omega)
  rw [r7 z p z1 hp z2, heard_eq hh hk hv hp z1 eh (by omega) z2]
  unfold nw
  have hwb := t1.2.2.2.1 p (show p < 7 by omega)
  by_cases c1 : z = p
  · have z0 : V 132 (9 + p) + 0 = V 132 (9 + p) := add_z _
    rw [if_pos c1, if_pos c1, z0, cl_id hwb.1 hwb.2]
  · rw [if_neg c1, if_neg c1]
    have erz : rmN V 132 z = rmN S 131 z := by unfold rmN; rw [t4 z z1, if_neg c1]
    have erp : rmN V 132 p = w := by unfold rmN; rw [t4 p hp, if_pos rfl, nI_clamp (by omega)]
    have eH := q_hears q (by omega) z1 hp
    rw [erz, erp, reach_cg (U := S) (syn_o _ _ (by omega))] at eH
    have eS := q_says4 q (by omega) z1 hp
    rw [erz, erp, says4_cg2 (U := S) (by omega) (by omega) (syn_o _ _ (by omega)) (syn_o _ _ (by omega)) (by rw [kL hk (by omega), ← t5 _ (by omega)]; rfl)] at eS
    rw [← eH, eS]
    by_cases c2 : f_X4_reaches S (nI (rmN S 131 z)) (nI w) = 0
    · have z0 : V 132 (9 + p) + 0 = V 132 (9 + p) := add_z _
      rw [if_pos c2, if_pos c2, z0, cl_id hwb.1 hwb.2]
    · rw [if_neg c2, if_neg c2, t3]
      by_cases c3 : i = 0
      · rw [if_pos c3, if_pos c3]
        rfl
      · rw [if_neg c3, if_neg c3]
        have hz : f_X11_has V 0 (nI p) = 0 := by
          have := has_k V (w := 0) (k := p) (by omega) (by omega)
          rw [Nat.zero_testBit, if_neg (by decide)] at this
          exact this
        rw [hz]
/-- the hours of a tried state, by either of the reference's loops -/
theorem tri_loop {S V : xS} {R P p w h nn : Nat} (G : Nat → xS → Int32 → xS × Prop) (hh : xRh S R P) (hk : xRk S 32 131 0) (hv : xRv S R P 131 0) (hp : p < P) (hw : w < R) (eh : S 32 5 = nI h) (hh2 : h ≤ 9100) (hn : nn ≤ 100)
    (g0 : ∀ n a, (G (n + 1) a (nI nn)).1 = a ∧ (G (n + 1) a (nI nn)).2)
    (g1 : ∀ n a i, i < nn → (G (n + 1) a (nI i)).1 = (G n (f_X11_passes a 132) (nI (i + 1))).1 ∧ (s_X11_passes a 132 → (G n (f_X11_passes a 132) (nI (i + 1))).2 → (G (n + 1) a (nI i)).2))
    (hT : TI S R P p w h 0 V) (hw0 : V 132 (9 + p) = S 131 (9 + p)) :
    s_X9_warmBehind S (nI p) (nI w) (nI nn) ∧ (G (fu 0 (nI nn)) V 0).2 ∧ f_X9_warmBehind S (nI p) (nI w) (nI nn) = (G (fu 0 (nI nn)) V 0).1 132 (9 + p) ∧ (∀ a, a ≠ 132 → (G (fu 0 (nI nn)) V 0).1 a = S a) ∧ -9999 ≤ (f_X9_warmBehind S (nI p) (nI w) (nI nn)).toInt ∧ (f_X9_warmBehind S (nI p) (nI w) (nI nn)).toInt ≤ 9999 := by
  have hP := xhP hh
  have key := xl_b0 (α := Int32) (β := xS) (γ := Int32 × Prop) (δ := xS × Prop)
    (fun n a x => (f_X9_warmBehind_L16 n S (nI p) (nI w) (nI nn) a x, s_X9_warmBehind_L16 n S (nI p) (nI w) (nI nn) a x)) G
    (fun z y => z.2 ∧ y.2 ∧ z.1 = y.1 132 (9 + p) ∧ (∀ a, a ≠ 132 → y.1 a = S a) ∧ -9999 ≤ z.1.toInt ∧ z.1.toInt ≤ 9999) nn (fun i a b => TI S R P p w h i b ∧ a = b 132 (9 + p))
    (fun n k a b hI => by
      obtain ⟨hT, rfl⟩ := hI
      have l : nI nn ≤ nI nn := nI_le (Nat.le_refl _) (by omega)
      obtain ⟨e1, e2⟩ := g0 k b
      have hwb := hT.1.2.2.2.1 p (show p < 7 by omega)
      rw [e1]
      simp only [f_X9_warmBehind_L16, s_X9_warmBehind_L16, l, e2, ↓reduceIte, eq_self, n10, not_true_eq_false, not_false_eq_true, true_implies, false_implies, true_and, and_true, implies_true, forall_const, Sum.elim_inl, Sum.elim_inr, and_self]
      exact ⟨hT.2.2.2.2.2, hwb⟩)
    (fun n k a b i hi hI => by
      obtain ⟨hT, rfl⟩ := hI
      have l : ¬ nI nn ≤ nI i := nI_ge hi (by omega)
      obtain ⟨o1, o2, o3⟩ := tri_step hh hk hv hp hw eh hh2 (by omega) hT
      obtain ⟨e1, e2⟩ := g1 k b i hi
      refine Or.inr ⟨f_X11_passes b 132 132 (9 + p), f_X11_passes b 132, ⟨o2, rfl⟩, fun ⟨h1, h2, h3⟩ => ?_⟩
      dsimp only at h1 h2 h3 ⊢
      rw [o3] at h1 h3
      rw [e1]
      refine ⟨?_, e2 o1 h2, ?_⟩
      · simp only [s_X9_warmBehind_L16, l, warmer_cl, nI_1, ↓reduceIte, eq_self, n10, not_true_eq_false, not_false_eq_true, true_implies, false_implies, true_and, and_true, implies_true, forall_const, Sum.elim_inl, Sum.elim_inr, and_self]
        exact h1
      · simp only [f_X9_warmBehind_L16, l, warmer_cl, nI_1, ↓reduceIte, eq_self, n10, not_true_eq_false, not_false_eq_true, true_implies, false_implies, true_and, and_true, implies_true, forall_const, Sum.elim_inl, Sum.elim_inr, and_self]
        exact h3)
    (n := fu 0 (nI nn)) (m := fu 0 (nI nn)) (V 132 (9 + p)) V (by rw [fu_0 (by omega)]; omega) (by rw [fu_0 (by omega)]; omega) ⟨hT, rfl⟩
  rw [hw0] at key
  have e5 : f_X10_at S 34 (nI p) = S 131 (9 + p) := by rw [at_in (N := 7) rfl (by omega) (by decide)]; exact kW hk (by omega)
  unfold s_X9_warmBehind f_X9_warmBehind
  dsimp only
  rw [e5]
  obtain ⟨k1, k2, k3, k4, k5⟩ := key
  exact ⟨⟨k1, trivial⟩, k2, k3, k4, k5⟩
theorem TI_tries {S : xS} {R P p h : Nat} (hh : xRh S R P) (hk : xRk S 32 131 0) (hv : xRv S R P 131 0) (hp : p < P) (eh : S 32 5 = nI h) : TI S R P p (rmN S 131 p) h 0 (f_X11_tries S) := by
  obtain ⟨-, t2, t3⟩ := tries_ok S
  have hP := xhP hh
  obtain ⟨a1, a2⟩ := rm_of (xhR hh) hv hp
  refine ⟨vr_cg hP (vr_131 hP hv) t3, by rw [t3 0 (by omega), ← kH hk]; exact eh, by rw [if_pos rfl, t3 1 (by omega)], fun q hq => ?_, fun j hj => t3 _ (by omega), t2⟩
  rw [t3 _ (by omega)]
  by_cases c : q = p
  · rw [if_pos c, c, a2]
  · rw [if_neg c]
theorem TI_room {S T V : xS} {R P p w h : Nat} (hh : xRh S R P) (hk : xRk S 32 131 0) (hv : xRv S R P 131 0) (hp : p < P) (hw : w < R) (eh : S 32 5 = nI h) (eT : ∀ a, a ≠ 132 → T a = S a) (eV : V = xu (f_X11_tries T) 132 (2 + p) (nI w)) : TI S R P p w h 0 V ∧ V 132 (9 + p) = S 131 (9 + p) := by
  obtain ⟨-, t2, t3⟩ := tries_ok T
  have hP := xhP hh
  have e131 : T 131 = S 131 := eT 131 (by decide)
  have er : ∀ j, j < 72 → V 132 j = upd (S 131) (2 + p) (nI w) j := fun j hj => by
    rw [eV, xu_eq]
    by_cases c : j = 2 + p
    · rw [c, upd_eq, upd_eq]
    · rw [upd_ne c, upd_ne c, t3 j hj, e131]
  refine ⟨⟨vr_cg hP (vr_room (vr_131 hP hv) (by omega) hw) er, by rw [er 0 (by omega), upd_ne (by omega), ← kH hk]; exact eh, by rw [if_pos rfl, er 1 (by omega), upd_ne (by omega)], fun q hq => ?_, fun j hj => by rw [er _ (by omega), upd_ne (by omega)], fun a ha => by rw [eV, xu_ne ha, t2 a ha, eT a ha]⟩, by rw [er _ (by omega), upd_ne (by omega)]⟩
  rw [er _ (by omega)]
  by_cases c : q = p
  · rw [if_pos c, c, upd_eq]
  · rw [if_neg c, upd_ne (by omega)]
theorem wi_of {S : xS} {p : Int32} {a b : Nat} (ha : a < 2147483648) (hb : b < 2147483648) (h : ¬ f_X10_within S p (nI a) (nI b) = 0) : ∃ n, a ≤ n ∧ n ≤ b ∧ p = nI n := by
  · rw [within_eq] at h
    have g : (nI a).toInt ≤ p.toInt ∧ p.toInt ≤ (nI b).toInt := Classical.byContradiction (fun q => h (if_neg q))
    rw [nI_toInt (by omega), nI_toInt (by omega)] at g
    obtain ⟨v, hv0, rfl⟩ := nI_of (x := p) (by rw [i_lt, i_0]; omega)
    rw [nI_toInt hv0] at g
    exact ⟨v, by omega, by omega, rfl⟩
theorem hr_S {S : xS} {R P : Nat} (hk : xRk S 32 131 0) (hv : xRv S R P 131 0) : ∃ h, h ≤ 9100 ∧ S 32 5 = nI h := by
  obtain ⟨k, k1, k2⟩ := hr_of hv
  exact ⟨k, k1, (kH hk).trans k2⟩
theorem op_warm {S : xS} (h : xR S) (p0 p1 : Int32) : s_X10_warm S p0 p1 ∧ s_X11_warm S p0 p1 ∧ f_X10_warm S p0 p1 = (f_X11_warm S p0 p1).1 ∧ xR ((f_X11_warm S p0 p1).2) := by
  obtain ⟨h1, h2, ⟨R, P, hh, hk, hv, hpp, hb, hi⟩, h4, h5⟩ := id h
  have hP := xhP hh
  have hR := xhR hh
  have i1 := person_eq hh p0
  have i2 : f_X11_in S p1.toInt64 0 100 = f_X10_within S p1 0 100 := in_within S S p1 0 100 rfl rfl
  by_cases g1 : f_X2_isPerson S 9 p0 = 0
  · have g1' : f_X11_isPerson S p0 = 0 := i1.trans g1
    have e : f_X10_warm S p0 p1 = -1000000001 := by unfold f_X10_warm; dsimp only; rw [if_pos g1]
    have e' : f_X11_warm S p0 p1 = (-1000000001, S) := by unfold f_X11_warm; dsimp only; rw [if_pos g1']
    rw [e, e']
    exact ⟨⟨fun _ => trivial, fun q => absurd g1 q⟩, ⟨fun _ => trivial, fun q => absurd g1' q⟩, rfl, h⟩
  · have g1' : ¬ f_X11_isPerson S p0 = 0 := by rw [i1]; exact g1
    by_cases g2 : f_X10_within S p1 0 100 = 0
    · have g2' : f_X11_in S p1.toInt64 0 100 = 0 := i2.trans g2
      have e : f_X10_warm S p0 p1 = -1000000002 := by unfold f_X10_warm; dsimp only; rw [if_neg g1, if_pos g2]
      have e' : f_X11_warm S p0 p1 = (-1000000002, S) := by unfold f_X11_warm; dsimp only; rw [if_neg g1', if_pos g2']
      rw [e, e']
      exact ⟨⟨fun _ => trivial, fun _ => ⟨fun _ => trivial, fun q => absurd g2 q⟩⟩, ⟨fun _ => trivial, fun _ => ⟨fun _ => trivial, fun q => absurd g2' q⟩⟩, rfl, h⟩
    · have g2' : ¬ f_X11_in S p1.toInt64 0 100 = 0 := by rw [i2]; exact g2
      obtain ⟨p, hp, rfl⟩ := isPerson_ne (by omega) (xhP9 hh) g1
      obtain ⟨n, -, hn, rfl⟩ := wi_of (a := 0) (b := 100) (by omega) (by omega) g2
      obtain ⟨hr, hr1, hr2⟩ := hr_S hk hv
      obtain ⟨a1, a2⟩ := rm_of hR hv hp
      have ar := at_rm hh hk hv hp
      obtain ⟨t1, t2, t3⟩ := tries_ok S
      obtain ⟨o1, o2, o3, o4, -⟩ := tri_loop (S := S) (nn := n) (fun m a x => (f_X11_warm_L32 m a (nI p) (nI n) x, s_X11_warm_L32 m a (nI p) (nI n) x)) hh hk hv hp a1 hr2 hr1 hn
        (fun m a => by
          have l : nI n ≤ nI n := nI_le (Nat.le_refl _) (by omega)
          simp only [f_X11_warm_L32, s_X11_warm_L32, l, ↓reduceIte, eq_self, n10, not_true_eq_false, not_false_eq_true, true_implies, false_implies, true_and, and_true, implies_true, forall_const, Sum.elim_inl, Sum.elim_inr, and_self])
        (fun m a i hi => by
          have l : ¬ nI n ≤ nI i := nI_ge hi (by omega)
          simp only [f_X11_warm_L32, s_X11_warm_L32, l, nI_1, ↓reduceIte, eq_self, n10, not_true_eq_false, not_false_eq_true, true_implies, false_implies, true_and, and_true, implies_true, forall_const, Sum.elim_inl, Sum.elim_inr, and_self]
          exact fun x y => ⟨x, y⟩)
        (TI_tries hh hk hv hp hr2) (t3 _ (by omega))
      have v9 : vp_in (9 + nI p) 72 := by rw [ix9]; exact vp_in_nI (by omega) (by decide)
      have e : f_X10_warm S (nI p) (nI n) = f_X9_warmBehind S (nI p) (nI (rmN S 131 p)) (nI n) + 10000 := by unfold f_X10_warm; dsimp only; rw [if_neg g1, if_neg g2, ar]
      have e' : f_X11_warm S (nI p) (nI n) = (f_X11_warm_L32 (fu 0 (nI n)) (f_X11_tries S) (nI p) (nI n) 0 132 (9 + p) + 10000, f_X11_warm_L32 (fu 0 (nI n)) (f_X11_tries S) (nI p) (nI n) 0) := by unfold f_X11_warm; dsimp only; rw [if_neg g1', if_neg g2', c9n (by omega)]
      refine ⟨⟨fun _ => trivial, fun _ => ⟨fun _ => trivial, fun _ => ⟨?_, trivial⟩⟩⟩, ⟨fun _ => trivial, fun _ => ⟨fun _ => trivial, fun _ => ⟨t1, o2, v9, trivial⟩⟩⟩, ?_, ?_⟩
      · rw [ar]; exact o1
      · rw [e, e', o3]
      · rw [e']
        exact xR_tried h (fun a ha _ _ _ => o4 a ha)
