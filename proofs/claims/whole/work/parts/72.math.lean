theorem i240 : (240 : Int32) = nI 240 := rfl
theorem tadd_eq {S : xS} {n : Nat} (t : S 1 2 = nI n) (hn : n < 240) (p0 : Int32) : f_X8_add S p0 = (nI (n + 1), xu (xu S 2 n p0) 1 2 (nI (n + 1))) := by
  have e : f_X10_put S 2 (S 1 2) p0 = xu S 2 n p0 := by rw [t]; exact put_in (N := 240) rfl hn (by decide)
  have e2 : xu S 2 n p0 1 2 = nI n := by rw [xu_ne (by decide)]; exact t
  show (xu (f_X10_put S 2 (S 1 2) p0) 1 2 (f_X10_put S 2 (S 1 2) p0 1 2 + 1) 1 2, xu (f_X10_put S 2 (S 1 2) p0) 1 2 (f_X10_put S 2 (S 1 2) p0 1 2 + 1)) = _
  rw [e, e2, nI_1, xu_eq, upd_eq]
theorem feed1_eq {S : xS} {n : Nat} (t : S 1 2 = nI n) (hn : n ≤ 240) (p0 : Int32) : f_X10_feed S p0 = if f_X10_within S p0 0 255 = 0 then (-1000000002, S) else if n < 240 then (nI (n + 1), xu (xu S 2 n p0) 1 2 (nI (n + 1))) else (-1000000004, S) := by
  unfold f_X10_feed
  dsimp only
  by_cases hw : f_X10_within S p0 0 255 = 0
  · rw [if_pos hw, if_pos hw]
  · rw [if_neg hw, if_neg hw]
    by_cases h : n < 240
    · rw [if_pos h, if_pos (by rw [t, i240]; exact nI_lt h (by decide)), tadd_eq t h]
    · rw [if_neg h, if_neg (by rw [t, i240]; exact nI_nlt (by omega) (by omega))]
theorem feed2_eq {S : xS} {n : Nat} (t : S 127 19 = nI n) (hn : n ≤ 240) (p0 : Int32) : f_X11_feed S p0 = if f_X10_within S p0 0 255 = 0 then (-1000000002, S) else if n < 240 then (nI (n + 1), xu (xu S 138 n p0) 127 19 (nI (n + 1))) else (-1000000004, S) := by
  have ew : f_X11_in S p0.toInt64 0 255 = f_X10_within S p0 0 255 := in_within S S p0 0 255 rfl rfl
  unfold f_X11_feed
  dsimp only
  rw [ew]
  by_cases hw : f_X10_within S p0 0 255 = 0
  · rw [if_pos hw, if_pos hw]
  · rw [if_neg hw, if_neg hw]
    by_cases h : n < 240
    · rw [if_pos h, if_neg (by rw [t, i240]; exact fun e => absurd (nI_inj (by omega) (by omega) e) (by omega)), t, nI_clamp (by omega)]
      have e2 : xu S 138 n p0 127 19 = nI n := by rw [xu_ne (by decide)]; exact t
      rw [e2, nI_1, xu_eq, upd_eq]
    · rw [if_neg h, if_pos (by rw [t, i240, show n = 240 by omega])]
theorem op_feed {S : xS} (h : xR S) (p0 : Int32) : s_X11_feed ((f_X10_feed S p0).2) p0 ∧ (f_X10_feed S p0).1 = (f_X11_feed ((f_X10_feed S p0).2) p0).1 ∧ xR ((f_X11_feed ((f_X10_feed S p0).2) p0).2) := by
  obtain ⟨⟨n, t1, t2, t3, t4⟩, h2, h3, h4, h5⟩ := id h
  rw [feed1_eq t2 t1]
  by_cases hw : f_X10_within S p0 0 255 = 0
  · rw [if_pos hw]
    dsimp only
    rw [feed2_eq t3 t1, if_pos hw]
    refine ⟨?_, rfl, h⟩
    have ew : f_X11_in S p0.toInt64 0 255 = 0 := (in_within S S p0 0 255 rfl rfl).trans hw
    exact ⟨fun _ => trivial, fun hc => absurd ew hc⟩
  · rw [if_neg hw]
    by_cases hn : n < 240
    · rw [if_pos hn]
      dsimp only
      have e1 : xu (xu S 2 n p0) 1 2 (nI (n + 1)) 127 19 = nI n := by rw [xu_ne (by decide), xu_ne (by decide)]; exact t3
      have hw2 : ¬ f_X10_within (xu (xu S 2 n p0) 1 2 (nI (n + 1))) p0 0 255 = 0 := by rw [within_S _ S]; exact hw
      rw [feed2_eq e1 t1, if_neg hw2, if_pos hn]
      refine ⟨⟨fun _ => trivial, fun _ => ⟨fun _ => trivial, fun _ => ⟨?_, trivial⟩⟩⟩, rfl, ?_⟩
      · rw [e1]; exact vp_in_nI hn (by decide)
      · dsimp only
        generalize hT : xu (xu (xu (xu S 2 n p0) 1 2 (nI (n + 1))) 138 n p0) 127 19 (nI (n + 1)) = T
        have ea : ∀ a, a ≠ 1 → a ≠ 2 → a ≠ 127 → a ≠ 138 → T a = S a := fun a q1 q2 q3 q4 => by rw [← hT, xu_ne q3, xu_ne q4, xu_ne q1, xu_ne q2]
        have ej : ∀ j, j ≠ 19 → T 127 j = S 127 j := fun j q => by rw [← hT, xu_eq, upd_ne q, xu_ne (by decide), xu_ne (by decide), xu_ne (by decide)]
        have e2 : T 1 2 = nI (n + 1) := by rw [← hT, xu_ne (by decide), xu_ne (by decide), xu_eq, upd_eq]
        have e3 : T 127 19 = nI (n + 1) := by rw [← hT, xu_eq, upd_eq]
        have e4 : T 1 4 = S 1 4 := by rw [← hT, xu_ne (by decide), xu_ne (by decide), xu_eq, upd_ne (by decide), xu_ne (by decide)]
        have e5 : T 2 = upd (S 2) n p0 := by rw [← hT, xu_ne (by decide), xu_ne (by decide), xu_ne (by decide), xu_eq]
        have e6 : T 138 = upd (S 138) n p0 := by rw [← hT, xu_ne (by decide), xu_eq, xu_ne (by decide), xu_ne (by decide)]
        refine ⟨⟨n + 1, by omega, e2, e3, fun i hi => ?_⟩, by rw [e4, ej _ (by decide)]; exact h2, xRg_cg (fun a ha => ea a (by unfold xGc at ha; omega) (by unfold xGc at ha; omega) (by unfold xGc at ha; omega) (by unfold xGc at ha; omega)) (fun j hj => ej j (by unfold xGj at hj; omega)) h3, xRn_cg (fun a _ _ => ea a (by omega) (by omega) (by omega) (by omega)) (ej _ (by decide)) (ea _ (by decide) (by decide) (by decide) (by decide)) (ea _ (by decide) (by decide) (by decide) (by decide)) (ea _ (by decide) (by decide) (by decide) (by decide)) h4, xRd_cg (by rw [ea _ (by decide) (by decide) (by decide) (by decide)]) (ej _ (by decide)) h5⟩
        rw [e5, e6]
        by_cases hi2 : i = n
        · subst hi2
          rw [upd_eq, upd_eq]
          have g := hw
          rw [within_eq] at g
          have g : (0 : Int32).toInt ≤ p0.toInt ∧ p0.toInt ≤ (255 : Int32).toInt := Classical.byContradiction (fun q => g (if_neg q))
          exact ⟨rfl, g.1⟩
        · rw [upd_ne hi2, upd_ne hi2]; exact t4 i (by omega)
    · rw [if_neg hn]
      dsimp only
      rw [feed2_eq t3 t1, if_neg hw, if_neg hn]
      refine ⟨⟨fun _ => trivial, fun _ => ⟨fun _ => trivial, fun hc => absurd (by rw [t3, i240, show n = 240 by omega]) hc⟩⟩, rfl, h⟩
