/-! WHAT IS DONE: go, cough, like, hour -/
theorem vr_131 {S : xS} {R P : Nat} (hP : P ≤ 7) (hv : xRv S R P 131 0) : vr R P 9100 (S 131) := vr_cg hP (xRv_iff.mp hv) (fun j _ => by rw [Nat.zero_add])
theorem tk_131 {S : xS} (hk : xRk S 32 131 0) : ∀ j, j < 72 → tk S 32 j = S 131 j := fun j hj => by
  have := xRk_iff.mp hk j hj
  rw [Nat.zero_add] at this
  exact this
theorem mgS (S : xS) : mg S S = S := by
  funext a
  unfold mg
  split <;> rfl
theorem Q2_of {S : xS} {R P : Nat} (hh : xRh S R P) (hk : xRk S 32 131 0) (hv : xRv S R P 131 0) : Q2 S S R P 9100 131 := ⟨by rw [mgS]; exact hh, tk_131 hk, vr_131 (xhP hh) hv⟩
theorem xR_talk {S T : xS} {R P : Nat} (h1 : xRt S) (h2 : S 1 4 = S 127 20) (hh : xRh S R P) (hb : xRb S P) (hi : xRi S R P) (h4 : xRn S) (ea : ∀ a, a ≠ 26 → a ≠ 27 → (a < 32 ∨ 117 ≤ a) → a ≠ 127 → a ≠ 131 → a ≠ 132 → a ≠ 144 → a ≠ 145 → a ≠ 17 → a ≠ 18 → T a = S a) (ej : ∀ j, j ≠ 36 → j ≠ 10 → T 127 j = S 127 j) (hp : xRp T R P) (hk : ∀ j, j < 72 → tk T 32 j = T 131 j) (hv : vr R P 9100 (T 131)) (hd : xRd T) : xR T := by
  have eq : ∀ a, (a < 17 ∨ (18 < a ∧ a < 26) ∨ (27 < a ∧ a < 32) ∨ (117 ≤ a ∧ a < 127) ∨ (127 < a ∧ a < 131) ∨ (132 < a ∧ a < 144) ∨ 145 < a) → T a = S a := fun a ha => ea a (by omega) (by omega) (by omega) (by omega) (by omega) (by omega) (by omega) (by omega) (by omega) (by omega)
  refine ⟨xRt_cg (by rw [eq _ (by omega)]) (eq _ (by omega)) (ej _ (by decide) (by decide)) (eq _ (by omega)) h1, by rw [eq _ (by omega), ej _ (by decide) (by decide)]; exact h2, ⟨R, P, xRh_cg (fun a _ _ => eq a (by omega)) (fun j hj => ej j (by omega) (by omega)) (fun a _ _ => eq a (by omega)) hh, xRk_iff.mpr (fun j hj => by rw [Nat.zero_add]; exact hk j hj), xRv_iff.mpr (vr_cg (xhP hh) hv (fun j _ => by rw [Nat.zero_add])), hp, xRb_cg (fun a _ _ => eq a (by omega)) (ej _ (by decide) (by decide)) (eq _ (by omega)) (eq _ (by omega)) hb, xRi_cg (fun a ha => eq a (by omega)) (eq _ (by omega)) (eq _ (by omega)) hi⟩, xRn_cg (fun a _ _ => eq a (by omega)) (ej _ (by decide) (by decide)) (eq _ (by omega)) (eq _ (by omega)) (eq _ (by omega)) h4, hd⟩
theorem remU {S : xS} {R P : Nat} (hp : xRp S R P) : s_X6_remember S 32 ∧ ∀ a, a ≠ 27 → (a < 37 ∨ 117 ≤ a) → f_X6_remember S 32 a = S a := by
  obtain ⟨n, c, h1, h2, h3, h4, -, -⟩ := hp
  obtain ⟨a1, a2, -⟩ := rem1_ok h3 h4 h1 h2
  exact ⟨a1, fun a q1 q2 => a2 a q1 (by omega)⟩
theorem remV {S U1 : xS} {R P : Nat} (hp : xRp S R P) (hU : U1 127 = S 127) : s_X11_remember U1 ∧ (∀ a, a ≠ 127 → a ≠ 144 → f_X11_remember U1 a = U1 a) ∧ ∀ j, j ≠ 36 → f_X11_remember U1 127 j = U1 127 j := by
  obtain ⟨n, c, h1, h2, -, -, h5, -⟩ := hp
  obtain ⟨b1, b2, b3, -⟩ := rem2_ok (V := U1) (by rw [hU]; exact h5) h2
  exact ⟨b1, b2, b3⟩
theorem rem_fin {S U1 T : xS} {R P : Nat} (h1 : xRt S) (h2 : S 1 4 = S 127 20) (hh : xRh S R P) (hk0 : xRk S 32 131 0) (hv0 : xRv S R P 131 0) (hp : xRp S R P) (hb : xRb S P) (hi : xRi S R P) (h4 : xRn S)
    (hU : ∀ a, a ≠ 26 → (a < 32 ∨ 37 ≤ a) → U1 a = f_X6_remember S 32 a) (hT : ∀ a, a ≠ 131 → a ≠ 127 → T a = f_X11_remember U1 a) (hT7 : ∀ j, j ≠ 10 → T 127 j = f_X11_remember U1 127 j) (hk : ∀ j, j < 72 → tk T 32 j = T 131 j) (hv : vr R P 9100 (T 131)) (hd : xRd T) : xR T := by
  obtain ⟨-, u2⟩ := remU hp
  have hU1 : ∀ a, 127 ≤ a → U1 a = S a := fun a ha => by rw [hU a (by omega) (by omega), u2 a (by omega) (by omega)]
  obtain ⟨-, v2, v3⟩ := remV (U1 := U1) hp (hU1 127 (by omega))
  refine xR_talk h1 h2 hh hb hi h4 (fun a q1 q2 q3 q4 q5 q6 q7 q8 q9 q10 => ?_) (fun j q1 q2 => ?_) (past_ok (xhP hh) hp hk0 hv0 hU1 ?_ (fun a q1 q2 => ?_) (hT7 36 (by decide)) (hT 144 (by decide) (by decide))) hk hv hd
  · rw [hT a q5 q4, v2 a q4 q7, hU a q1 (by omega), u2 a q2 (by omega)]
  · rw [hT7 j q2, v3 j q1, hU1 127 (by omega)]
  · rw [hT 27 (by decide) (by decide), v2 27 (by decide) (by decide), hU 27 (by decide) (by omega)]
  · rw [hT a (by omega) (by omega), v2 a (by omega) (by omega), hU a (by omega) (by omega)]
theorem isP_cg {S T : xS} (e : T 127 = S 127) (p : Int32) : f_X11_isPerson T p = f_X11_isPerson S p := by
  unfold f_X11_isPerson
  rw [e]
  rfl
theorem isR_cg {S T : xS} (e : T 127 = S 127) (p : Int32) : f_X11_isRoom T p = f_X11_isRoom S p := by
  unfold f_X11_isRoom
  rw [e]
  rfl
theorem two_cg {S T : xS} (e : T 127 = S 127) (p q : Int32) : f_X11_areTwo T p q = f_X11_areTwo S p q := by
  unfold f_X11_areTwo
  rw [isP_cg e, isP_cg e]
theorem has_cg (S T : xS) (a b : Int32) : f_X11_has T a b = f_X11_has S a b := rfl
theorem tk_33 {S : xS} {q : Nat} (hq : q < 7) (v : Int32) {j : Nat} (hj : j < 72) : tk (xu S 33 q v) 32 j = if j = 2 + q then v else tk S 32 j := by
  refine j72 (p := fun j => tk (xu S 33 q v) 32 j = if j = 2 + q then v else tk S 32 j) ?_ ?_ ?_ ?_ ?_ ?_ j hj
  · rw [if_neg (by omega)]; rfl
  · rw [if_neg (by omega)]; rfl
  · intro i hi
    rw [tk_r _ _ hi, tk_r _ _ hi]
    show xu S 33 q v 33 i = if 2 + i = 2 + q then v else S 33 i
    rw [xu_eq]
    by_cases c : i = q
    · subst c; rw [upd_eq, if_pos rfl]
    · rw [upd_ne c, if_neg (by omega)]
  · intro i hi
    rw [if_neg (by omega), tk_w _ _ hi, tk_w _ _ hi]; rfl
  · intro i hi
    rw [if_neg (by omega), tk_x _ _ hi, tk_x _ _ hi]; rfl
  · intro i hi
    rw [if_neg (by omega), tk_l, tk_l]; rfl
theorem tk_36 {S : xS} {q : Nat} (v : Int32) {j : Nat} (hj : j < 72) : tk (xu S 36 q v) 32 j = if j = 23 + q then v else tk S 32 j := by
  refine j72 (p := fun j => tk (xu S 36 q v) 32 j = if j = 23 + q then v else tk S 32 j) ?_ ?_ ?_ ?_ ?_ ?_ j hj
  · rw [if_neg (by omega)]; rfl
  · rw [if_neg (by omega)]; rfl
  · intro i hi
    rw [if_neg (by omega), tk_r _ _ hi, tk_r _ _ hi]; rfl
  · intro i hi
    rw [if_neg (by omega), tk_w _ _ hi, tk_w _ _ hi]; rfl
  · intro i hi
    rw [if_neg (by omega), tk_x _ _ hi, tk_x _ _ hi]; rfl
  · intro i hi
    rw [tk_l, tk_l]
    show xu S 36 q v 36 i = if 23 + i = 23 + q then v else S 36 i
    rw [xu_eq]
    by_cases c : i = q
    · subst c; rw [upd_eq, if_pos rfl]
    · rw [upd_ne c, if_neg (by omega)]
theorem tk_32 {S : xS} (v : Int32) {j : Nat} (hj : j < 72) : tk (xu S 32 4 v) 32 j = if j = 1 then v else tk S 32 j := by
  refine j72 (p := fun j => tk (xu S 32 4 v) 32 j = if j = 1 then v else tk S 32 j) ?_ ?_ ?_ ?_ ?_ ?_ j hj
  · rw [if_neg (by omega)]; rfl
  · rw [if_pos rfl]; rfl
  · intro i hi
    rw [if_neg (by omega), tk_r _ _ hi, tk_r _ _ hi]; rfl
  · intro i hi
    rw [if_neg (by omega), tk_w _ _ hi, tk_w _ _ hi]; rfl
  · intro i hi
    rw [if_neg (by omega), tk_x _ _ hi, tk_x _ _ hi]; rfl
  · intro i hi
    rw [if_neg (by omega), tk_l, tk_l]; rfl
/-- one place of a row is another -/
theorem vr_room {R P B p r : Nat} {f : Nat → Int32} (h : vr R P B f) (hp : p < 7) (hr : r < R) : vr R P B (upd f (2 + p) (nI r)) := by
  obtain ⟨⟨a, a1, a2⟩, ⟨b, b1, b2⟩, c, d, x, l⟩ := h
  refine ⟨⟨a, a1, by rw [upd_ne (by omega)]; exact a2⟩, ⟨b, b1, by rw [upd_ne (by omega)]; exact b2⟩, fun q hq => ?_, fun q hq => ?_, fun q hq => ?_, fun j hj => ?_⟩
  · by_cases e : q = p
    · rw [e, upd_eq]; exact ⟨r, hr, rfl⟩
    · rw [upd_ne (by omega)]; exact c q hq
  · rw [upd_ne (by omega)]; exact d q hq
  · rw [upd_ne (by omega)]; exact x q hq
  · rw [upd_ne (by omega)]; exact l j hj
theorem vr_cough {R P B w : Nat} {f : Nat → Int32} (h : vr R P B f) (hw : w < 2 ^ P) : vr R P B (upd f 1 (nI w)) := by
  obtain ⟨⟨a, a1, a2⟩, -, c, d, x, l⟩ := h
  refine ⟨⟨a, a1, by rw [upd_ne (by omega)]; exact a2⟩, ⟨w, hw, by rw [upd_eq]⟩, fun q hq => ?_, fun q hq => ?_, fun q hq => ?_, fun j hj => ?_⟩
  · rw [upd_ne (by omega)]; exact c q hq
  · rw [upd_ne (by omega)]; exact d q hq
  · rw [upd_ne (by omega)]; exact x q hq
  · rw [upd_ne (by omega)]; exact l j hj
theorem vr_like {R P B k v : Nat} {f : Nat → Int32} (hP : P ≤ 7) (h : vr R P B f) (hv : v ≤ 9) : vr R P B (upd f (23 + k) (nI v)) := by
  obtain ⟨⟨a, a1, a2⟩, ⟨b, b1, b2⟩, c, d, x, l⟩ := h
  refine ⟨⟨a, a1, by rw [upd_ne (by omega)]; exact a2⟩, ⟨b, b1, by rw [upd_ne (by omega)]; exact b2⟩, fun q hq => ?_, fun q hq => ?_, fun q hq => ?_, fun j hj => ?_⟩
  · rw [upd_ne (by omega)]; exact c q hq
  · rw [upd_ne (by omega)]; exact d q hq
  · rw [upd_ne (by omega)]; exact x q hq
  · by_cases e : j = k
    · rw [e, upd_eq]; exact ⟨v, hv, rfl⟩
    · rw [upd_ne (by omega)]; exact l j hj
theorem way_eq {S : xS} {R P : Nat} (hh : xRh S R P) {a r : Nat} (ha : a < R) (hr : r < R) : f_X2_isWay S 9 (nI a) (nI r) = f_X11_has S (S 129 a) (nI r) := by
  have hR := xhR hh
  unfold f_X2_isWay
  dsimp only
  rw [at_in (N := 6) rfl (by omega) (by decide), has_nI S S _ (by omega)]
  show f_X11_has S (S 11 a) (nI r) = _
  rw [(xhA hh (by omega)).2]
theorem op_go {S : xS} (h : xR S) (p0 p1 : Int32) : s_X10_go S p0 p1 ∧ s_X11_go ((f_X10_go S p0 p1).2) p0 p1 ∧ (f_X10_go S p0 p1).1 = (f_X11_go ((f_X10_go S p0 p1).2) p0 p1).1 ∧ xR ((f_X11_go ((f_X10_go S p0 p1).2) p0 p1).2) := by
  obtain ⟨h1, h2, ⟨R, P, hh, hk, hv, hp, hb, hi⟩, h4, h5⟩ := id h
  have hP := xhP hh
  have hR := xhR hh
  obtain ⟨u1, u2⟩ := remU hp
  have i1 := person_eq hh p0
  have i2 := room_eq hh p1
  have hs : s_X10_go S p0 p1 := ⟨fun _ => trivial, fun _ => ⟨fun _ => trivial, fun _ => ⟨fun _ => trivial, fun _ => ⟨u1, trivial⟩⟩⟩⟩
  refine ⟨hs, ?_⟩
  by_cases g1 : f_X2_isPerson S 9 p0 = 0
  · have e : f_X10_go S p0 p1 = (-1000000001, S) := by unfold f_X10_go; dsimp only; rw [if_pos g1]
    have e' : f_X11_go S p0 p1 = (-1000000001, S) := by unfold f_X11_go; dsimp only; rw [if_pos (i1.trans g1)]
    rw [e]
    dsimp only
    rw [e']
    exact ⟨⟨fun _ => trivial, fun q => absurd (i1.trans g1) q⟩, rfl, h⟩
  · by_cases g2 : f_X2_isRoom S 9 p1 = 0
    · have e : f_X10_go S p0 p1 = (-1000000001, S) := by unfold f_X10_go; dsimp only; rw [if_neg g1, if_pos g2]
      have e' : f_X11_go S p0 p1 = (-1000000001, S) := by unfold f_X11_go; dsimp only; rw [if_neg (by rw [i1]; exact g1), if_pos (i2.trans g2)]
      rw [e]
      dsimp only
      rw [e']
      exact ⟨⟨fun _ => trivial, fun _ => ⟨fun _ => trivial, fun q => absurd (i2.trans g2) q⟩⟩, rfl, h⟩
    · obtain ⟨p, hp0, rfl⟩ := isPerson_ne (by omega) (xhP9 hh) g1
      obtain ⟨r, hr0, rfl⟩ := isRoom_ne (by omega) (xhR9 hh) g2
      obtain ⟨a1, a2⟩ := rm_of hR hv hp0
      have ar := at_rm hh hk hv hp0
      have ew := way_eq hh a1 hr0
      have v2 : vp_in (2 + nI p) 72 := by rw [ix2]; exact vp_in_nI (by omega) (by decide)
      have v6 : vp_in (nI (rmN S 131 p)) 6 := vp_in_nI (by omega) (by decide)
      by_cases g3 : f_X11_has S (S 129 (rmN S 131 p)) (nI r) = 0
      · have e : f_X10_go S (nI p) (nI r) = (-1000000003, S) := by unfold f_X10_go; dsimp only; rw [if_neg g1, if_neg g2, ar, ew, if_pos g3]
        have e' : f_X11_go S (nI p) (nI r) = (-1000000003, S) := by unfold f_X11_go; dsimp only; rw [if_neg (by rw [i1]; exact g1), if_neg (by rw [i2]; exact g2), c2n (by omega), a2, cn (by omega), if_pos g3]
        rw [e]
        dsimp only
        rw [e']
        refine ⟨⟨fun _ => trivial, fun _ => ⟨fun _ => trivial, fun _ => ⟨v2, ?_, fun _ => trivial, fun q => absurd ?_ q⟩⟩⟩, rfl, h⟩
        · rw [c2n (by omega), a2]; exact v6
        · rw [c2n (by omega), a2, cn (by omega)]; exact g3
      · have e : f_X10_go S (nI p) (nI r) = (nI (rmN S 131 p), xu (f_X6_remember S 32) 33 p (nI r)) := by
          unfold f_X10_go
          dsimp only
          rw [if_neg g1, if_neg g2, ar, ew, if_neg g3, put_in (N := 7) rfl (by omega) (by decide)]
        rw [e]
        dsimp only
        generalize hU1 : xu (f_X6_remember S 32) 33 p (nI r) = U1
        have eU : ∀ a, a ≠ 33 → U1 a = f_X6_remember S 32 a := fun a q => by rw [← hU1, xu_ne q]
        have eS : ∀ a, 127 ≤ a → U1 a = S a := fun a q => by rw [eU a (by omega), u2 a (by omega) (by omega)]
        obtain ⟨w1, w2, w3⟩ := remV (U1 := U1) hp (eS 127 (by omega))
        have j1 : ¬ f_X11_isPerson U1 (nI p) = 0 := by rw [isP_cg (eS 127 (by omega)), i1]; exact g1
        have j2 : ¬ f_X11_isRoom U1 (nI r) = 0 := by rw [isR_cg (eS 127 (by omega)), i2]; exact g2
        have j3 : ¬ f_X11_has U1 (S 129 (rmN S 131 p)) (nI r) = 0 := g3
        have e' : f_X11_go U1 (nI p) (nI r) = (nI (rmN S 131 p), xu (f_X11_remember U1) 131 (2 + p) (nI r)) := by
          unfold f_X11_go
          dsimp only
          rw [if_neg j1, if_neg j2, c2n (by omega), eS 131 (by omega), a2, cn (by omega), eS 129 (by omega), if_neg j3]
        rw [e']
        refine ⟨⟨fun _ => trivial, fun _ => ⟨fun _ => trivial, fun _ => ⟨v2, ?_, fun _ => trivial, fun _ => ⟨w1, trivial⟩⟩⟩⟩, rfl, ?_⟩
        · rw [c2n (by omega), eS 131 (by omega), a2]; exact v6
        · dsimp only
          generalize hT : xu (f_X11_remember U1) 131 (2 + p) (nI r) = T
          have eT : ∀ a, a ≠ 131 → T a = f_X11_remember U1 a := fun a q => by rw [← hT, xu_ne q]
          have e131 : T 131 = upd (S 131) (2 + p) (nI r) := by rw [← hT, xu_eq, w2 131 (by decide) (by decide), eS 131 (by omega)]
          refine rem_fin (U1 := U1) h1 h2 hh hk hv hp hb hi h4 (fun a _ q => eU a (by omega)) (fun a q _ => eT a q) (fun j _ => by rw [eT 127 (by decide)]) (fun j hj => ?_) ?_ ?_
          · rw [e131, tk_cg (S := U1) (fun i hi => by rw [eT _ (by omega), w2 _ (by omega) (by omega)]), ← hU1, tk_33 (by omega) _ hj]
            by_cases c : j = 2 + p
            · rw [if_pos c, c, upd_eq]
            · rw [if_neg c, upd_ne c, tk_cg (S := S) (fun i hi => u2 _ (by omega) (by omega))]
              exact tk_131 hk j hj
          · rw [e131]; exact vr_room (vr_131 hP hv) (by omega) hr0
          · exact xRd_cg (by rw [eT 26 (by decide), w2 26 (by decide) (by decide), eU 26 (by decide), u2 26 (by decide) (by omega)]) (by rw [eT 127 (by decide), w3 10 (by decide), eS 127 (by omega)]) h5
theorem op_cough {S : xS} (h : xR S) (p0 : Int32) : s_X10_cough S p0 ∧ s_X11_cough ((f_X10_cough S p0).2) p0 ∧ (f_X10_cough S p0).1 = (f_X11_cough ((f_X10_cough S p0).2) p0).1 ∧ xR ((f_X11_cough ((f_X10_cough S p0).2) p0).2) := by
  obtain ⟨h1, h2, ⟨R, P, hh, hk, hv, hp, hb, hi⟩, h4, h5⟩ := id h
  have hP := xhP hh
  have hR := xhR hh
  obtain ⟨u1, u2⟩ := remU hp
  have i1 := person_eq hh p0
  have hs : s_X10_cough S p0 := ⟨fun _ => trivial, fun _ => ⟨fun _ => ⟨u1, trivial⟩, fun _ => trivial⟩⟩
  refine ⟨hs, ?_⟩
  by_cases g1 : f_X2_isPerson S 9 p0 = 0
  · have e : f_X10_cough S p0 = (-1000000001, S) := by unfold f_X10_cough; dsimp only; rw [if_pos g1]
    have e' : f_X11_cough S p0 = (-1000000001, S) := by unfold f_X11_cough; dsimp only; rw [if_pos (i1.trans g1)]
    rw [e]
    dsimp only
    rw [e']
    exact ⟨⟨fun _ => trivial, fun q => absurd (i1.trans g1) q⟩, rfl, h⟩
  · obtain ⟨p, hp0, rfl⟩ := isPerson_ne (by omega) (xhP9 hh) g1
    have ec : f_X10_has S (S 32 4) (nI p) = f_X11_has S (S 131 1) (nI p) := by rw [kC hk, has_nI S S _ (by omega)]
    obtain ⟨w, w1, w2⟩ := co_of hv
    by_cases g3 : f_X11_has S (S 131 1) (nI p) = 0
    · have ec2 : f_X6_remember S 32 32 4 = nI w := by rw [u2 32 (by decide) (by omega), kC hk, w2]
      have e : f_X10_cough S (nI p) = (nI (w ||| 2 ^ p), xu (f_X6_remember S 32) 32 4 (nI (w ||| 2 ^ p))) := by
        unfold f_X10_cough
        dsimp only
        rw [if_neg g1, ec, if_pos g3, bit_k _ (by omega), ec2, fa_or, xu_eq, upd_eq]
      rw [e]
      dsimp only
      generalize hU1 : xu (f_X6_remember S 32) 32 4 (nI (w ||| 2 ^ p)) = U1
      have eU : ∀ a, a ≠ 32 → U1 a = f_X6_remember S 32 a := fun a q => by rw [← hU1, xu_ne q]
      have eS : ∀ a, 127 ≤ a → U1 a = S a := fun a q => by rw [eU a (by omega), u2 a (by omega) (by omega)]
      obtain ⟨r1, r2, r3⟩ := remV (U1 := U1) hp (eS 127 (by omega))
      have j1 : ¬ f_X11_isPerson U1 (nI p) = 0 := by rw [isP_cg (eS 127 (by omega)), i1]; exact g1
      have j3 : f_X11_has U1 (U1 131 1) (nI p) = 0 := by rw [eS 131 (by omega)]; exact g3
      have e131 : f_X11_remember U1 131 1 = nI w := by rw [r2 131 (by decide) (by decide), eS 131 (by omega), w2]
      have e' : f_X11_cough U1 (nI p) = (nI (w ||| 2 ^ p), xu (f_X11_remember U1) 131 1 (nI (w ||| 2 ^ p))) := by
        unfold f_X11_cough
        dsimp only
        rw [if_neg j1, c_1, if_pos j3, e131, shl_k (by omega), fa_or, xu_eq, upd_eq]
      rw [e']
      refine ⟨⟨fun _ => trivial, fun _ => ⟨fun _ => ⟨r1, trivial⟩, fun _ => trivial⟩⟩, rfl, ?_⟩
      dsimp only
      generalize hT : xu (f_X11_remember U1) 131 1 (nI (w ||| 2 ^ p)) = T
      have eT : ∀ a, a ≠ 131 → T a = f_X11_remember U1 a := fun a q => by rw [← hT, xu_ne q]
      have e131 : T 131 = upd (S 131) 1 (nI (w ||| 2 ^ p)) := by rw [← hT, xu_eq, r2 131 (by decide) (by decide), eS 131 (by omega)]
      refine rem_fin (U1 := U1) h1 h2 hh hk hv hp hb hi h4 (fun a _ q => eU a (by omega)) (fun a q _ => eT a q) (fun j _ => by rw [eT 127 (by decide)]) (fun j hj => ?_) ?_ ?_
      · rw [e131, tk_cg (S := U1) (fun i hi => by rw [eT _ (by omega), r2 _ (by omega) (by omega)]), ← hU1, tk_32 _ hj]
        by_cases c : j = 1
        · rw [if_pos c, c, upd_eq]
        · rw [if_neg c, upd_ne c, tk_cg (S := S) (fun i hi => u2 _ (by omega) (by omega))]
          exact tk_131 hk j hj
      · rw [e131]; exact vr_cough (vr_131 hP hv) (or_lt w1 (pw_lt hp0))
      · exact xRd_cg (by rw [eT 26 (by decide), r2 26 (by decide) (by decide), eU 26 (by decide), u2 26 (by decide) (by omega)]) (by rw [eT 127 (by decide), r3 10 (by decide), eS 127 (by omega)]) h5
    · have e : f_X10_cough S (nI p) = (-1000000003, S) := by unfold f_X10_cough; dsimp only; rw [if_neg g1, ec, if_neg g3]
      have e' : f_X11_cough S (nI p) = (-1000000003, S) := by unfold f_X11_cough; dsimp only; rw [if_neg (by rw [i1]; exact g1), c_1, if_neg g3]
      rw [e]
      dsimp only
      rw [e']
      refine ⟨⟨fun _ => trivial, fun _ => ⟨fun q => absurd q ?_, fun _ => trivial⟩⟩, rfl, h⟩
      rw [c_1]; exact g3
theorem op_like {S : xS} (h : xR S) (p0 p1 p2 : Int32) : s_X10_like S p0 p1 p2 ∧ s_X11_like ((f_X10_like S p0 p1 p2).2) p0 p1 p2 ∧ (f_X10_like S p0 p1 p2).1 = (f_X11_like ((f_X10_like S p0 p1 p2).2) p0 p1 p2).1 ∧ xR ((f_X11_like ((f_X10_like S p0 p1 p2).2) p0 p1 p2).2) := by
  obtain ⟨h1, h2, ⟨R, P, hh, hk, hv, hp, hb, hi⟩, h4, h5⟩ := id h
  have hP := xhP hh
  have hR := xhR hh
  obtain ⟨u1, u2⟩ := remU hp
  have i1 := two_eq hh p0 p1
  have i2 : ∀ T, f_X11_in T p2.toInt64 0 9 = f_X10_within S p2 0 9 := fun T => in_within T S p2 0 9 rfl rfl
  have hs : s_X10_like S p0 p1 p2 := ⟨fun _ => trivial, fun _ => ⟨fun _ => trivial, fun _ => ⟨u1, trivial⟩⟩⟩
  refine ⟨hs, ?_⟩
  by_cases g1 : f_X2_isPair S 9 p0 p1 = 0
  · have e : f_X10_like S p0 p1 p2 = (-1000000001, S) := by unfold f_X10_like; dsimp only; rw [if_pos g1]
    have e' : f_X11_like S p0 p1 p2 = (-1000000001, S) := by unfold f_X11_like; dsimp only; rw [if_pos (i1.trans g1)]
    rw [e]
    dsimp only
    rw [e']
    exact ⟨⟨fun _ => trivial, fun q => absurd (i1.trans g1) q⟩, rfl, h⟩
  · by_cases g2 : f_X10_within S p2 0 9 = 0
    · have e : f_X10_like S p0 p1 p2 = (-1000000002, S) := by unfold f_X10_like; dsimp only; rw [if_neg g1, if_pos g2]
      have e' : f_X11_like S p0 p1 p2 = (-1000000002, S) := by unfold f_X11_like; dsimp only; rw [if_neg (by rw [i1]; exact g1), if_pos ((i2 S).trans g2)]
      rw [e]
      dsimp only
      rw [e']
      exact ⟨⟨fun _ => trivial, fun _ => ⟨fun _ => trivial, fun q => absurd ((i2 S).trans g2) q⟩⟩, rfl, h⟩
    · obtain ⟨p, q, hp0, hq0, -, rfl, rfl⟩ := isPair_ne (by omega) (xhP9 hh) g1
      have g3 := g2
      rw [within_eq] at g3
      have g3 : (0 : Int32).toInt ≤ p2.toInt ∧ p2.toInt ≤ (9 : Int32).toInt := Classical.byContradiction (fun q => g3 (if_neg q))
      have z0 : (0 : Int32).toInt = 0 := rfl
      have z9 : (9 : Int32).toInt = 9 := rfl
      obtain ⟨v, hv0, rfl⟩ := nI_of (x := p2) (by rw [i_lt]; omega)
      rw [nI_toInt hv0] at g3
      have ev : ∀ T : xS, f_X10_pairIndex T (nI p) (nI q) = nI (7 * p + q) := fun T => by unfold f_X10_pairIndex; exact pair_nI p q
      have eo : f_X6_remember S 32 36 (7 * p + q) = S 131 (23 + (7 * p + q)) := by rw [u2 36 (by decide) (by omega)]; exact kL hk (by omega)
      have e : f_X10_like S (nI p) (nI q) (nI v) = (S 131 (23 + (7 * p + q)), xu (f_X6_remember S 32) 36 (7 * p + q) (nI v)) := by
        unfold f_X10_like
        dsimp only
        rw [if_neg g1, if_neg g2, ev, at_in (N := 49) rfl (by omega) (by decide), put_in (N := 49) rfl (by omega) (by decide), eo]
      rw [e]
      dsimp only
      generalize hU1 : xu (f_X6_remember S 32) 36 (7 * p + q) (nI v) = U1
      have eU : ∀ a, a ≠ 36 → U1 a = f_X6_remember S 32 a := fun a q => by rw [← hU1, xu_ne q]
      have eS : ∀ a, 127 ≤ a → U1 a = S a := fun a q => by rw [eU a (by omega), u2 a (by omega) (by omega)]
      obtain ⟨r1, r2, r3⟩ := remV (U1 := U1) hp (eS 127 (by omega))
      have j1 : ¬ f_X11_areTwo U1 (nI p) (nI q) = 0 := by rw [two_cg (eS 127 (by omega)), i1]; exact g1
      have j2 : ¬ f_X11_in U1 (nI v).toInt64 0 9 = 0 := by rw [i2]; exact g2
      have v3 : vp_in (23 + 7 * nI p + nI q) 72 := by rw [ix23]; exact vp_in_nI (by omega) (by decide)
      have e' : f_X11_like U1 (nI p) (nI q) (nI v) = (S 131 (23 + (7 * p + q)), xu (f_X11_remember U1) 131 (23 + (7 * p + q)) (nI v)) := by
        unfold f_X11_like
        dsimp only
        rw [if_neg j1, if_neg j2, c23n (by omega) (by omega), r2 131 (by decide) (by decide), eS 131 (by omega)]
      rw [e']
      refine ⟨⟨fun _ => trivial, fun _ => ⟨fun _ => trivial, fun _ => ⟨r1, v3, trivial⟩⟩⟩, rfl, ?_⟩
      dsimp only
      generalize hT : xu (f_X11_remember U1) 131 (23 + (7 * p + q)) (nI v) = T
      have eT : ∀ a, a ≠ 131 → T a = f_X11_remember U1 a := fun a q => by rw [← hT, xu_ne q]
      have e131 : T 131 = upd (S 131) (23 + (7 * p + q)) (nI v) := by rw [← hT, xu_eq, r2 131 (by decide) (by decide), eS 131 (by omega)]
      refine rem_fin (U1 := U1) h1 h2 hh hk hv hp hb hi h4 (fun a _ q => eU a (by omega)) (fun a q _ => eT a q) (fun j _ => by rw [eT 127 (by decide)]) (fun j hj => ?_) ?_ ?_
      · rw [e131, tk_cg (S := U1) (fun i hi => by rw [eT _ (by omega), r2 _ (by omega) (by omega)]), ← hU1, tk_36 _ hj]
        by_cases c : j = 23 + (7 * p + q)
        · rw [if_pos c, c, upd_eq]
        · rw [if_neg c, upd_ne c, tk_cg (S := S) (fun i hi => u2 _ (by omega) (by omega))]
          exact tk_131 hk j hj
      · rw [e131]; exact vr_like hP (vr_131 hP hv) (by omega)
      · exact xRd_cg (by rw [eT 26 (by decide), r2 26 (by decide) (by decide), eU 26 (by decide), u2 26 (by decide) (by omega)]) (by rw [eT 127 (by decide), r3 10 (by decide), eS 127 (by omega)]) h5
