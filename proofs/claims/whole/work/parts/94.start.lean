set_option maxHeartbeats 8000000 in
set_option maxRecDepth 100000 in
/-- THE LAW, from its entry -/
theorem whole_start {p : Program} {e : Env} {s : State} {m : MethodId} {below : List Frame} {meth : Method} {c : Code} (l : Launch) (hflags : l.flags = flags0) {b L : Nat} {xs : Nat → Int32} (hL : L ≤ 2048) (C0 : lw_At p s m meth c b L xs) : W p l e room_1 s m #[Value.ref b] below meth c s.heap [] 0 0 (lw_Z below #[Value.ref b] s) (entryFrame m ([Value.ref b] : List Value).toArray 4) := by
  obtain ⟨hx, hb, hr, hml, hown, hts0, hX, hbl, hlocks, hgv⟩ := id C0
  have hts : ∀ w ∈ wsL_law, w.before #[Value.ref b] s = true := fun w h => hts0 w (wsL_law_in w h)
  have hA : ∀ q : Nat, s.heap.size ≤ q → lwA s q := fun _ h => h
  obtain ⟨c0, i0, hKn0⟩ := u_known (C := RX0) (T := TX0) (N := 3) (n := 3) hts inlX0 (hts (.instantiable RX0 3) (List.mem_of_getElem? (i := 41) (by decide +kernel)))
  obtain ⟨c1, i1, hKn1⟩ := u_known (C := RX1) (T := TX1) (N := 1) (n := 1) hts inlX1 (hts (.instantiable RX1 1) (List.mem_of_getElem? (i := 45) (by decide +kernel)))
  obtain ⟨c2, i2, hKn2⟩ := u_known (C := RX2) (T := TX2) (N := 10) (n := 10) hts inlX2 (hts (.instantiable RX2 10) (List.mem_of_getElem? (i := 17) (by decide +kernel)))
  obtain ⟨c3, i3, hKn3⟩ := u_known (C := RX3) (T := TX3) (N := 3) (n := 3) hts inlX3 (hts (.instantiable RX3 3) (List.mem_of_getElem? (i := 50) (by decide +kernel)))
  obtain ⟨c4, i4, hKn4⟩ := u_known (C := RX4) (T := TX4) (N := 2) (n := 2) hts inlX4 (hts (.instantiable RX4 2) (List.mem_of_getElem? (i := 25) (by decide +kernel)))
  obtain ⟨c5, i5, hKn5⟩ := u_known (C := RX5) (T := TX5) (N := 4) (n := 4) hts inlX5 (hts (.instantiable RX5 4) (List.mem_of_getElem? (i := 37) (by decide +kernel)))
  obtain ⟨c6, i6, hKn6⟩ := u_known (C := RX6) (T := TX6) (N := 3) (n := 3) hts inlX6 (hts (.instantiable RX6 3) (List.mem_of_getElem? (i := 33) (by decide +kernel)))
  obtain ⟨c7, i7, hKn7⟩ := u_known (C := RX7) (T := TX7) (N := 6) (n := 6) hts inlX7 (hts (.instantiable RX7 6) (List.mem_of_getElem? (i := 21) (by decide +kernel)))
  obtain ⟨c8, i8, hKn8⟩ := u_known (C := RX8) (T := TX8) (N := 8) (n := 8) hts inlX8 (hts (.instantiable RX8 8) (List.mem_of_getElem? (i := 13) (by decide +kernel)))
  obtain ⟨c9, i9, hKn9⟩ := u_known (C := RX9) (T := TX9) (N := 5) (n := 5) hts inlX9 (hts (.instantiable RX9 5) (List.mem_of_getElem? (i := 29) (by decide +kernel)))
  obtain ⟨c10, i10, hKn10⟩ := u_known (C := RX10) (T := TX10) (N := 10) (n := 10) hts inlX10 (hts (.instantiable RX10 10) (List.mem_of_getElem? (i := 1) (by decide +kernel)))
  obtain ⟨c11, i11, hKn11⟩ := u_known (C := RX11) (T := TX11) (N := 41) (n := 41) hts inlX11 (hts (.instantiable RX11 41) (List.mem_of_getElem? (i := 4) (by decide +kernel)))
  obtain ⟨D, hKc⟩ : ∃ D : va_G, ∀ (k : Nat) (q : vw_C), vwCl[k]? = some q → u_Kn s q.1 q.2.1 q.2.2 (D.1 k) (D.2 k) := by
    refine ⟨(fun k => ([c0, c1, c2, c3, c4, c5, c6, c7, c8, c9, c10, c11] : List ClassId).getD k c0, fun k => ([i0, i1, i2, i3, i4, i5, i6, i7, i8, i9, i10, i11] : List (Nat → Nat)).getD k i0), ?_⟩
    intro k q hq
    match k, hq with
    | 0, hq => cases hq; exact hKn0
    | 1, hq => cases hq; exact hKn1
    | 2, hq => cases hq; exact hKn2
    | 3, hq => cases hq; exact hKn3
    | 4, hq => cases hq; exact hKn4
    | 5, hq => cases hq; exact hKn5
    | 6, hq => cases hq; exact hKn6
    | 7, hq => cases hq; exact hKn7
    | 8, hq => cases hq; exact hKn8
    | 9, hq => cases hq; exact hKn9
    | 10, hq => cases hq; exact hKn10
    | 11, hq => cases hq; exact hKn11
    | k + 12, hq => simp [vwCl] at hq
  obtain ⟨cI, kI, mI, f1, f2, f3⟩ := Cond.arrayClass_spec (hts0 (.arrayClass .int) ac_I_in)
  obtain ⟨cZ, kZ, mZ, f4, f5, f6⟩ := Cond.arrayClass_spec (hts0 (.arrayClass .boolean) ac_Z_in)
  obtain ⟨mM, cM, kM, g1, g2, g3, g4, g5⟩ := Cond.arrayOver_spec (hts0 (.arrayOver (.object "AbsentPraise$Image")) ao_M_in)
  obtain ⟨mT, cT, kT, g6, g7, g8, g9, g10⟩ := Cond.arrayOver_spec (hts0 (.arrayOver (.object "AbsentPraise$Talk")) ao_T_in)
  generalize hX0 : ((D, (fun _ => 0), (cI, cZ, cM, cT)) : xX) = X0
  have hKt : ∀ ad : Nat → Nat, va_K D vwCl (xtys (D, ad, (cI, cZ, cM, cT))) s := by
    intro ad
    refine ⟨hKc, fun k q hq => ?_⟩
    match k, hq with
    | 0, hq => cases hq; exact ⟨fun N z => ⟨(fun k h => by cases h), kI, f2, mI, f3⟩, f1⟩
    | 1, hq => cases hq; exact ⟨fun N z => ⟨(fun k h => by cases h), kZ, f5, mZ, f6⟩, f4⟩
    | 2, hq => cases hq; exact ⟨fun N z => ⟨(fun k h => by cases h), kM, g3, mM, g4⟩, kM, mM, g3, g4, g1, g5⟩
    | 3, hq => cases hq; exact ⟨fun N z => ⟨(fun k h => by cases h), kT, g8, mT, g9⟩, kT, mT, g8, g9, g6, g10⟩
    | k + 4, hq => cases hq
  have hK : va_K X0.1 vwCl (xtys X0) s := by rw [← hX0]; exact hKt _
  have hNC : xNC s := ⟨fun i q hq => va_Nw.of rfl (hts0 _ (xNLC_in q (List.mem_of_getElem? hq))), va_AO.of (hts0 _ ao_T_in), va_AO.of (hts0 _ ao_M_in)⟩
  have hN : xN s := fun i q hq => va_Nw.of rfl (hts0 _ (xNL_in q (List.mem_of_getElem? hq)))
  have hS : va_S (lwA s) s.heap s.heap [] := va_S.rf
  have hP : va_P X0.1 vwCl [] s.heap := fun k q h => by cases h
  have hD : va_D (lwA s) [] := ⟨fun i j p q h => (by cases h), fun k q h => (by cases h)⟩
  have hl := lv_entry ([.ref b]) (n := 4) (Nat.le_of_ble_eq_true rfl)
  rw [lg_entry_eq]
  generalize (lg_sl ([.ref b]) ++ List.replicate (4 - (lg_sl ([.ref b])).length) Slot.unset).toArray = ls at hl ⊢
  have hl : lv_has ls 4 [(0, .ref b)] := hl
  refine va_new (ci := 10) (fs := [.null, .null, .null, .null, .null, .null, .null, .null, .null, .null]) (C := RX10) (T := TX10) (N := 10) hx hb hts inlX10 tyX10 tyX10_ok hown (hts (.classLink RL 7 RX10) (List.mem_of_getElem? (i := 0) (by decide +kernel))) (hts (.instantiable RX10 10) (List.mem_of_getElem? (i := 1) (by decide +kernel))) (hts (.initialized RX10) (List.mem_of_getElem? (i := 2) (by decide +kernel))) hK hP hD hS hA rfl (fun j hj => by rcases (show j = 0 ∨ j = 1 ∨ j = 2 ∨ j = 3 ∨ j = 4 ∨ j = 5 ∨ j = 6 ∨ j = 7 ∨ j = 8 ∨ j = 9 by omega) with rfl | rfl | rfl | rfl | rfl | rfl | rfl | rfl | rfl | rfl <;> rfl) (Nat.le_of_ble_eq_true rfl) (Nat.le_of_ble_eq_true rfl) dL_law_0 (fun q0 H hP hD hS => ?_)
  refine lv_dup hx hb dL_law_3 rfl ?_
  refine xciP (ws0 := []) (As := []) (rest := [.ref q0]) ⟨hx, hb, hml, hown, hts⟩ hK hNC hP hD hS hA (k_X10_init l X0 q0 H.size) (cwI 0 hts gL_law_X10_init rfl rfl rfl (hts (.initialized RX10) (List.mem_of_getElem? (i := 2) (by decide +kernel))) (hts (.methodLink RL 9 yX10_init) (List.mem_of_getElem? (i := 6) (by decide +kernel))) (hts (.instanceMethod yX10_init) (List.mem_of_getElem? (i := 7) (by decide +kernel))) rfl hs_X10_init ⟨Nat.le_of_ble_eq_true rfl, Nat.le_of_ble_eq_true rfl⟩) rfl rfl hl.1 (Nat.le_of_ble_eq_true rfl) dL_law_4 (Nat.le_of_ble_eq_true rfl) (Nat.le_of_ble_eq_true rfl) (fun u0 H locs hP hD hS => ?_)
  refine lv_astore_n (lv' := [(1, .ref q0), (0, .ref b)]) hx hb dL_law_7 rfl hl (by decide) rfl (fun ls hl => ?_)
  refine va_new (ci := 11) (fs := [.int 0, .int 0, .int 0, .int 0, .null, .null, .int 0, .null, .null, .null, .int 0, .int 0, .null, .null, .null, .int 0, .null, .null, .null, .int 0, .int 0, .int 0, .int 0, .int 0, .int 0, .int 0, .int 0, .int 0, .null, .null, .int 0, .null, .null, .int 0, .null, .int 0, .int 0, .null, .null, .null, .null]) (C := RX11) (T := TX11) (N := 41) hx hb hts inlX11 tyX11 tyX11_ok hown (hts (.classLink RL 10 RX11) (List.mem_of_getElem? (i := 3) (by decide +kernel))) (hts (.instantiable RX11 41) (List.mem_of_getElem? (i := 4) (by decide +kernel))) (hts (.initialized RX11) (List.mem_of_getElem? (i := 5) (by decide +kernel))) hK hP hD hS hA rfl (fun j hj => by rcases (show j = 0 ∨ j = 1 ∨ j = 2 ∨ j = 3 ∨ j = 4 ∨ j = 5 ∨ j = 6 ∨ j = 7 ∨ j = 8 ∨ j = 9 ∨ j = 10 ∨ j = 11 ∨ j = 12 ∨ j = 13 ∨ j = 14 ∨ j = 15 ∨ j = 16 ∨ j = 17 ∨ j = 18 ∨ j = 19 ∨ j = 20 ∨ j = 21 ∨ j = 22 ∨ j = 23 ∨ j = 24 ∨ j = 25 ∨ j = 26 ∨ j = 27 ∨ j = 28 ∨ j = 29 ∨ j = 30 ∨ j = 31 ∨ j = 32 ∨ j = 33 ∨ j = 34 ∨ j = 35 ∨ j = 36 ∨ j = 37 ∨ j = 38 ∨ j = 39 ∨ j = 40 by omega) with rfl | rfl | rfl | rfl | rfl | rfl | rfl | rfl | rfl | rfl | rfl | rfl | rfl | rfl | rfl | rfl | rfl | rfl | rfl | rfl | rfl | rfl | rfl | rfl | rfl | rfl | rfl | rfl | rfl | rfl | rfl | rfl | rfl | rfl | rfl | rfl | rfl | rfl | rfl | rfl | rfl <;> rfl) (Nat.le_of_ble_eq_true rfl) (Nat.le_of_ble_eq_true rfl) dL_law_8 (fun q1 H hP hD hS => ?_)
  refine lv_dup hx hb dL_law_11 rfl ?_
  refine xciP (ws0 := ([] ++ cw_X10 X0 q0 u0)) (As := []) (rest := [.ref q1]) ⟨hx, hb, hml, hown, hts⟩ hK hNC hP hD hS hA (k_X11_init l X0 q1 H.size) (cwI 0 hts gL_law_X11_init rfl rfl rfl (hts (.initialized RX11) (List.mem_of_getElem? (i := 5) (by decide +kernel))) (hts (.methodLink RL 12 yX11_init) (List.mem_of_getElem? (i := 115) (by decide +kernel))) (hts (.instanceMethod yX11_init) (List.mem_of_getElem? (i := 116) (by decide +kernel))) rfl hs_X11_init ⟨Nat.le_of_ble_eq_true rfl, Nat.le_of_ble_eq_true rfl⟩) rfl rfl hl.1 (Nat.le_of_ble_eq_true rfl) dL_law_12 (Nat.le_of_ble_eq_true rfl) (Nat.le_of_ble_eq_true rfl) (fun u1 H locs hP hD hS => ?_)
  refine lv_astore_n (lv' := [(2, .ref q1), (1, .ref q0), (0, .ref b)]) hx hb dL_law_15 rfl hl (by decide) rfl (fun ls hl => ?_)
  refine lv_iconst (v := 0) hx hb dL_law_16 (by decide) ?_
  refine lv_istore_n (lv' := [(3, .int 0), (2, .ref q1), (1, .ref q0), (0, .ref b)]) hx hb dL_law_17 rfl hl (by decide) rfl (fun ls hl => ?_)
  subst hX0
  have hi := xini D (fun _ => 0) (cI, cZ, cM, cT) q0 q1 u0 u1
  have hP2 : va_P D vwCl (xW (D, xad q0 q1 u0 u1, (cI, cZ, cM, cT)) xS0) H := by
    intro k q hq
    obtain ⟨hk, -⟩ := xW_adr _ _ hq
    rw [xW_at _ _ hk] at hq
    cases hq
    obtain ⟨e2, z1, z2⟩ := hi k hk
    exact z2 H (hP _ _ z1)
  have hJ : xJ (D, xad q0 q1 u0 u1, (cI, cZ, cM, cT)) := fun i j h1 h2 h3 => xpl_inj i h1 j h2 (hD.1 _ _ _ _ (hi i h1).choose_spec.1 (hi j h2).choose_spec.1 h3)
  have hAd : ∀ k, k < 148 → s.heap.size ≤ xad q0 q1 u0 u1 k := fun k hk => hD.2 _ _ (hi k hk).choose_spec.1
  have hC : lwC (D, xad q0 q1 u0 u1, (cI, cZ, cM, cT)) p s m meth c b L xs := ⟨⟨hx, hb, hml, hown, hts⟩, hKt _, hN, hJ, hAd, hX, hbl, hr, hlocks, hL⟩
  refine W.widen (k := 600000) (n := 7302250) (Nat.le_of_ble_eq_true rfl) (Nat.le_of_ble_eq_true rfl) ?_
  exact law_loop hC (L + 1) 0 (Nat.zero_le L) (by omega) xS0 xR_0 H locs hP2 hS ls (lv_sub hl [3, 2, 1, 0] rfl)
