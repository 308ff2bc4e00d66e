set_option linter.all false
/-! contracts: X4_personsIn, X4_reaches, X10_words, X4_says, X4_saysNow, J9_floorMod_7cf53 -/
theorem hd_X4_personsIn : yX4_personsIn.cls = RX4 ∧ yX4_personsIn.cls ≠ "java/lang/invoke/MethodHandle" ∧ yX4_personsIn.cls ≠ "java/lang/invoke/VarHandle" ∧ (parseMethodDescriptor yX4_personsIn.desc).map (fun d => d.parameters.length) = some 1 := by decide +kernel
set_option maxHeartbeats 4000000 in
set_option maxRecDepth 100000 in
theorem k_X4_personsIn (l : Launch) (X : xX) (S : xS) (p0 : Int32) (hs : s_X4_personsIn S p0) : Met l yX4_personsIn wsX4_personsIn ({ frames := 1, cells := 0, slots := 0, locals := 21 } : Room) (va_Pc [.ref (X.2.1 15), .int p0] (xI X S)) (va_Qi (fun (r : Int32) (u : xS) => r = (f_X4_personsIn S p0) ∧ u = S) (xI X) (xA X)) 0 0 (xA X) := by
  refine Met.ofW (cc := cX4_personsIn) (maxL := 4) (ret := (some .int)) (by decide +kernel) rfl ?_
  intro p e s m args below meth c s₁ B hml hv
  obtain ⟨rfl, hP, hK, hN, hJ⟩ := hv
  have hx := B.exec
  have hb := B.bytes
  have hr := B.returns
  have hts := atoms_spec (ws := wsX4_personsIn) B.pre
  have hown : s.vm.findClass RX4 = some m.cls := findClass_of_methodNamed B.named
  have hlocks := B.notSynchronized
  have hC : xC X p m c cX4_personsIn 4 s _ wsX4_personsIn RX4 := ⟨⟨hx, hb, hml, hown, hts⟩, hK, hN, hJ⟩
  have hS : va_S (xA X) s.heap s.heap [] := va_S.rf
  have hin_X2 : ∀ w ∈ u_ws RX2 TX2 10, w ∈ wsX4_personsIn := by decide +kernel
  have hin_X4 : ∀ w ∈ u_ws RX4 TX4 2, w ∈ wsX4_personsIn := by decide +kernel
  have hin_X7 : ∀ w ∈ u_ws RX7 TX7 6, w ∈ wsX4_personsIn := by decide +kernel
  have hl := lv_entry ([.ref (X.2.1 15), .int p0]) (n := 4) (Nat.le_of_ble_eq_true rfl)
  rw [lg_entry_eq]
  generalize (lg_sl ([.ref (X.2.1 15), .int p0]) ++ List.replicate (4 - (lg_sl ([.ref (X.2.1 15), .int p0])).length) Slot.unset).toArray = ls at hl ⊢
  have hl : lv_has ls 4 [(0, .ref (X.2.1 15)), (1, .int p0)] := hl
  refine lv_iconst (v := 0) hx hb dX4_personsIn_0 (by decide) ?_
  refine lv_istore_n (lv' := [(2, .int 0), (0, .ref (X.2.1 15)), (1, .int p0)]) hx hb dX4_personsIn_1 rfl hl (by decide) rfl (fun ls hl => ?_)
  refine lv_iconst (v := 0) hx hb dX4_personsIn_2 (by decide) ?_
  refine lv_istore_n (lv' := [(3, .int 0), (2, .int 0), (0, .ref (X.2.1 15)), (1, .int p0)]) hx hb dX4_personsIn_3 rfl hl (by decide) rfl (fun ls hl => ?_)
  have hLp_4 : ∀ (n : Nat) (x1_4 : Int32) (x2_4 : Int32) (x3_4 : Int32), s_X4_personsIn_L4 n S x1_4 x2_4 x3_4 → (∀ q : Int32, q = f_X4_personsIn_L4 n S x1_4 x2_4 x3_4 → (∀ (H : Heap) (locs : List Loc), va_P X.1 vwCl (xW X S) H → va_S (xA X) s.heap H locs → ∀ (ls : Array Slot), lv_has ls 4 [(2, .int q)] → W p l e ({ frames := 1, cells := 0, slots := 0, locals := 21 } : Room) s m ([.ref (X.2.1 15), .int p0] : List Value).toArray below meth c H locs 0 0 (MQ below (va_Qi (fun (r : Int32) (u : xS) => r = (f_X4_personsIn S p0) ∧ u = S) (xI X) (xA X)) ([.ref (X.2.1 15), .int p0] : List Value).toArray s 0 0 (xA X)) (F0 m 46 ls []))) → ∀ (H : Heap) (locs : List Loc), va_P X.1 vwCl (xW X S) H → va_S (xA X) s.heap H locs → ∀ (ls : Array Slot), lv_has ls 4 [(0, .ref (X.2.1 15)), (1, .int x1_4), (2, .int x2_4), (3, .int x3_4)] → W p l e ({ frames := 1, cells := 0, slots := 0, locals := 21 } : Room) s m ([.ref (X.2.1 15), .int p0] : List Value).toArray below meth c H locs 0 0 (MQ below (va_Qi (fun (r : Int32) (u : xS) => r = (f_X4_personsIn S p0) ∧ u = S) (xI X) (xA X)) ([.ref (X.2.1 15), .int p0] : List Value).toArray s 0 0 (xA X)) (F0 m 4 ls []) := by
    intro n
    induction n with
    | zero => intro x1_4 x2_4 x3_4 hs; exact hs.elim
    | succ n ih_4 =>
      intro x1_4 x2_4 x3_4 hs_4 hex_4 H locs hP hS ls hl
      refine lv_iload_n hx hb dX4_personsIn_4 rfl (lv_at hl 3 rfl) ?_
      refine lv_aload_n hx hb dX4_personsIn_5 rfl (lv_at hl 0 rfl) ?_
      refine xget (ref := "AbsentPraise$Life") (T := TX4) (v := .ref (X.2.1 9)) hC hP hin_X4 xo_X4 rfl 0 (by decide) (List.mem_of_getElem? (i := 1) rfl) rfl rfl dX4_personsIn_6 ?_
      refine xget (ref := "AbsentPraise$Hill") (T := TX2) (v := .int (S 9 9)) hC hP hin_X2 (xo_H (by decide)) rfl 9 (by decide) (List.mem_of_getElem? (i := 2) rfl) rfl rfl dX4_personsIn_9 ?_
      refine lv_icmp_ge (tgt := 46) hx hb dX4_personsIn_12 (by decide) (fun c_1 => ?_) (fun c_1 => ?_)
      · have he_2 : f_X4_personsIn_L4 (n + 1) S x1_4 x2_4 x3_4 = x2_4 := ((ip c_1 rfl))
        exact hex_4 _ he_2.symm _ _ hP hS ls (lv_sub hl [2] rfl)
      · refine lv_iload_n hx hb dX4_personsIn_15 rfl (lv_at hl 1 rfl) ?_
        refine lv_aload_n hx hb dX4_personsIn_16 rfl (lv_at hl 0 rfl) ?_
        refine xget (ref := "AbsentPraise$Life") (T := TX4) (v := .ref (X.2.1 32)) hC hP hin_X4 xo_X4 rfl 1 (by decide) (List.mem_of_getElem? (i := 3) rfl) rfl rfl dX4_personsIn_17 ?_
        refine xget (ref := "AbsentPraise$Talk") (T := TX7) (v := .ref (X.2.1 33)) hC hP hin_X7 (xo_T (by decide)) rfl 0 (by decide) (List.mem_of_getElem? (i := 4) rfl) rfl rfl dX4_personsIn_20 ?_
        refine lv_iload_n hx hb dX4_personsIn_23 rfl (lv_at hl 3 rfl) ?_
        refine xcSN_iR (As := [.ref (X.2.1 33), .int x3_4]) (rest := [.int x1_4]) hC hP hS (k_X10_at l X S 33 x3_4 rfl) (va_cnB (host := "AbsentPraise") 2 hts gX4_personsIn_X10_at_n31 rfl rfl rfl (xn_10 hN) (hts (.initialized RX10) (List.mem_of_getElem? (i := 6) rfl)) hs_X10_at ⟨Nat.le_of_ble_eq_true rfl, Nat.le_of_ble_eq_true rfl⟩) (hts (.static yX10_at) (List.mem_of_getElem? (i := 5) rfl)) rfl rfl hl.1 (Nat.le_of_ble_eq_true rfl) dX4_personsIn_24 (fun r_3 hr_3 H locs hP hS => ?_)
        refine xcSN_iR (As := [.int x1_4, .int r_3]) (rest := []) hC hP hS (k_X10_has l X S x1_4 r_3) (va_cnB (host := "AbsentPraise") 2 hts gX4_personsIn_X10_has_n35 rfl rfl rfl (xn_11 hN) (hts (.initialized RX10) (List.mem_of_getElem? (i := 6) rfl)) hs_X10_has ⟨Nat.le_of_ble_eq_true rfl, Nat.le_of_ble_eq_true rfl⟩) (hts (.static yX10_has) (List.mem_of_getElem? (i := 8) rfl)) rfl rfl hl.1 (Nat.le_of_ble_eq_true rfl) dX4_personsIn_27 (fun r_4 hp_r_4 H locs hP hS => ?_)
        obtain ⟨hr_4, hzr_4⟩ := hp_r_4
        refine lv_if_eq (tgt := 40) hx hb dX4_personsIn_30 (by decide) (fun c_5 => ?_) (fun c_5 => ?_)
        · refine lv_iinc (v := (x3_4 + 1)) (lv' := [(3, .int (x3_4 + 1)), (0, .ref (X.2.1 15)), (1, .int x1_4), (2, .int x2_4)]) hx hb dX4_personsIn_40 hl (k := 3) rfl rfl (by decide) rfl (fun ls hl => ?_)
          refine lv_goto (tgt := 4) hx hb dX4_personsIn_43 (by decide) ?_
          have he_6 : f_X4_personsIn_L4 (n + 1) S x1_4 x2_4 x3_4 = f_X4_personsIn_L4 n S x1_4 x2_4 (x3_4 + 1) := (by have hr_3 := hr_3.symm; have hr_4 := hr_4.symm; subst hr_3 hr_4; exact (iN c_1 (ip c_5 rfl)))
          exact ih_4 x1_4 x2_4 (x3_4 + 1) (by have hr_3 := hr_3.symm; have hr_4 := hr_4.symm; subst hr_3 hr_4; exact (sp (sn hs_4 c_1) c_5)) (fun q hq => hex_4 q (hq.trans he_6.symm)) _ _ hP hS ls (lv_sub hl [1, 2, 3, 0] rfl)
        · refine lv_iload_n hx hb dX4_personsIn_33 rfl (lv_at hl 2 rfl) ?_
          refine lv_iload_n hx hb dX4_personsIn_34 rfl (lv_at hl 3 rfl) ?_
          refine xcSN_iR (As := [.int x3_4]) (rest := [.int x2_4]) hC hP hS (k_X10_bit l X S x3_4) (va_cnB (host := "AbsentPraise") 1 hts gX4_personsIn_X10_bit_n39 rfl rfl rfl (xn_18 hN) (hts (.initialized RX10) (List.mem_of_getElem? (i := 6) rfl)) hs_X10_bit ⟨Nat.le_of_ble_eq_true rfl, Nat.le_of_ble_eq_true rfl⟩) (hts (.static yX10_bit) (List.mem_of_getElem? (i := 10) rfl)) rfl rfl hl.1 (Nat.le_of_ble_eq_true rfl) dX4_personsIn_35 (fun r_7 hr_7 H locs hP hS => ?_)
          refine lv_ior hx hb dX4_personsIn_38 ?_
          refine lv_istore_n (lv' := [(2, .int (x2_4 ||| r_7)), (0, .ref (X.2.1 15)), (1, .int x1_4), (3, .int x3_4)]) hx hb dX4_personsIn_39 rfl hl (by decide) rfl (fun ls hl => ?_)
          refine lv_iinc (v := (x3_4 + 1)) (lv' := [(3, .int (x3_4 + 1)), (2, .int (x2_4 ||| r_7)), (0, .ref (X.2.1 15)), (1, .int x1_4)]) hx hb dX4_personsIn_40 hl (k := 3) rfl rfl (by decide) rfl (fun ls hl => ?_)
          refine lv_goto (tgt := 4) hx hb dX4_personsIn_43 (by decide) ?_
          have he_8 : f_X4_personsIn_L4 (n + 1) S x1_4 x2_4 x3_4 = f_X4_personsIn_L4 n S x1_4 (x2_4 ||| r_7) (x3_4 + 1) := (by have hr_3 := hr_3.symm; have hr_4 := hr_4.symm; have hr_7 := hr_7.symm; subst hr_3 hr_4 hr_7; exact (iN c_1 (iN c_5 rfl)))
          exact ih_4 x1_4 (x2_4 ||| r_7) (x3_4 + 1) (by have hr_3 := hr_3.symm; have hr_4 := hr_4.symm; have hr_7 := hr_7.symm; subst hr_3 hr_4 hr_7; exact (sn (sn hs_4 c_1) c_5)) (fun q hq => hex_4 q (hq.trans he_8.symm)) _ _ hP hS ls (lv_sub hl [2, 3, 1, 0] rfl)
  refine hLp_4 ((fu 0 (S 9 9))) p0 0 0 (nl hs) (fun q_4 hq_4 H locs hP hS ls hl => ?_) _ _ hP hS ls (lv_sub hl [2, 3, 1, 0] rfl)
  refine lv_iload_n hx hb dX4_personsIn_46 rfl (lv_at hl 0 rfl) ?_
  exact xret_iR hC hP hS hb hr ((by have hq_4 := hq_4.symm; subst hq_4; exact rfl)) dX4_personsIn_47 hlocks
theorem hd_X4_reaches : yX4_reaches.cls = RX4 ∧ yX4_reaches.cls ≠ "java/lang/invoke/MethodHandle" ∧ yX4_reaches.cls ≠ "java/lang/invoke/VarHandle" ∧ (parseMethodDescriptor yX4_reaches.desc).map (fun d => d.parameters.length) = some 2 := by decide +kernel
set_option maxHeartbeats 4000000 in
set_option maxRecDepth 100000 in
theorem k_X4_reaches (l : Launch) (X : xX) (S : xS) (p0 : Int32) (p1 : Int32) : Met l yX4_reaches wsX4_reaches ({ frames := 1, cells := 0, slots := 0, locals := 21 } : Room) (va_Pc [.ref (X.2.1 15), .int p0, .int p1] (xI X S)) (va_Qi (fun (r : Int32) (u : xS) => (r = (f_X4_reaches S p0 p1) ∧ (r = 0 ∨ r = 1)) ∧ u = S) (xI X) (xA X)) 0 0 (xA X) := by
  refine Met.ofW (cc := cX4_reaches) (maxL := 3) (ret := (some .boolean)) (by decide +kernel) rfl ?_
  intro p e s m args below meth c s₁ B hml hv
  obtain ⟨rfl, hP, hK, hN, hJ⟩ := hv
  have hx := B.exec
  have hb := B.bytes
  have hr := B.returns
  have hts := atoms_spec (ws := wsX4_reaches) B.pre
  have hown : s.vm.findClass RX4 = some m.cls := findClass_of_methodNamed B.named
  have hlocks := B.notSynchronized
  have hC : xC X p m c cX4_reaches 3 s _ wsX4_reaches RX4 := ⟨⟨hx, hb, hml, hown, hts⟩, hK, hN, hJ⟩
  have hS : va_S (xA X) s.heap s.heap [] := va_S.rf
  have hin_X2 : ∀ w ∈ u_ws RX2 TX2 10, w ∈ wsX4_reaches := by decide +kernel
  have hin_X4 : ∀ w ∈ u_ws RX4 TX4 2, w ∈ wsX4_reaches := by decide +kernel
  have hl := lv_entry ([.ref (X.2.1 15), .int p0, .int p1]) (n := 3) (Nat.le_of_ble_eq_true rfl)
  rw [lg_entry_eq]
  generalize (lg_sl ([.ref (X.2.1 15), .int p0, .int p1]) ++ List.replicate (3 - (lg_sl ([.ref (X.2.1 15), .int p0, .int p1])).length) Slot.unset).toArray = ls at hl ⊢
  have hl : lv_has ls 3 [(0, .ref (X.2.1 15)), (1, .int p0), (2, .int p1)] := hl
  refine lv_iload_n hx hb dX4_reaches_0 rfl (lv_at hl 1 rfl) ?_
  refine lv_iload_n hx hb dX4_reaches_1 rfl (lv_at hl 2 rfl) ?_
  refine lv_icmp_eq (tgt := 23) hx hb dX4_reaches_2 (by decide) (fun c_1 => ?_) (fun c_1 => ?_)
  · refine lv_iconst (v := 1) hx hb dX4_reaches_23 (by decide) ?_
    refine lv_goto (tgt := 28) hx hb dX4_reaches_24 (by decide) ?_
    exact xret_zR hC hP hS hb hr (.inr rfl) (((ip c_1 rfl))) dX4_reaches_28 hlocks
  · refine lv_aload_n hx hb dX4_reaches_5 rfl (lv_at hl 0 rfl) ?_
    refine xget (ref := "AbsentPraise$Life") (T := TX4) (v := .ref (X.2.1 9)) hC hP hin_X4 xo_X4 rfl 0 (by decide) (List.mem_of_getElem? (i := 1) rfl) rfl rfl dX4_reaches_6 ?_
    refine xget (ref := "AbsentPraise$Hill") (T := TX2) (v := .ref (X.2.1 10)) hC hP hin_X2 (xo_H (by decide)) rfl 0 (by decide) (List.mem_of_getElem? (i := 2) rfl) rfl rfl dX4_reaches_9 ?_
    refine lv_iload_n hx hb dX4_reaches_12 rfl (lv_at hl 1 rfl) ?_
    refine xcSN_iR (As := [.ref (X.2.1 10), .int p0]) (rest := []) hC hP hS (k_X10_at l X S 10 p0 rfl) (va_cnB (host := "AbsentPraise") 2 hts gX4_reaches_X10_at_n31 rfl rfl rfl (xn_10 hN) (hts (.initialized RX10) (List.mem_of_getElem? (i := 4) rfl)) hs_X10_at ⟨Nat.le_of_ble_eq_true rfl, Nat.le_of_ble_eq_true rfl⟩) (hts (.static yX10_at) (List.mem_of_getElem? (i := 3) rfl)) rfl rfl hl.1 (Nat.le_of_ble_eq_true rfl) dX4_reaches_13 (fun r_2 hr_2 H locs hP hS => ?_)
    refine lv_iload_n hx hb dX4_reaches_16 rfl (lv_at hl 2 rfl) ?_
    refine xcSN_iR (As := [.int r_2, .int p1]) (rest := []) hC hP hS (k_X10_has l X S r_2 p1) (va_cnB (host := "AbsentPraise") 2 hts gX4_reaches_X10_has_n35 rfl rfl rfl (xn_11 hN) (hts (.initialized RX10) (List.mem_of_getElem? (i := 4) rfl)) hs_X10_has ⟨Nat.le_of_ble_eq_true rfl, Nat.le_of_ble_eq_true rfl⟩) (hts (.static yX10_has) (List.mem_of_getElem? (i := 6) rfl)) rfl rfl hl.1 (Nat.le_of_ble_eq_true rfl) dX4_reaches_17 (fun r_3 hp_r_3 H locs hP hS => ?_)
    obtain ⟨hr_3, hzr_3⟩ := hp_r_3
    refine lv_if_eq (tgt := 27) hx hb dX4_reaches_20 (by decide) (fun c_4 => ?_) (fun c_4 => ?_)
    · refine lv_iconst (v := 0) hx hb dX4_reaches_27 (by decide) ?_
      exact xret_zR hC hP hS hb hr (.inl rfl) ((by have hr_2 := hr_2.symm; have hr_3 := hr_3.symm; subst hr_2 hr_3; exact (iN c_1 (ip c_4 rfl)))) dX4_reaches_28 hlocks
    · refine lv_iconst (v := 1) hx hb dX4_reaches_23 (by decide) ?_
      refine lv_goto (tgt := 28) hx hb dX4_reaches_24 (by decide) ?_
      exact xret_zR hC hP hS hb hr (.inr rfl) ((by have hr_2 := hr_2.symm; have hr_3 := hr_3.symm; subst hr_2 hr_3; exact (iN c_1 (iN c_4 rfl)))) dX4_reaches_28 hlocks
theorem hs_X10_words : yX10_words.cls ≠ "java/lang/invoke/MethodHandle" ∧ yX10_words.cls ≠ "java/lang/invoke/VarHandle" ∧ (parseMethodDescriptor yX10_words.desc).map (fun d => d.parameters.length) = some 3 := by decide +kernel
set_option maxHeartbeats 4000000 in
set_option maxRecDepth 100000 in
theorem k_X10_words (l : Launch) (X : xX) (S : xS) (p0 : Int32) (p1 : Int32) (p2 : Int32) : Met l yX10_words wsX10_words ({ frames := 0, cells := 0, slots := 0, locals := 0 } : Room) (va_Pc [.int p0, .int p1, .int p2] (xI X S)) (va_Qi (fun (r : Int32) (u : xS) => r = (f_X10_words S p0 p1 p2) ∧ u = S) (xI X) (xA X)) 0 0 (xA X) := by
  refine Met.ofW (cc := cX10_words) (maxL := 4) (ret := (some .int)) (by decide +kernel) rfl ?_
  intro p e s m args below meth c s₁ B hml hv
  obtain ⟨rfl, hP, hK, hN, hJ⟩ := hv
  have hx := B.exec
  have hb := B.bytes
  have hr := B.returns
  have hts := atoms_spec (ws := wsX10_words) B.pre
  have hown : s.vm.findClass RX10 = some m.cls := findClass_of_methodNamed B.named
  have hlocks := B.notSynchronized
  have hC : xC X p m c cX10_words 4 s _ wsX10_words RX10 := ⟨⟨hx, hb, hml, hown, hts⟩, hK, hN, hJ⟩
  have hS : va_S (xA X) s.heap s.heap [] := va_S.rf
  have hl := lv_entry ([.int p0, .int p1, .int p2]) (n := 4) (Nat.le_of_ble_eq_true rfl)
  rw [lg_entry_eq]
  generalize (lg_sl ([.int p0, .int p1, .int p2]) ++ List.replicate (4 - (lg_sl ([.int p0, .int p1, .int p2])).length) Slot.unset).toArray = ls at hl ⊢
  have hl : lv_has ls 4 [(0, .int p0), (1, .int p1), (2, .int p2)] := hl
  refine lv_iload_n hx hb dX10_words_0 rfl (lv_at hl 2 rfl) ?_
  refine lv_if_eq (tgt := 11) hx hb dX10_words_1 (by decide) (fun c_1 => ?_) (fun c_1 => ?_)
  · refine lv_iload_n hx hb dX10_words_11 rfl (lv_at hl 1 rfl) ?_
    refine lv_iconst (v := 5) hx hb dX10_words_12 (by decide) ?_
    refine lv_icmp_lt (tgt := 20) hx hb dX10_words_13 (by decide) (fun c_2 => ?_) (fun c_2 => ?_)
    · refine lv_iconst (v := 0) hx hb dX10_words_20 (by decide) ?_
      refine lv_istore_n (lv' := [(3, .int 0), (0, .int p0), (1, .int p1), (2, .int p2)]) hx hb dX10_words_21 rfl hl (by decide) rfl (fun ls hl => ?_)
      refine lv_iload_n hx hb dX10_words_22 rfl (lv_at hl 1 rfl) ?_
      refine lv_iconst (v := 1) hx hb dX10_words_23 (by decide) ?_
      refine lv_icmp_ne (tgt := 33) hx hb dX10_words_24 (by decide) (fun c_3 => ?_) (fun c_3 => ?_)
      · refine lv_iload_n hx hb dX10_words_33 rfl (lv_at hl 1 rfl) ?_
        refine lv_iconst (v := 2) hx hb dX10_words_34 (by decide) ?_
        refine lv_icmp_ne (tgt := 48) hx hb dX10_words_35 (by decide) (fun c_4 => ?_) (fun c_4 => ?_)
        · refine lv_iload_n hx hb dX10_words_48 rfl (lv_at hl 0 rfl) ?_
          exact xret_iR hC hP hS hb hr (((ip c_1 (ip c_2 (iN c_3 (iN c_4 rfl)))))) dX10_words_49 hlocks
        · refine lv_iload_n hx hb dX10_words_38 rfl (lv_at hl 0 rfl) ?_
          refine lv_if_le (tgt := 48) hx hb dX10_words_39 (by decide) (fun _ => ?_) (fun c => absurd c (by decide))
          refine lv_iload_n hx hb dX10_words_48 rfl (lv_at hl 0 rfl) ?_
          exact xret_iR hC hP hS hb hr (((ip c_1 (ip c_2 (iN c_3 (ip c_4 rfl)))))) dX10_words_49 hlocks
      · refine lv_iload_n hx hb dX10_words_27 rfl (lv_at hl 0 rfl) ?_
        refine lv_if_ge (tgt := 33) hx hb dX10_words_28 (by decide) (fun _ => ?_) (fun c => absurd c (by decide))
        refine lv_iload_n hx hb dX10_words_33 rfl (lv_at hl 1 rfl) ?_
        refine lv_iconst (v := 2) hx hb dX10_words_34 (by decide) ?_
        refine lv_icmp_ne (tgt := 48) hx hb dX10_words_35 (by decide) (fun c_5 => ?_) (fun c_5 => ?_)
        · refine lv_iload_n hx hb dX10_words_48 rfl (lv_at hl 0 rfl) ?_
          exact xret_iR hC hP hS hb hr (((ip c_1 (ip c_2 (ip c_3 (iN c_5 rfl)))))) dX10_words_49 hlocks
        · refine lv_iload_n hx hb dX10_words_38 rfl (lv_at hl 0 rfl) ?_
          refine lv_if_le (tgt := 48) hx hb dX10_words_39 (by decide) (fun _ => ?_) (fun c => absurd c (by decide))
          refine lv_iload_n hx hb dX10_words_48 rfl (lv_at hl 0 rfl) ?_
          exact xret_iR hC hP hS hb hr (((ip c_1 (ip c_2 (ip c_3 (ip c_5 rfl)))))) dX10_words_49 hlocks
    · refine lv_iload_n hx hb dX10_words_16 rfl (lv_at hl 1 rfl) ?_
      refine lv_goto (tgt := 21) hx hb dX10_words_17 (by decide) ?_
      refine lv_istore_n (lv' := [(3, .int p1), (0, .int p0), (1, .int p1), (2, .int p2)]) hx hb dX10_words_21 rfl hl (by decide) rfl (fun ls hl => ?_)
      refine lv_iload_n hx hb dX10_words_22 rfl (lv_at hl 1 rfl) ?_
      refine lv_iconst (v := 1) hx hb dX10_words_23 (by decide) ?_
      refine lv_icmp_ne (tgt := 33) hx hb dX10_words_24 (by decide) (fun c_6 => ?_) (fun c_6 => ?_)
      · refine lv_iload_n hx hb dX10_words_33 rfl (lv_at hl 1 rfl) ?_
        refine lv_iconst (v := 2) hx hb dX10_words_34 (by decide) ?_
        refine lv_icmp_ne (tgt := 48) hx hb dX10_words_35 (by decide) (fun c_7 => ?_) (fun c_7 => ?_)
        · refine lv_iload_n hx hb dX10_words_48 rfl (lv_at hl 0 rfl) ?_
          exact xret_iR hC hP hS hb hr (((ip c_1 (iN c_2 (iN c_6 (iN c_7 rfl)))))) dX10_words_49 hlocks
        · refine lv_iload_n hx hb dX10_words_38 rfl (lv_at hl 0 rfl) ?_
          refine lv_if_le (tgt := 48) hx hb dX10_words_39 (by decide) (fun c_8 => ?_) (fun c_8 => ?_)
          · refine lv_iload_n hx hb dX10_words_48 rfl (lv_at hl 0 rfl) ?_
            exact xret_iR hC hP hS hb hr (((ip c_1 (iN c_2 (iN c_6 (ip c_7 (ip c_8 rfl))))))) dX10_words_49 hlocks
          · refine lv_iload_n hx hb dX10_words_42 rfl (lv_at hl 0 rfl) ?_
            refine lv_iconst (v := 2) hx hb dX10_words_43 (by decide) ?_
            refine lv_idiv hx hb dX10_words_44 (by decide) ?_
            refine lv_goto (tgt := 49) hx hb dX10_words_45 (by decide) ?_
            exact xret_iR hC hP hS hb hr (((ip c_1 (iN c_2 (iN c_6 (ip c_7 (iN c_8 rfl))))))) dX10_words_49 hlocks
      · refine lv_iload_n hx hb dX10_words_27 rfl (lv_at hl 0 rfl) ?_
        refine lv_if_ge (tgt := 33) hx hb dX10_words_28 (by decide) (fun c_9 => ?_) (fun c_9 => ?_)
        · refine lv_iload_n hx hb dX10_words_33 rfl (lv_at hl 1 rfl) ?_
          refine lv_iconst (v := 2) hx hb dX10_words_34 (by decide) ?_
          refine lv_icmp_ne (tgt := 48) hx hb dX10_words_35 (by decide) (fun c_10 => ?_) (fun c_10 => ?_)
          · refine lv_iload_n hx hb dX10_words_48 rfl (lv_at hl 0 rfl) ?_
            exact xret_iR hC hP hS hb hr (((ip c_1 (iN c_2 (ip c_6 (ip c_9 (iN c_10 rfl))))))) dX10_words_49 hlocks
          · refine lv_iload_n hx hb dX10_words_38 rfl (lv_at hl 0 rfl) ?_
            refine lv_if_le (tgt := 48) hx hb dX10_words_39 (by decide) (fun c_11 => ?_) (fun c_11 => ?_)
            · refine lv_iload_n hx hb dX10_words_48 rfl (lv_at hl 0 rfl) ?_
              exact xret_iR hC hP hS hb hr (((ip c_1 (iN c_2 (ip c_6 (ip c_9 (ip c_10 (ip c_11 rfl)))))))) dX10_words_49 hlocks
            · refine lv_iload_n hx hb dX10_words_42 rfl (lv_at hl 0 rfl) ?_
              refine lv_iconst (v := 2) hx hb dX10_words_43 (by decide) ?_
              refine lv_idiv hx hb dX10_words_44 (by decide) ?_
              refine lv_goto (tgt := 49) hx hb dX10_words_45 (by decide) ?_
              exact xret_iR hC hP hS hb hr (((ip c_1 (iN c_2 (ip c_6 (ip c_9 (ip c_10 (iN c_11 rfl)))))))) dX10_words_49 hlocks
        · refine lv_iconst (v := 0) hx hb dX10_words_31 (by decide) ?_
          exact xret_iR hC hP hS hb hr (((ip c_1 (iN c_2 (ip c_6 (iN c_9 rfl)))))) dX10_words_32 hlocks
  · refine lv_iload_n hx hb dX10_words_4 rfl (lv_at hl 1 rfl) ?_
    refine lv_bipush (v := 9) hx hb dX10_words_5 (by decide) ?_
    refine lv_isub hx hb dX10_words_7 ?_
    refine lv_goto (tgt := 21) hx hb dX10_words_8 (by decide) ?_
    refine lv_istore_n (lv' := [(3, .int (p1 - 9)), (0, .int p0), (1, .int p1), (2, .int p2)]) hx hb dX10_words_21 rfl hl (by decide) rfl (fun ls hl => ?_)
    refine lv_iload_n hx hb dX10_words_22 rfl (lv_at hl 1 rfl) ?_
    refine lv_iconst (v := 1) hx hb dX10_words_23 (by decide) ?_
    refine lv_icmp_ne (tgt := 33) hx hb dX10_words_24 (by decide) (fun c_12 => ?_) (fun c_12 => ?_)
    · refine lv_iload_n hx hb dX10_words_33 rfl (lv_at hl 1 rfl) ?_
      refine lv_iconst (v := 2) hx hb dX10_words_34 (by decide) ?_
      refine lv_icmp_ne (tgt := 48) hx hb dX10_words_35 (by decide) (fun c_13 => ?_) (fun c_13 => ?_)
      · refine lv_iload_n hx hb dX10_words_48 rfl (lv_at hl 0 rfl) ?_
        exact xret_iR hC hP hS hb hr (((iN c_1 (iN c_12 (iN c_13 rfl))))) dX10_words_49 hlocks
      · refine lv_iload_n hx hb dX10_words_38 rfl (lv_at hl 0 rfl) ?_
        refine lv_if_le (tgt := 48) hx hb dX10_words_39 (by decide) (fun c_14 => ?_) (fun c_14 => ?_)
        · refine lv_iload_n hx hb dX10_words_48 rfl (lv_at hl 0 rfl) ?_
          exact xret_iR hC hP hS hb hr (((iN c_1 (iN c_12 (ip c_13 (ip c_14 rfl)))))) dX10_words_49 hlocks
        · refine lv_iload_n hx hb dX10_words_42 rfl (lv_at hl 0 rfl) ?_
          refine lv_iconst (v := 2) hx hb dX10_words_43 (by decide) ?_
          refine lv_idiv hx hb dX10_words_44 (by decide) ?_
          refine lv_goto (tgt := 49) hx hb dX10_words_45 (by decide) ?_
          exact xret_iR hC hP hS hb hr (((iN c_1 (iN c_12 (ip c_13 (iN c_14 rfl)))))) dX10_words_49 hlocks
    · refine lv_iload_n hx hb dX10_words_27 rfl (lv_at hl 0 rfl) ?_
      refine lv_if_ge (tgt := 33) hx hb dX10_words_28 (by decide) (fun c_15 => ?_) (fun c_15 => ?_)
      · refine lv_iload_n hx hb dX10_words_33 rfl (lv_at hl 1 rfl) ?_
        refine lv_iconst (v := 2) hx hb dX10_words_34 (by decide) ?_
        refine lv_icmp_ne (tgt := 48) hx hb dX10_words_35 (by decide) (fun c_16 => ?_) (fun c_16 => ?_)
        · refine lv_iload_n hx hb dX10_words_48 rfl (lv_at hl 0 rfl) ?_
          exact xret_iR hC hP hS hb hr (((iN c_1 (ip c_12 (ip c_15 (iN c_16 rfl)))))) dX10_words_49 hlocks
        · refine lv_iload_n hx hb dX10_words_38 rfl (lv_at hl 0 rfl) ?_
          refine lv_if_le (tgt := 48) hx hb dX10_words_39 (by decide) (fun c_17 => ?_) (fun c_17 => ?_)
          · refine lv_iload_n hx hb dX10_words_48 rfl (lv_at hl 0 rfl) ?_
            exact xret_iR hC hP hS hb hr (((iN c_1 (ip c_12 (ip c_15 (ip c_16 (ip c_17 rfl))))))) dX10_words_49 hlocks
          · refine lv_iload_n hx hb dX10_words_42 rfl (lv_at hl 0 rfl) ?_
            refine lv_iconst (v := 2) hx hb dX10_words_43 (by decide) ?_
            refine lv_idiv hx hb dX10_words_44 (by decide) ?_
            refine lv_goto (tgt := 49) hx hb dX10_words_45 (by decide) ?_
            exact xret_iR hC hP hS hb hr (((iN c_1 (ip c_12 (ip c_15 (ip c_16 (iN c_17 rfl))))))) dX10_words_49 hlocks
      · refine lv_iconst (v := 0) hx hb dX10_words_31 (by decide) ?_
        exact xret_iR hC hP hS hb hr (((iN c_1 (ip c_12 (iN c_15 rfl))))) dX10_words_32 hlocks
theorem hd_X4_says : yX4_says.cls = RX4 ∧ yX4_says.cls ≠ "java/lang/invoke/MethodHandle" ∧ yX4_says.cls ≠ "java/lang/invoke/VarHandle" ∧ (parseMethodDescriptor yX4_says.desc).map (fun d => d.parameters.length) = some 5 := by decide +kernel
set_option maxHeartbeats 4000000 in
set_option maxRecDepth 100000 in
theorem k_X4_says (l : Launch) (X : xX) (S : xS) (p0 : Int32) (p1 : Int32) (p2 : Int32) (p3 : Int32) (p4 : Int32) : Met l yX4_says wsX4_says ({ frames := 2, cells := 0, slots := 0, locals := 43 } : Room) (va_Pc [.ref (X.2.1 15), .int p0, .int p1, .int p2, .int p3, .int p4] (xI X S)) (va_Qi (fun (r : Int32) (u : xS) => r = (f_X4_says S p0 p1 p2 p3 p4) ∧ u = S) (xI X) (xA X)) 0 0 (xA X) := by
  refine Met.ofW (cc := cX4_says) (maxL := 8) (ret := (some .int)) (by decide +kernel) rfl ?_
  intro p e s m args below meth c s₁ B hml hv
  obtain ⟨rfl, hP, hK, hN, hJ⟩ := hv
  have hx := B.exec
  have hb := B.bytes
  have hr := B.returns
  have hts := atoms_spec (ws := wsX4_says) B.pre
  have hown : s.vm.findClass RX4 = some m.cls := findClass_of_methodNamed B.named
  have hlocks := B.notSynchronized
  have hC : xC X p m c cX4_says 8 s _ wsX4_says RX4 := ⟨⟨hx, hb, hml, hown, hts⟩, hK, hN, hJ⟩
  have hS : va_S (xA X) s.heap s.heap [] := va_S.rf
  have hin_X2 : ∀ w ∈ u_ws RX2 TX2 10, w ∈ wsX4_says := by decide +kernel
  have hin_X4 : ∀ w ∈ u_ws RX4 TX4 2, w ∈ wsX4_says := by decide +kernel
  have hin_X7 : ∀ w ∈ u_ws RX7 TX7 6, w ∈ wsX4_says := by decide +kernel
  have hl := lv_entry ([.ref (X.2.1 15), .int p0, .int p1, .int p2, .int p3, .int p4]) (n := 8) (Nat.le_of_ble_eq_true rfl)
  rw [lg_entry_eq]
  generalize (lg_sl ([.ref (X.2.1 15), .int p0, .int p1, .int p2, .int p3, .int p4]) ++ List.replicate (8 - (lg_sl ([.ref (X.2.1 15), .int p0, .int p1, .int p2, .int p3, .int p4])).length) Slot.unset).toArray = ls at hl ⊢
  have hl : lv_has ls 8 [(0, .ref (X.2.1 15)), (1, .int p0), (2, .int p1), (3, .int p2), (4, .int p3), (5, .int p4)] := hl
  refine lv_aload_n hx hb dX4_says_0 rfl (lv_at hl 0 rfl) ?_
  refine xget (ref := "AbsentPraise$Life") (T := TX4) (v := .ref (X.2.1 9)) hC hP hin_X4 xo_X4 rfl 0 (by decide) (List.mem_of_getElem? (i := 1) rfl) rfl rfl dX4_says_1 ?_
  refine xget (ref := "AbsentPraise$Hill") (T := TX2) (v := .ref (X.2.1 12)) hC hP hin_X2 (xo_H (by decide)) rfl 2 (by decide) (List.mem_of_getElem? (i := 2) rfl) rfl rfl dX4_says_4 ?_
  refine lv_iload_n hx hb dX4_says_7 rfl (lv_at hl 1 rfl) ?_
  refine xcSN_iR (As := [.ref (X.2.1 12), .int p0]) (rest := []) hC hP hS (k_X10_at l X S 12 p0 rfl) (va_cnB (host := "AbsentPraise") 2 hts gX4_says_X10_at_n31 rfl rfl rfl (xn_10 hN) (hts (.initialized RX10) (List.mem_of_getElem? (i := 6) rfl)) hs_X10_at ⟨Nat.le_of_ble_eq_true rfl, Nat.le_of_ble_eq_true rfl⟩) (hts (.static yX10_at) (List.mem_of_getElem? (i := 5) rfl)) rfl rfl hl.1 (Nat.le_of_ble_eq_true rfl) dX4_says_8 (fun r_1 hr_1 H locs hP hS => ?_)
  refine lv_istore (lv' := [(6, .int r_1), (0, .ref (X.2.1 15)), (1, .int p0), (2, .int p1), (3, .int p2), (4, .int p3), (5, .int p4)]) hx hb dX4_says_11 hl (by decide) rfl (fun ls hl => ?_)
  refine lv_iload_n hx hb dX4_says_13 rfl (lv_at hl 3 rfl) ?_
  refine lv_iload hx hb dX4_says_14 (lv_at hl 5 rfl) ?_
  refine lv_icmp_eq (tgt := 40) hx hb dX4_says_16 (by decide) (fun c_2 => ?_) (fun c_2 => ?_)
  · refine lv_iconst (v := 1) hx hb dX4_says_40 (by decide) ?_
    refine lv_goto (tgt := 45) hx hb dX4_says_41 (by decide) ?_
    refine lv_istore (lv' := [(7, .int 1), (6, .int r_1), (0, .ref (X.2.1 15)), (1, .int p0), (2, .int p1), (3, .int p2), (4, .int p3), (5, .int p4)]) hx hb dX4_says_45 hl (by decide) rfl (fun ls hl => ?_)
    refine lv_iload hx hb dX4_says_47 (lv_at hl 1 rfl) ?_
    refine lv_aload_n hx hb dX4_says_49 rfl (lv_at hl 2 rfl) ?_
    refine xget (ref := "AbsentPraise$Life") (T := TX4) (v := .ref (X.2.1 32)) hC hP hin_X4 xo_X4 rfl 1 (by decide) (List.mem_of_getElem? (i := 3) rfl) rfl rfl dX4_says_50 ?_
    refine xget (ref := "AbsentPraise$Talk") (T := TX7) (v := .ref (X.2.1 36)) hC hP hin_X7 (xo_T (by decide)) rfl 3 (by decide) (List.mem_of_getElem? (i := 4) rfl) rfl rfl dX4_says_53 ?_
    refine lv_iload_n hx hb dX4_says_56 rfl (lv_at hl 3 rfl) ?_
    refine lv_iload_n hx hb dX4_says_57 rfl (lv_at hl 5 rfl) ?_
    refine xcSN_iR (As := [.int p0, .int p2]) (rest := [.ref (X.2.1 36), .int r_1]) hC hP hS (k_X10_pairIndex l X S p0 p2) (va_cnB (host := "AbsentPraise") 2 hts gX4_says_X10_pairIndex_n55 rfl rfl rfl (xn_12 hN) (hts (.initialized RX10) (List.mem_of_getElem? (i := 6) rfl)) hs_X10_pairIndex ⟨Nat.le_of_ble_eq_true rfl, Nat.le_of_ble_eq_true rfl⟩) (hts (.static yX10_pairIndex) (List.mem_of_getElem? (i := 16) rfl)) rfl rfl hl.1 (Nat.le_of_ble_eq_true rfl) dX4_says_58 (fun r_3 hr_3 H locs hP hS => ?_)
    refine xcSN_iR (As := [.ref (X.2.1 36), .int r_3]) (rest := [.int r_1]) hC hP hS (k_X10_at l X S 36 r_3 rfl) (va_cnB (host := "AbsentPraise") 2 hts gX4_says_X10_at_n31 rfl rfl rfl (xn_10 hN) (hts (.initialized RX10) (List.mem_of_getElem? (i := 6) rfl)) hs_X10_at ⟨Nat.le_of_ble_eq_true rfl, Nat.le_of_ble_eq_true rfl⟩) (hts (.static yX10_at) (List.mem_of_getElem? (i := 5) rfl)) rfl rfl hl.1 (Nat.le_of_ble_eq_true rfl) dX4_says_61 (fun r_4 hr_4 H locs hP hS => ?_)
    refine lv_iload hx hb dX4_says_64 (lv_at hl 0 rfl) ?_
    refine xcSN_iR (As := [.int r_1, .int r_4, .int 1]) (rest := []) hC hP hS (k_X10_words l X S r_1 r_4 1) (va_cnB (host := "AbsentPraise") 3 hts gX4_says_X10_words_n59 rfl rfl rfl (xn_13 hN) (hts (.initialized RX10) (List.mem_of_getElem? (i := 6) rfl)) hs_X10_words ⟨Nat.le_of_ble_eq_true rfl, Nat.le_of_ble_eq_true rfl⟩) (hts (.static yX10_words) (List.mem_of_getElem? (i := 18) rfl)) rfl rfl hl.1 (Nat.le_of_ble_eq_true rfl) dX4_says_66 (fun r_5 hr_5 H locs hP hS => ?_)
    exact xret_iR hC hP hS hb hr ((by have hr_1 := hr_1.symm; have hr_3 := hr_3.symm; have hr_4 := hr_4.symm; have hr_5 := hr_5.symm; subst hr_1 hr_3 hr_4 hr_5; exact (ip c_2 rfl))) dX4_says_69 hlocks
  · refine lv_iload hx hb dX4_says_19 (lv_at hl 6 rfl) ?_
    refine lv_if_eq (tgt := 44) hx hb dX4_says_21 (by decide) (fun c_6 => ?_) (fun c_6 => ?_)
    · refine lv_iconst (v := 0) hx hb dX4_says_44 (by decide) ?_
      refine lv_istore (lv' := [(7, .int 0), (6, .int r_1), (0, .ref (X.2.1 15)), (1, .int p0), (2, .int p1), (3, .int p2), (4, .int p3), (5, .int p4)]) hx hb dX4_says_45 hl (by decide) rfl (fun ls hl => ?_)
      refine lv_iload hx hb dX4_says_47 (lv_at hl 1 rfl) ?_
      refine lv_aload_n hx hb dX4_says_49 rfl (lv_at hl 2 rfl) ?_
      refine xget (ref := "AbsentPraise$Life") (T := TX4) (v := .ref (X.2.1 32)) hC hP hin_X4 xo_X4 rfl 1 (by decide) (List.mem_of_getElem? (i := 3) rfl) rfl rfl dX4_says_50 ?_
      refine xget (ref := "AbsentPraise$Talk") (T := TX7) (v := .ref (X.2.1 36)) hC hP hin_X7 (xo_T (by decide)) rfl 3 (by decide) (List.mem_of_getElem? (i := 4) rfl) rfl rfl dX4_says_53 ?_
      refine lv_iload_n hx hb dX4_says_56 rfl (lv_at hl 3 rfl) ?_
      refine lv_iload_n hx hb dX4_says_57 rfl (lv_at hl 5 rfl) ?_
      refine xcSN_iR (As := [.int p0, .int p2]) (rest := [.ref (X.2.1 36), .int r_1]) hC hP hS (k_X10_pairIndex l X S p0 p2) (va_cnB (host := "AbsentPraise") 2 hts gX4_says_X10_pairIndex_n55 rfl rfl rfl (xn_12 hN) (hts (.initialized RX10) (List.mem_of_getElem? (i := 6) rfl)) hs_X10_pairIndex ⟨Nat.le_of_ble_eq_true rfl, Nat.le_of_ble_eq_true rfl⟩) (hts (.static yX10_pairIndex) (List.mem_of_getElem? (i := 16) rfl)) rfl rfl hl.1 (Nat.le_of_ble_eq_true rfl) dX4_says_58 (fun r_7 hr_7 H locs hP hS => ?_)
      refine xcSN_iR (As := [.ref (X.2.1 36), .int r_7]) (rest := [.int r_1]) hC hP hS (k_X10_at l X S 36 r_7 rfl) (va_cnB (host := "AbsentPraise") 2 hts gX4_says_X10_at_n31 rfl rfl rfl (xn_10 hN) (hts (.initialized RX10) (List.mem_of_getElem? (i := 6) rfl)) hs_X10_at ⟨Nat.le_of_ble_eq_true rfl, Nat.le_of_ble_eq_true rfl⟩) (hts (.static yX10_at) (List.mem_of_getElem? (i := 5) rfl)) rfl rfl hl.1 (Nat.le_of_ble_eq_true rfl) dX4_says_61 (fun r_8 hr_8 H locs hP hS => ?_)
      refine lv_iload hx hb dX4_says_64 (lv_at hl 0 rfl) ?_
      refine xcSN_iR (As := [.int r_1, .int r_8, .int 0]) (rest := []) hC hP hS (k_X10_words l X S r_1 r_8 0) (va_cnB (host := "AbsentPraise") 3 hts gX4_says_X10_words_n59 rfl rfl rfl (xn_13 hN) (hts (.initialized RX10) (List.mem_of_getElem? (i := 6) rfl)) hs_X10_words ⟨Nat.le_of_ble_eq_true rfl, Nat.le_of_ble_eq_true rfl⟩) (hts (.static yX10_words) (List.mem_of_getElem? (i := 18) rfl)) rfl rfl hl.1 (Nat.le_of_ble_eq_true rfl) dX4_says_66 (fun r_9 hr_9 H locs hP hS => ?_)
      exact xret_iR hC hP hS hb hr ((by have hr_1 := hr_1.symm; have hr_7 := hr_7.symm; have hr_8 := hr_8.symm; have hr_9 := hr_9.symm; subst hr_1 hr_7 hr_8 hr_9; exact (iN c_2 (ip c_6 rfl)))) dX4_says_69 hlocks
    · refine lv_iload hx hb dX4_says_24 (lv_at hl 0 rfl) ?_
      refine lv_iconst (v := 3) hx hb dX4_says_26 (by decide) ?_
      refine lv_icmp_eq (tgt := 44) hx hb dX4_says_27 (by decide) (fun c_10 => ?_) (fun c_10 => ?_)
      · refine lv_iconst (v := 0) hx hb dX4_says_44 (by decide) ?_
        refine lv_istore (lv' := [(7, .int 0), (6, .int r_1), (0, .ref (X.2.1 15)), (1, .int p0), (2, .int p1), (3, .int p2), (4, .int p3), (5, .int p4)]) hx hb dX4_says_45 hl (by decide) rfl (fun ls hl => ?_)
        refine lv_iload hx hb dX4_says_47 (lv_at hl 1 rfl) ?_
        refine lv_aload_n hx hb dX4_says_49 rfl (lv_at hl 2 rfl) ?_
        refine xget (ref := "AbsentPraise$Life") (T := TX4) (v := .ref (X.2.1 32)) hC hP hin_X4 xo_X4 rfl 1 (by decide) (List.mem_of_getElem? (i := 3) rfl) rfl rfl dX4_says_50 ?_
        refine xget (ref := "AbsentPraise$Talk") (T := TX7) (v := .ref (X.2.1 36)) hC hP hin_X7 (xo_T (by decide)) rfl 3 (by decide) (List.mem_of_getElem? (i := 4) rfl) rfl rfl dX4_says_53 ?_
        refine lv_iload_n hx hb dX4_says_56 rfl (lv_at hl 3 rfl) ?_
        refine lv_iload_n hx hb dX4_says_57 rfl (lv_at hl 5 rfl) ?_
        refine xcSN_iR (As := [.int p0, .int p2]) (rest := [.ref (X.2.1 36), .int r_1]) hC hP hS (k_X10_pairIndex l X S p0 p2) (va_cnB (host := "AbsentPraise") 2 hts gX4_says_X10_pairIndex_n55 rfl rfl rfl (xn_12 hN) (hts (.initialized RX10) (List.mem_of_getElem? (i := 6) rfl)) hs_X10_pairIndex ⟨Nat.le_of_ble_eq_true rfl, Nat.le_of_ble_eq_true rfl⟩) (hts (.static yX10_pairIndex) (List.mem_of_getElem? (i := 16) rfl)) rfl rfl hl.1 (Nat.le_of_ble_eq_true rfl) dX4_says_58 (fun r_11 hr_11 H locs hP hS => ?_)
        refine xcSN_iR (As := [.ref (X.2.1 36), .int r_11]) (rest := [.int r_1]) hC hP hS (k_X10_at l X S 36 r_11 rfl) (va_cnB (host := "AbsentPraise") 2 hts gX4_says_X10_at_n31 rfl rfl rfl (xn_10 hN) (hts (.initialized RX10) (List.mem_of_getElem? (i := 6) rfl)) hs_X10_at ⟨Nat.le_of_ble_eq_true rfl, Nat.le_of_ble_eq_true rfl⟩) (hts (.static yX10_at) (List.mem_of_getElem? (i := 5) rfl)) rfl rfl hl.1 (Nat.le_of_ble_eq_true rfl) dX4_says_61 (fun r_12 hr_12 H locs hP hS => ?_)
        refine lv_iload hx hb dX4_says_64 (lv_at hl 0 rfl) ?_
        refine xcSN_iR (As := [.int r_1, .int r_12, .int 0]) (rest := []) hC hP hS (k_X10_words l X S r_1 r_12 0) (va_cnB (host := "AbsentPraise") 3 hts gX4_says_X10_words_n59 rfl rfl rfl (xn_13 hN) (hts (.initialized RX10) (List.mem_of_getElem? (i := 6) rfl)) hs_X10_words ⟨Nat.le_of_ble_eq_true rfl, Nat.le_of_ble_eq_true rfl⟩) (hts (.static yX10_words) (List.mem_of_getElem? (i := 18) rfl)) rfl rfl hl.1 (Nat.le_of_ble_eq_true rfl) dX4_says_66 (fun r_13 hr_13 H locs hP hS => ?_)
        exact xret_iR hC hP hS hb hr ((by have hr_1 := hr_1.symm; have hr_11 := hr_11.symm; have hr_12 := hr_12.symm; have hr_13 := hr_13.symm; subst hr_1 hr_11 hr_12 hr_13; exact (iN c_2 (iN c_6 (ip c_10 rfl))))) dX4_says_69 hlocks
      · refine lv_aload_n hx hb dX4_says_30 rfl (lv_at hl 1 rfl) ?_
        refine lv_iload_n hx hb dX4_says_31 rfl (lv_at hl 3 rfl) ?_
        refine lv_iload hx hb dX4_says_32 (lv_at hl 5 rfl) ?_
        refine xcV_iR (b := 15) (As := [.int p1, .int p3]) (rest := []) hC hP hS (k_X4_reaches l X S p1 p3) (cwV 2 hts gX4_says_X4_reaches rfl rfl rfl hd_X4_reaches ⟨Nat.le_of_ble_eq_true rfl, Nat.le_of_ble_eq_true rfl⟩) xo_X4 rfl rfl rfl hl.1 (Nat.le_of_ble_eq_true rfl) dX4_says_34 (fun r_14 hp_r_14 H locs hP hS => ?_)
        obtain ⟨hr_14, hzr_14⟩ := hp_r_14
        refine lv_if_eq (tgt := 44) hx hb dX4_says_37 (by decide) (fun c_15 => ?_) (fun c_15 => ?_)
        · refine lv_iconst (v := 0) hx hb dX4_says_44 (by decide) ?_
          refine lv_istore (lv' := [(7, .int 0), (6, .int r_1), (0, .ref (X.2.1 15)), (1, .int p0), (2, .int p1), (3, .int p2), (4, .int p3), (5, .int p4)]) hx hb dX4_says_45 hl (by decide) rfl (fun ls hl => ?_)
          refine lv_iload hx hb dX4_says_47 (lv_at hl 1 rfl) ?_
          refine lv_aload_n hx hb dX4_says_49 rfl (lv_at hl 2 rfl) ?_
          refine xget (ref := "AbsentPraise$Life") (T := TX4) (v := .ref (X.2.1 32)) hC hP hin_X4 xo_X4 rfl 1 (by decide) (List.mem_of_getElem? (i := 3) rfl) rfl rfl dX4_says_50 ?_
          refine xget (ref := "AbsentPraise$Talk") (T := TX7) (v := .ref (X.2.1 36)) hC hP hin_X7 (xo_T (by decide)) rfl 3 (by decide) (List.mem_of_getElem? (i := 4) rfl) rfl rfl dX4_says_53 ?_
          refine lv_iload_n hx hb dX4_says_56 rfl (lv_at hl 3 rfl) ?_
          refine lv_iload_n hx hb dX4_says_57 rfl (lv_at hl 5 rfl) ?_
          refine xcSN_iR (As := [.int p0, .int p2]) (rest := [.ref (X.2.1 36), .int r_1]) hC hP hS (k_X10_pairIndex l X S p0 p2) (va_cnB (host := "AbsentPraise") 2 hts gX4_says_X10_pairIndex_n55 rfl rfl rfl (xn_12 hN) (hts (.initialized RX10) (List.mem_of_getElem? (i := 6) rfl)) hs_X10_pairIndex ⟨Nat.le_of_ble_eq_true rfl, Nat.le_of_ble_eq_true rfl⟩) (hts (.static yX10_pairIndex) (List.mem_of_getElem? (i := 16) rfl)) rfl rfl hl.1 (Nat.le_of_ble_eq_true rfl) dX4_says_58 (fun r_16 hr_16 H locs hP hS => ?_)
          refine xcSN_iR (As := [.ref (X.2.1 36), .int r_16]) (rest := [.int r_1]) hC hP hS (k_X10_at l X S 36 r_16 rfl) (va_cnB (host := "AbsentPraise") 2 hts gX4_says_X10_at_n31 rfl rfl rfl (xn_10 hN) (hts (.initialized RX10) (List.mem_of_getElem? (i := 6) rfl)) hs_X10_at ⟨Nat.le_of_ble_eq_true rfl, Nat.le_of_ble_eq_true rfl⟩) (hts (.static yX10_at) (List.mem_of_getElem? (i := 5) rfl)) rfl rfl hl.1 (Nat.le_of_ble_eq_true rfl) dX4_says_61 (fun r_17 hr_17 H locs hP hS => ?_)
          refine lv_iload hx hb dX4_says_64 (lv_at hl 0 rfl) ?_
          refine xcSN_iR (As := [.int r_1, .int r_17, .int 0]) (rest := []) hC hP hS (k_X10_words l X S r_1 r_17 0) (va_cnB (host := "AbsentPraise") 3 hts gX4_says_X10_words_n59 rfl rfl rfl (xn_13 hN) (hts (.initialized RX10) (List.mem_of_getElem? (i := 6) rfl)) hs_X10_words ⟨Nat.le_of_ble_eq_true rfl, Nat.le_of_ble_eq_true rfl⟩) (hts (.static yX10_words) (List.mem_of_getElem? (i := 18) rfl)) rfl rfl hl.1 (Nat.le_of_ble_eq_true rfl) dX4_says_66 (fun r_18 hr_18 H locs hP hS => ?_)
          exact xret_iR hC hP hS hb hr ((by have hr_1 := hr_1.symm; have hr_14 := hr_14.symm; have hr_16 := hr_16.symm; have hr_17 := hr_17.symm; have hr_18 := hr_18.symm; subst hr_1 hr_14 hr_16 hr_17 hr_18; exact (iN c_2 (iN c_6 (iN c_10 (ip c_15 rfl)))))) dX4_says_69 hlocks
        · refine lv_iconst (v := 1) hx hb dX4_says_40 (by decide) ?_
          refine lv_goto (tgt := 45) hx hb dX4_says_41 (by decide) ?_
          refine lv_istore (lv' := [(7, .int 1), (6, .int r_1), (0, .ref (X.2.1 15)), (1, .int p0), (2, .int p1), (3, .int p2), (4, .int p3), (5, .int p4)]) hx hb dX4_says_45 hl (by decide) rfl (fun ls hl => ?_)
          refine lv_iload hx hb dX4_says_47 (lv_at hl 1 rfl) ?_
          refine lv_aload_n hx hb dX4_says_49 rfl (lv_at hl 2 rfl) ?_
          refine xget (ref := "AbsentPraise$Life") (T := TX4) (v := .ref (X.2.1 32)) hC hP hin_X4 xo_X4 rfl 1 (by decide) (List.mem_of_getElem? (i := 3) rfl) rfl rfl dX4_says_50 ?_
          refine xget (ref := "AbsentPraise$Talk") (T := TX7) (v := .ref (X.2.1 36)) hC hP hin_X7 (xo_T (by decide)) rfl 3 (by decide) (List.mem_of_getElem? (i := 4) rfl) rfl rfl dX4_says_53 ?_
          refine lv_iload_n hx hb dX4_says_56 rfl (lv_at hl 3 rfl) ?_
          refine lv_iload_n hx hb dX4_says_57 rfl (lv_at hl 5 rfl) ?_
          refine xcSN_iR (As := [.int p0, .int p2]) (rest := [.ref (X.2.1 36), .int r_1]) hC hP hS (k_X10_pairIndex l X S p0 p2) (va_cnB (host := "AbsentPraise") 2 hts gX4_says_X10_pairIndex_n55 rfl rfl rfl (xn_12 hN) (hts (.initialized RX10) (List.mem_of_getElem? (i := 6) rfl)) hs_X10_pairIndex ⟨Nat.le_of_ble_eq_true rfl, Nat.le_of_ble_eq_true rfl⟩) (hts (.static yX10_pairIndex) (List.mem_of_getElem? (i := 16) rfl)) rfl rfl hl.1 (Nat.le_of_ble_eq_true rfl) dX4_says_58 (fun r_19 hr_19 H locs hP hS => ?_)
          refine xcSN_iR (As := [.ref (X.2.1 36), .int r_19]) (rest := [.int r_1]) hC hP hS (k_X10_at l X S 36 r_19 rfl) (va_cnB (host := "AbsentPraise") 2 hts gX4_says_X10_at_n31 rfl rfl rfl (xn_10 hN) (hts (.initialized RX10) (List.mem_of_getElem? (i := 6) rfl)) hs_X10_at ⟨Nat.le_of_ble_eq_true rfl, Nat.le_of_ble_eq_true rfl⟩) (hts (.static yX10_at) (List.mem_of_getElem? (i := 5) rfl)) rfl rfl hl.1 (Nat.le_of_ble_eq_true rfl) dX4_says_61 (fun r_20 hr_20 H locs hP hS => ?_)
          refine lv_iload hx hb dX4_says_64 (lv_at hl 0 rfl) ?_
          refine xcSN_iR (As := [.int r_1, .int r_20, .int 1]) (rest := []) hC hP hS (k_X10_words l X S r_1 r_20 1) (va_cnB (host := "AbsentPraise") 3 hts gX4_says_X10_words_n59 rfl rfl rfl (xn_13 hN) (hts (.initialized RX10) (List.mem_of_getElem? (i := 6) rfl)) hs_X10_words ⟨Nat.le_of_ble_eq_true rfl, Nat.le_of_ble_eq_true rfl⟩) (hts (.static yX10_words) (List.mem_of_getElem? (i := 18) rfl)) rfl rfl hl.1 (Nat.le_of_ble_eq_true rfl) dX4_says_66 (fun r_21 hr_21 H locs hP hS => ?_)
          exact xret_iR hC hP hS hb hr ((by have hr_1 := hr_1.symm; have hr_14 := hr_14.symm; have hr_19 := hr_19.symm; have hr_20 := hr_20.symm; have hr_21 := hr_21.symm; subst hr_1 hr_14 hr_19 hr_20 hr_21; exact (iN c_2 (iN c_6 (iN c_10 (iN c_15 rfl)))))) dX4_says_69 hlocks
theorem hd_X4_saysNow : yX4_saysNow.cls = RX4 ∧ yX4_saysNow.cls ≠ "java/lang/invoke/MethodHandle" ∧ yX4_saysNow.cls ≠ "java/lang/invoke/VarHandle" ∧ (parseMethodDescriptor yX4_saysNow.desc).map (fun d => d.parameters.length) = some 2 := by decide +kernel
set_option maxHeartbeats 4000000 in
set_option maxRecDepth 100000 in
theorem k_X4_saysNow (l : Launch) (X : xX) (S : xS) (p0 : Int32) (p1 : Int32) : Met l yX4_saysNow wsX4_saysNow ({ frames := 3, cells := 0, slots := 0, locals := 70 } : Room) (va_Pc [.ref (X.2.1 15), .int p0, .int p1] (xI X S)) (va_Qi (fun (r : Int32) (u : xS) => r = (f_X4_saysNow S p0 p1) ∧ u = S) (xI X) (xA X)) 0 0 (xA X) := by
  refine Met.ofW (cc := cX4_saysNow) (maxL := 3) (ret := (some .int)) (by decide +kernel) rfl ?_
  intro p e s m args below meth c s₁ B hml hv
  obtain ⟨rfl, hP, hK, hN, hJ⟩ := hv
  have hx := B.exec
  have hb := B.bytes
  have hr := B.returns
  have hts := atoms_spec (ws := wsX4_saysNow) B.pre
  have hown : s.vm.findClass RX4 = some m.cls := findClass_of_methodNamed B.named
  have hlocks := B.notSynchronized
  have hC : xC X p m c cX4_saysNow 3 s _ wsX4_saysNow RX4 := ⟨⟨hx, hb, hml, hown, hts⟩, hK, hN, hJ⟩
  have hS : va_S (xA X) s.heap s.heap [] := va_S.rf
  have hin_X4 : ∀ w ∈ u_ws RX4 TX4 2, w ∈ wsX4_saysNow := by decide +kernel
  have hin_X7 : ∀ w ∈ u_ws RX7 TX7 6, w ∈ wsX4_saysNow := by decide +kernel
  have hl := lv_entry ([.ref (X.2.1 15), .int p0, .int p1]) (n := 3) (Nat.le_of_ble_eq_true rfl)
  rw [lg_entry_eq]
  generalize (lg_sl ([.ref (X.2.1 15), .int p0, .int p1]) ++ List.replicate (3 - (lg_sl ([.ref (X.2.1 15), .int p0, .int p1])).length) Slot.unset).toArray = ls at hl ⊢
  have hl : lv_has ls 3 [(0, .ref (X.2.1 15)), (1, .int p0), (2, .int p1)] := hl
  refine lv_aload_n hx hb dX4_saysNow_0 rfl (lv_at hl 0 rfl) ?_
  refine lv_iload_n hx hb dX4_saysNow_1 rfl (lv_at hl 1 rfl) ?_
  refine lv_aload_n hx hb dX4_saysNow_2 rfl (lv_at hl 0 rfl) ?_
  refine xget (ref := "AbsentPraise$Life") (T := TX4) (v := .ref (X.2.1 32)) hC hP hin_X4 xo_X4 rfl 1 (by decide) (List.mem_of_getElem? (i := 1) rfl) rfl rfl dX4_saysNow_3 ?_
  refine xget (ref := "AbsentPraise$Talk") (T := TX7) (v := .ref (X.2.1 33)) hC hP hin_X7 (xo_T (by decide)) rfl 0 (by decide) (List.mem_of_getElem? (i := 2) rfl) rfl rfl dX4_saysNow_6 ?_
  refine lv_iload_n hx hb dX4_saysNow_9 rfl (lv_at hl 1 rfl) ?_
  refine xcSN_iR (As := [.ref (X.2.1 33), .int p0]) (rest := [.int p0, .ref (X.2.1 15)]) hC hP hS (k_X10_at l X S 33 p0 rfl) (va_cnB (host := "AbsentPraise") 2 hts gX4_saysNow_X10_at_n31 rfl rfl rfl (xn_10 hN) (hts (.initialized RX10) (List.mem_of_getElem? (i := 5) rfl)) hs_X10_at ⟨Nat.le_of_ble_eq_true rfl, Nat.le_of_ble_eq_true rfl⟩) (hts (.static yX10_at) (List.mem_of_getElem? (i := 4) rfl)) rfl rfl hl.1 (Nat.le_of_ble_eq_true rfl) dX4_saysNow_10 (fun r_1 hr_1 H locs hP hS => ?_)
  refine lv_iload_n hx hb dX4_saysNow_13 rfl (lv_at hl 2 rfl) ?_
  refine lv_aload_n hx hb dX4_saysNow_14 rfl (lv_at hl 0 rfl) ?_
  refine xget (ref := "AbsentPraise$Life") (T := TX4) (v := .ref (X.2.1 32)) hC hP hin_X4 xo_X4 rfl 1 (by decide) (List.mem_of_getElem? (i := 1) rfl) rfl rfl dX4_saysNow_15 ?_
  refine xget (ref := "AbsentPraise$Talk") (T := TX7) (v := .ref (X.2.1 33)) hC hP hin_X7 (xo_T (by decide)) rfl 0 (by decide) (List.mem_of_getElem? (i := 2) rfl) rfl rfl dX4_saysNow_18 ?_
  refine lv_iload_n hx hb dX4_saysNow_21 rfl (lv_at hl 2 rfl) ?_
  refine xcSN_iR (As := [.ref (X.2.1 33), .int p1]) (rest := [.int p1, .int r_1, .int p0, .ref (X.2.1 15)]) hC hP hS (k_X10_at l X S 33 p1 rfl) (va_cnB (host := "AbsentPraise") 2 hts gX4_saysNow_X10_at_n31 rfl rfl rfl (xn_10 hN) (hts (.initialized RX10) (List.mem_of_getElem? (i := 5) rfl)) hs_X10_at ⟨Nat.le_of_ble_eq_true rfl, Nat.le_of_ble_eq_true rfl⟩) (hts (.static yX10_at) (List.mem_of_getElem? (i := 4) rfl)) rfl rfl hl.1 (Nat.le_of_ble_eq_true rfl) dX4_saysNow_22 (fun r_2 hr_2 H locs hP hS => ?_)
  refine lv_aload_n hx hb dX4_saysNow_25 rfl (lv_at hl 0 rfl) ?_
  refine xget (ref := "AbsentPraise$Life") (T := TX4) (v := .ref (X.2.1 32)) hC hP hin_X4 xo_X4 rfl 1 (by decide) (List.mem_of_getElem? (i := 1) rfl) rfl rfl dX4_saysNow_26 ?_
  refine xget (ref := "AbsentPraise$Talk") (T := TX7) (v := .int (S 32 4)) hC hP hin_X7 (xo_T (by decide)) rfl 4 (by decide) (List.mem_of_getElem? (i := 3) rfl) rfl rfl dX4_saysNow_29 ?_
  refine lv_iload_n hx hb dX4_saysNow_32 rfl (lv_at hl 2 rfl) ?_
  refine xcSN_iR (As := [.int (S 32 4), .int p1]) (rest := [.int r_2, .int p1, .int r_1, .int p0, .ref (X.2.1 15)]) hC hP hS (k_X10_has l X S (S 32 4) p1) (va_cnB (host := "AbsentPraise") 2 hts gX4_saysNow_X10_has_n35 rfl rfl rfl (xn_11 hN) (hts (.initialized RX10) (List.mem_of_getElem? (i := 5) rfl)) hs_X10_has ⟨Nat.le_of_ble_eq_true rfl, Nat.le_of_ble_eq_true rfl⟩) (hts (.static yX10_has) (List.mem_of_getElem? (i := 7) rfl)) rfl rfl hl.1 (Nat.le_of_ble_eq_true rfl) dX4_saysNow_33 (fun r_3 hp_r_3 H locs hP hS => ?_)
  obtain ⟨hr_3, hzr_3⟩ := hp_r_3
  refine xcV_iR (b := 15) (As := [.int p0, .int r_1, .int p1, .int r_2, .int r_3]) (rest := []) hC hP hS (k_X4_says l X S p0 r_1 p1 r_2 r_3) (cwV 5 hts gX4_saysNow_X4_says rfl rfl rfl hd_X4_says ⟨Nat.le_of_ble_eq_true rfl, Nat.le_of_ble_eq_true rfl⟩) xo_X4 rfl rfl rfl hl.1 (Nat.le_of_ble_eq_true rfl) dX4_saysNow_36 (fun r_4 hr_4 H locs hP hS => ?_)
  exact xret_iR hC hP hS hb hr ((by have hr_1 := hr_1.symm; have hr_2 := hr_2.symm; have hr_3 := hr_3.symm; have hr_4 := hr_4.symm; subst hr_1 hr_2 hr_3 hr_4; exact rfl)) dX4_saysNow_39 hlocks
theorem hs_J9_floorMod_7cf53 : yJ9_floorMod_7cf53.cls ≠ "java/lang/invoke/MethodHandle" ∧ yJ9_floorMod_7cf53.cls ≠ "java/lang/invoke/VarHandle" ∧ (parseMethodDescriptor yJ9_floorMod_7cf53.desc).map (fun d => d.parameters.length) = some 2 := by decide +kernel
set_option maxHeartbeats 4000000 in
set_option maxRecDepth 100000 in
theorem k_J9_floorMod_7cf53 (l : Launch) (X : xX) (S : xS) (p0 : Int32) (p1 : Int32) (hs : s_J9_floorMod_7cf53 S p0 p1) : Met l yJ9_floorMod_7cf53 wsJ9_floorMod_7cf53 ({ frames := 0, cells := 0, slots := 0, locals := 0 } : Room) (va_Pc [.int p0, .int p1] (xI X S)) (va_Qi (fun (r : Int32) (u : xS) => r = (f_J9_floorMod_7cf53 S p0 p1) ∧ u = S) (xI X) (xA X)) 0 0 (xA X) := by
  refine va_MetF (cc := cJ9_floorMod_7cf53) (maxL := 3) (ret := (some .int)) (by decide +kernel) rfl ?_
  intro p e s m args below meth c s₁ B hml hv
  obtain ⟨rfl, hP, hK, hN, hJ⟩ := hv
  have hx := B.exec
  have hb := B.bytes
  have hr := B.returns
  have hts := atoms_spec (ws := wsJ9_floorMod_7cf53) B.pre
  have hown : s.vm.findClass RJ9 = some m.cls := findClass_of_methodNamed B.named
  have hlocks := B.notSynchronized
  have hC : xC X p m c cJ9_floorMod_7cf53 3 s _ wsJ9_floorMod_7cf53 RJ9 := ⟨⟨hx, hb, hml, hown, hts⟩, hK, hN, hJ⟩
  have hS : va_S (xA X) s.heap s.heap [] := va_S.rf
  have hl := lv_entry ([.int p0, .int p1]) (n := 3) (Nat.le_of_ble_eq_true rfl)
  rw [lg_entry_eq]
  generalize (lg_sl ([.int p0, .int p1]) ++ List.replicate (3 - (lg_sl ([.int p0, .int p1])).length) Slot.unset).toArray = ls at hl ⊢
  have hl : lv_has ls 3 [(0, .int p0), (1, .int p1)] := hl
  refine lv_iload_n hx hb dJ9_floorMod_7cf53_0 rfl (lv_at hl 0 rfl) ?_
  refine lv_iload_n hx hb dJ9_floorMod_7cf53_1 rfl (lv_at hl 1 rfl) ?_
  have hn_1 : ¬ (p1 = 0) := (nl hs)
  refine lv_irem hx hb dJ9_floorMod_7cf53_2 hn_1 ?_
  refine lv_istore_n (lv' := [(2, .int (p0 - p0 / p1 * p1)), (0, .int p0), (1, .int p1)]) hx hb dJ9_floorMod_7cf53_3 rfl hl (by decide) rfl (fun ls hl => ?_)
  refine lv_iload_n hx hb dJ9_floorMod_7cf53_4 rfl (lv_at hl 1 rfl) ?_
  refine lv_iload_n hx hb dJ9_floorMod_7cf53_5 rfl (lv_at hl 2 rfl) ?_
  refine lv_ixor hx hb dJ9_floorMod_7cf53_6 ?_
  refine lv_if_ge (tgt := 18) hx hb dJ9_floorMod_7cf53_7 (by decide) (fun c_2 => ?_) (fun c_2 => ?_)
  · refine lv_iload_n hx hb dJ9_floorMod_7cf53_18 rfl (lv_at hl 0 rfl) ?_
    exact xret_iR hC hP hS hb hr (((ip c_2 rfl))) dJ9_floorMod_7cf53_19 hlocks
  · refine lv_iload_n hx hb dJ9_floorMod_7cf53_10 rfl (lv_at hl 0 rfl) ?_
    refine lv_if_eq (tgt := 18) hx hb dJ9_floorMod_7cf53_11 (by decide) (fun c_3 => ?_) (fun c_3 => ?_)
    · refine lv_iload_n hx hb dJ9_floorMod_7cf53_18 rfl (lv_at hl 0 rfl) ?_
      exact xret_iR hC hP hS hb hr (((iN c_2 (ip c_3 rfl)))) dJ9_floorMod_7cf53_19 hlocks
    · refine lv_iload_n hx hb dJ9_floorMod_7cf53_14 rfl (lv_at hl 0 rfl) ?_
      refine lv_iload_n hx hb dJ9_floorMod_7cf53_15 rfl (lv_at hl 2 rfl) ?_
      refine lv_iadd hx hb dJ9_floorMod_7cf53_16 ?_
      exact xret_iR hC hP hS hb hr (((iN c_2 (iN c_3 rfl)))) dJ9_floorMod_7cf53_17 hlocks
