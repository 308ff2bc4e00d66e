set_option linter.all false
/-! contracts: X5_fitting, X5_leastFitting, X5_greatestFitting, X5_greatestPart, J6_bitCount_0f7a4, X5_bestQuestion, X6_slotAt -/
theorem hd_X5_fitting : yX5_fitting.cls = RX5 ∧ yX5_fitting.cls ≠ "java/lang/invoke/MethodHandle" ∧ yX5_fitting.cls ≠ "java/lang/invoke/VarHandle" ∧ (parseMethodDescriptor yX5_fitting.desc).map (fun d => d.parameters.length) = some 0 := by decide +kernel
set_option maxHeartbeats 4000000 in
set_option maxRecDepth 100000 in
theorem k_X5_fitting (l : Launch) (X : xX) (S : xS) (hs : s_X5_fitting S) : Met l yX5_fitting wsX5_fitting ({ frames := 2, cells := 0, slots := 0, locals := 45 } : Room) (va_Pc [.ref (X.2.1 19)] (xI X S)) (va_Qi (fun (r : Int32) (u : xS) => r = (f_X5_fitting S) ∧ u = S) (xI X) (xA X)) 0 0 (xA X) := by
  refine Met.ofW (cc := cX5_fitting) (maxL := 3) (ret := (some .int)) (by decide +kernel) rfl ?_
  intro p e s m args below meth c s₁ B hml hv
  obtain ⟨rfl, hP, hK, hN, hJ⟩ := hv
  have hx := B.exec
  have hb := B.bytes
  have hr := B.returns
  have hts := atoms_spec (ws := wsX5_fitting) B.pre
  have hown : s.vm.findClass RX5 = some m.cls := findClass_of_methodNamed B.named
  have hlocks := B.notSynchronized
  have hC : xC X p m c cX5_fitting 3 s _ wsX5_fitting RX5 := ⟨⟨hx, hb, hml, hown, hts⟩, hK, hN, hJ⟩
  have hS : va_S (xA X) s.heap s.heap [] := va_S.rf
  have hl := lv_entry ([.ref (X.2.1 19)]) (n := 3) (Nat.le_of_ble_eq_true rfl)
  rw [lg_entry_eq]
  generalize (lg_sl ([.ref (X.2.1 19)]) ++ List.replicate (3 - (lg_sl ([.ref (X.2.1 19)])).length) Slot.unset).toArray = ls at hl ⊢
  have hl : lv_has ls 3 [(0, .ref (X.2.1 19))] := hl
  refine lv_iconst (v := 0) hx hb dX5_fitting_0 (by decide) ?_
  refine lv_istore_n (lv' := [(1, .int 0), (0, .ref (X.2.1 19))]) hx hb dX5_fitting_1 rfl hl (by decide) rfl (fun ls hl => ?_)
  refine lv_iconst (v := 0) hx hb dX5_fitting_2 (by decide) ?_
  refine lv_istore_n (lv' := [(2, .int 0), (1, .int 0), (0, .ref (X.2.1 19))]) hx hb dX5_fitting_3 rfl hl (by decide) rfl (fun ls hl => ?_)
  have hLp_4 : ∀ (n : Nat) (x1_4 : Int32) (x2_4 : Int32), s_X5_fitting_L4 n S x1_4 x2_4 → (∀ q : Int32, q = f_X5_fitting_L4 n S x1_4 x2_4 → (∀ (H : Heap) (locs : List Loc), va_P X.1 vwCl (xW X S) H → va_S (xA X) s.heap H locs → ∀ (ls : Array Slot), lv_has ls 3 [(1, .int q)] → W p l e ({ frames := 2, cells := 0, slots := 0, locals := 45 } : Room) s m ([.ref (X.2.1 19)] : List Value).toArray below meth c H locs 0 0 (MQ below (va_Qi (fun (r : Int32) (u : xS) => r = (f_X5_fitting S) ∧ u = S) (xI X) (xA X)) ([.ref (X.2.1 19)] : List Value).toArray s 0 0 (xA X)) (F0 m 35 ls []))) → ∀ (H : Heap) (locs : List Loc), va_P X.1 vwCl (xW X S) H → va_S (xA X) s.heap H locs → ∀ (ls : Array Slot), lv_has ls 3 [(0, .ref (X.2.1 19)), (1, .int x1_4), (2, .int x2_4)] → W p l e ({ frames := 2, cells := 0, slots := 0, locals := 45 } : Room) s m ([.ref (X.2.1 19)] : List Value).toArray below meth c H locs 0 0 (MQ below (va_Qi (fun (r : Int32) (u : xS) => r = (f_X5_fitting S) ∧ u = S) (xI X) (xA X)) ([.ref (X.2.1 19)] : List Value).toArray s 0 0 (xA X)) (F0 m 4 ls []) := by
    intro n
    induction n with
    | zero => intro x1_4 x2_4 hs; exact hs.elim
    | succ n ih_4 =>
      intro x1_4 x2_4 hs_4 hex_4 H locs hP hS ls hl
      refine lv_iload_n hx hb dX5_fitting_4 rfl (lv_at hl 2 rfl) ?_
      refine lv_bipush (v := 9) hx hb dX5_fitting_5 (by decide) ?_
      refine lv_icmp_gt (tgt := 35) hx hb dX5_fitting_7 (by decide) (fun c_1 => ?_) (fun c_1 => ?_)
      · have he_2 : f_X5_fitting_L4 (n + 1) S x1_4 x2_4 = x1_4 := ((ip c_1 rfl))
        exact hex_4 _ he_2.symm _ _ hP hS ls (lv_sub hl [1] rfl)
      · refine lv_iload_n hx hb dX5_fitting_10 rfl (lv_at hl 1 rfl) ?_
        refine lv_aload_n hx hb dX5_fitting_11 rfl (lv_at hl 0 rfl) ?_
        refine lv_iload_n hx hb dX5_fitting_12 rfl (lv_at hl 2 rfl) ?_
        have hn_3 : s_X5_fits S x2_4 := (nl (sn hs_4 c_1))
        refine xcV_iR (b := 19) (As := [.int x2_4]) (rest := [.int x1_4]) hC hP hS (k_X5_fits l X S x2_4 hn_3) (cwV 1 hts gX5_fitting_X5_fits rfl rfl rfl hd_X5_fits ⟨Nat.le_of_ble_eq_true rfl, Nat.le_of_ble_eq_true rfl⟩) xo_X5 rfl rfl rfl hl.1 (Nat.le_of_ble_eq_true rfl) dX5_fitting_13 (fun r_4 hp_r_4 H locs hP hS => ?_)
        obtain ⟨hr_4, hzr_4⟩ := hp_r_4
        refine lv_if_eq (tgt := 26) hx hb dX5_fitting_16 (by decide) (fun c_5 => ?_) (fun c_5 => ?_)
        · refine lv_iconst (v := 0) hx hb dX5_fitting_26 (by decide) ?_
          refine lv_ior hx hb dX5_fitting_27 ?_
          refine lv_istore_n (lv' := [(1, .int (x1_4 ||| 0)), (0, .ref (X.2.1 19)), (2, .int x2_4)]) hx hb dX5_fitting_28 rfl hl (by decide) rfl (fun ls hl => ?_)
          refine lv_iinc (v := (x2_4 + 1)) (lv' := [(2, .int (x2_4 + 1)), (1, .int (x1_4 ||| 0)), (0, .ref (X.2.1 19))]) hx hb dX5_fitting_29 hl (k := 2) rfl rfl (by decide) rfl (fun ls hl => ?_)
          refine lv_goto (tgt := 4) hx hb dX5_fitting_32 (by decide) ?_
          have he_6 : f_X5_fitting_L4 (n + 1) S x1_4 x2_4 = f_X5_fitting_L4 n S (x1_4 ||| 0) (x2_4 + 1) := (by have hr_4 := hr_4.symm; subst hr_4; exact (iN c_1 (ip c_5 rfl)))
          exact ih_4 (x1_4 ||| 0) (x2_4 + 1) (by have hr_4 := hr_4.symm; subst hr_4; exact (sp (nr (sn hs_4 c_1)) c_5)) (fun q hq => hex_4 q (hq.trans he_6.symm)) _ _ hP hS ls (lv_sub hl [2, 1, 0] rfl)
        · refine lv_iload_n hx hb dX5_fitting_19 rfl (lv_at hl 2 rfl) ?_
          refine xcSN_iR (As := [.int x2_4]) (rest := [.int x1_4]) hC hP hS (k_X10_bit l X S x2_4) (va_cnB (host := "AbsentPraise") 1 hts gX5_fitting_X10_bit_n33 rfl rfl rfl (xn_25 hN) (hts (.initialized RX10) (List.mem_of_getElem? (i := 11) rfl)) hs_X10_bit ⟨Nat.le_of_ble_eq_true rfl, Nat.le_of_ble_eq_true rfl⟩) (hts (.static yX10_bit) (List.mem_of_getElem? (i := 15) rfl)) rfl rfl hl.1 (Nat.le_of_ble_eq_true rfl) dX5_fitting_20 (fun r_7 hr_7 H locs hP hS => ?_)
          refine lv_goto (tgt := 27) hx hb dX5_fitting_23 (by decide) ?_
          refine lv_ior hx hb dX5_fitting_27 ?_
          refine lv_istore_n (lv' := [(1, .int (x1_4 ||| r_7)), (0, .ref (X.2.1 19)), (2, .int x2_4)]) hx hb dX5_fitting_28 rfl hl (by decide) rfl (fun ls hl => ?_)
          refine lv_iinc (v := (x2_4 + 1)) (lv' := [(2, .int (x2_4 + 1)), (1, .int (x1_4 ||| r_7)), (0, .ref (X.2.1 19))]) hx hb dX5_fitting_29 hl (k := 2) rfl rfl (by decide) rfl (fun ls hl => ?_)
          refine lv_goto (tgt := 4) hx hb dX5_fitting_32 (by decide) ?_
          have he_8 : f_X5_fitting_L4 (n + 1) S x1_4 x2_4 = f_X5_fitting_L4 n S (x1_4 ||| r_7) (x2_4 + 1) := (by have hr_4 := hr_4.symm; have hr_7 := hr_7.symm; subst hr_4 hr_7; exact (iN c_1 (iN c_5 rfl)))
          exact ih_4 (x1_4 ||| r_7) (x2_4 + 1) (by have hr_4 := hr_4.symm; have hr_7 := hr_7.symm; subst hr_4 hr_7; exact (sn (nr (sn hs_4 c_1)) c_5)) (fun q hq => hex_4 q (hq.trans he_8.symm)) _ _ hP hS ls (lv_sub hl [2, 1, 0] rfl)
  refine hLp_4 ((fu 0 9)) 0 0 (nl hs) (fun q_4 hq_4 H locs hP hS ls hl => ?_) _ _ hP hS ls (lv_sub hl [2, 1, 0] rfl)
  refine lv_iload_n hx hb dX5_fitting_35 rfl (lv_at hl 0 rfl) ?_
  exact xret_iR hC hP hS hb hr ((by have hq_4 := hq_4.symm; subst hq_4; exact rfl)) dX5_fitting_36 hlocks
theorem hd_X5_leastFitting : yX5_leastFitting.cls = RX5 ∧ yX5_leastFitting.cls ≠ "java/lang/invoke/MethodHandle" ∧ yX5_leastFitting.cls ≠ "java/lang/invoke/VarHandle" ∧ (parseMethodDescriptor yX5_leastFitting.desc).map (fun d => d.parameters.length) = some 0 := by decide +kernel
set_option maxHeartbeats 4000000 in
set_option maxRecDepth 100000 in
theorem k_X5_leastFitting (l : Launch) (X : xX) (S : xS) (hs : s_X5_leastFitting S) : Met l yX5_leastFitting wsX5_leastFitting ({ frames := 3, cells := 0, slots := 0, locals := 67 } : Room) (va_Pc [.ref (X.2.1 19)] (xI X S)) (va_Qi (fun (r : Int32) (u : xS) => r = (f_X5_leastFitting S) ∧ u = S) (xI X) (xA X)) 0 0 (xA X) := by
  refine Met.ofW (cc := cX5_leastFitting) (maxL := 3) (ret := (some .int)) (by decide +kernel) rfl ?_
  intro p e s m args below meth c s₁ B hml hv
  obtain ⟨rfl, hP, hK, hN, hJ⟩ := hv
  have hx := B.exec
  have hb := B.bytes
  have hr := B.returns
  have hts := atoms_spec (ws := wsX5_leastFitting) B.pre
  have hown : s.vm.findClass RX5 = some m.cls := findClass_of_methodNamed B.named
  have hlocks := B.notSynchronized
  have hC : xC X p m c cX5_leastFitting 3 s _ wsX5_leastFitting RX5 := ⟨⟨hx, hb, hml, hown, hts⟩, hK, hN, hJ⟩
  have hS : va_S (xA X) s.heap s.heap [] := va_S.rf
  have hl := lv_entry ([.ref (X.2.1 19)]) (n := 3) (Nat.le_of_ble_eq_true rfl)
  rw [lg_entry_eq]
  generalize (lg_sl ([.ref (X.2.1 19)]) ++ List.replicate (3 - (lg_sl ([.ref (X.2.1 19)])).length) Slot.unset).toArray = ls at hl ⊢
  have hl : lv_has ls 3 [(0, .ref (X.2.1 19))] := hl
  refine lv_aload_n hx hb dX5_leastFitting_0 rfl (lv_at hl 0 rfl) ?_
  have hn_1 : s_X5_fitting S := (nl hs)
  refine xcV_iR (b := 19) (As := []) (rest := []) hC hP hS (k_X5_fitting l X S hn_1) (cwV 0 hts gX5_leastFitting_X5_fitting rfl rfl rfl hd_X5_fitting ⟨Nat.le_of_ble_eq_true rfl, Nat.le_of_ble_eq_true rfl⟩) xo_X5 rfl rfl rfl hl.1 (Nat.le_of_ble_eq_true rfl) dX5_leastFitting_1 (fun r_2 hr_2 H locs hP hS => ?_)
  refine lv_istore_n (lv' := [(1, .int r_2), (0, .ref (X.2.1 19))]) hx hb dX5_leastFitting_4 rfl hl (by decide) rfl (fun ls hl => ?_)
  refine lv_iconst (v := 0) hx hb dX5_leastFitting_5 (by decide) ?_
  refine lv_istore_n (lv' := [(2, .int 0), (1, .int r_2), (0, .ref (X.2.1 19))]) hx hb dX5_leastFitting_6 rfl hl (by decide) rfl (fun ls hl => ?_)
  have hLp_7 : ∀ (n : Nat) (x1_7 : Int32) (x2_7 : Int32), s_X5_leastFitting_L7 n S x1_7 x2_7 → (∀ q : Unit, f_X5_leastFitting_L7 n S x1_7 x2_7 = .inr q → (∀ (H : Heap) (locs : List Loc), va_P X.1 vwCl (xW X S) H → va_S (xA X) s.heap H locs → ∀ (ls : Array Slot), lv_has ls 3 [] → W p l e ({ frames := 3, cells := 0, slots := 0, locals := 67 } : Room) s m ([.ref (X.2.1 19)] : List Value).toArray below meth c H locs 0 0 (MQ below (va_Qi (fun (r : Int32) (u : xS) => r = (f_X5_leastFitting S) ∧ u = S) (xI X) (xA X)) ([.ref (X.2.1 19)] : List Value).toArray s 0 0 (xA X)) (F0 m 29 ls []))) → (∀ r : Int32, f_X5_leastFitting_L7 n S x1_7 x2_7 = .inl r → ∀ (H : Heap) (locs : List Loc), va_P X.1 vwCl (xW X S) H → va_S (xA X) s.heap H locs → ∀ (pc : Nat) (ls : Array Slot), decode cX5_leastFitting pc = .ok (.ireturn, 1) → W p l e ({ frames := 3, cells := 0, slots := 0, locals := 67 } : Room) s m ([.ref (X.2.1 19)] : List Value).toArray below meth c H locs 0 0 (MQ below (va_Qi (fun (r : Int32) (u : xS) => r = (f_X5_leastFitting S) ∧ u = S) (xI X) (xA X)) ([.ref (X.2.1 19)] : List Value).toArray s 0 0 (xA X)) (F0 m pc ls [.int r])) → ∀ (H : Heap) (locs : List Loc), va_P X.1 vwCl (xW X S) H → va_S (xA X) s.heap H locs → ∀ (ls : Array Slot), lv_has ls 3 [(1, .int x1_7), (2, .int x2_7)] → W p l e ({ frames := 3, cells := 0, slots := 0, locals := 67 } : Room) s m ([.ref (X.2.1 19)] : List Value).toArray below meth c H locs 0 0 (MQ below (va_Qi (fun (r : Int32) (u : xS) => r = (f_X5_leastFitting S) ∧ u = S) (xI X) (xA X)) ([.ref (X.2.1 19)] : List Value).toArray s 0 0 (xA X)) (F0 m 7 ls []) := by
    intro n
    induction n with
    | zero => intro x1_7 x2_7 hs; exact hs.elim
    | succ n ih_7 =>
      intro x1_7 x2_7 hs_7 hex_7 hret_7 H locs hP hS ls hl
      refine lv_iload_n hx hb dX5_leastFitting_7 rfl (lv_at hl 1 rfl) ?_
      refine lv_bipush (v := 9) hx hb dX5_leastFitting_8 (by decide) ?_
      refine lv_icmp_gt (tgt := 29) hx hb dX5_leastFitting_10 (by decide) (fun c_3 => ?_) (fun c_3 => ?_)
      · have he_4 : f_X5_leastFitting_L7 (n + 1) S x1_7 x2_7 = .inr () := ((ip c_3 rfl))
        exact hex_7 _ he_4 _ _ hP hS ls (lv_sub hl [] rfl)
      · refine lv_iload_n hx hb dX5_leastFitting_13 rfl (lv_at hl 0 rfl) ?_
        refine lv_iload_n hx hb dX5_leastFitting_14 rfl (lv_at hl 1 rfl) ?_
        refine xcSN_iR (As := [.int x1_7, .int x2_7]) (rest := []) hC hP hS (k_X10_has l X S x1_7 x2_7) (va_cnB (host := "AbsentPraise") 2 hts gX5_leastFitting_X10_has_n49 rfl rfl rfl (xn_26 hN) (hts (.initialized RX10) (List.mem_of_getElem? (i := 15) rfl)) hs_X10_has ⟨Nat.le_of_ble_eq_true rfl, Nat.le_of_ble_eq_true rfl⟩) (hts (.static yX10_has) (List.mem_of_getElem? (i := 21) rfl)) rfl rfl hl.1 (Nat.le_of_ble_eq_true rfl) dX5_leastFitting_15 (fun r_5 hp_r_5 H locs hP hS => ?_)
        obtain ⟨hr_5, hzr_5⟩ := hp_r_5
        refine lv_if_eq (tgt := 23) hx hb dX5_leastFitting_18 (by decide) (fun c_6 => ?_) (fun c_6 => ?_)
        · refine lv_iinc (v := (x2_7 + 1)) (lv' := [(2, .int (x2_7 + 1)), (1, .int x1_7)]) hx hb dX5_leastFitting_23 hl (k := 1) rfl rfl (by decide) rfl (fun ls hl => ?_)
          refine lv_goto (tgt := 7) hx hb dX5_leastFitting_26 (by decide) ?_
          have he_7 : f_X5_leastFitting_L7 (n + 1) S x1_7 x2_7 = f_X5_leastFitting_L7 n S x1_7 (x2_7 + 1) := (by have hr_5 := hr_5.symm; subst hr_5; exact (iN c_3 (ip c_6 rfl)))
          exact ih_7 x1_7 (x2_7 + 1) (by have hr_5 := hr_5.symm; subst hr_5; exact (sp (sn hs_7 c_3) c_6)) (fun q hq => hex_7 q (he_7.trans hq)) (fun r hq => hret_7 r (he_7.trans hq)) _ _ hP hS ls (lv_sub hl [1, 0] rfl)
        · refine lv_iload_n hx hb dX5_leastFitting_21 rfl (lv_at hl 1 rfl) ?_
          have he_8 : f_X5_leastFitting_L7 (n + 1) S x1_7 x2_7 = .inl (x2_7) := (by have hr_5 := hr_5.symm; subst hr_5; exact (iN c_3 (iN c_6 rfl)))
          exact hret_7 _ he_8 _ _ hP hS 22 ls dX5_leastFitting_22
  refine hLp_7 ((fu 0 9)) r_2 0 (by have hr_2 := hr_2.symm; subst hr_2; exact nl (nr hs)) (fun q_7 hq_7 H locs hP hS ls hl => ?_) (fun r hr_7 H locs hP hS pc_7 ls hd_7 => ?_) _ _ hP hS ls (lv_sub hl [1, 0] rfl)
  · refine lv_iconst (v := (-1)) hx hb dX5_leastFitting_29 (by decide) ?_
    exact xret_iR hC hP hS hb hr ((by have hr_2 := hr_2.symm; subst hr_2; exact (sm_r hq_7 rfl))) dX5_leastFitting_30 hlocks
  · exact xret_iR hC hP hS hb hr ((by have hr_2 := hr_2.symm; subst hr_2; exact (sm_l hr_7 rfl))) hd_7 hlocks
theorem hd_X5_greatestFitting : yX5_greatestFitting.cls = RX5 ∧ yX5_greatestFitting.cls ≠ "java/lang/invoke/MethodHandle" ∧ yX5_greatestFitting.cls ≠ "java/lang/invoke/VarHandle" ∧ (parseMethodDescriptor yX5_greatestFitting.desc).map (fun d => d.parameters.length) = some 0 := by decide +kernel
set_option maxHeartbeats 4000000 in
set_option maxRecDepth 100000 in
theorem k_X5_greatestFitting (l : Launch) (X : xX) (S : xS) (hs : s_X5_greatestFitting S) : Met l yX5_greatestFitting wsX5_greatestFitting ({ frames := 3, cells := 0, slots := 0, locals := 67 } : Room) (va_Pc [.ref (X.2.1 19)] (xI X S)) (va_Qi (fun (r : Int32) (u : xS) => r = (f_X5_greatestFitting S) ∧ u = S) (xI X) (xA X)) 0 0 (xA X) := by
  refine Met.ofW (cc := cX5_greatestFitting) (maxL := 3) (ret := (some .int)) (by decide +kernel) rfl ?_
  intro p e s m args below meth c s₁ B hml hv
  obtain ⟨rfl, hP, hK, hN, hJ⟩ := hv
  have hx := B.exec
  have hb := B.bytes
  have hr := B.returns
  have hts := atoms_spec (ws := wsX5_greatestFitting) B.pre
  have hown : s.vm.findClass RX5 = some m.cls := findClass_of_methodNamed B.named
  have hlocks := B.notSynchronized
  have hC : xC X p m c cX5_greatestFitting 3 s _ wsX5_greatestFitting RX5 := ⟨⟨hx, hb, hml, hown, hts⟩, hK, hN, hJ⟩
  have hS : va_S (xA X) s.heap s.heap [] := va_S.rf
  have hl := lv_entry ([.ref (X.2.1 19)]) (n := 3) (Nat.le_of_ble_eq_true rfl)
  rw [lg_entry_eq]
  generalize (lg_sl ([.ref (X.2.1 19)]) ++ List.replicate (3 - (lg_sl ([.ref (X.2.1 19)])).length) Slot.unset).toArray = ls at hl ⊢
  have hl : lv_has ls 3 [(0, .ref (X.2.1 19))] := hl
  refine lv_aload_n hx hb dX5_greatestFitting_0 rfl (lv_at hl 0 rfl) ?_
  have hn_1 : s_X5_fitting S := (nl hs)
  refine xcV_iR (b := 19) (As := []) (rest := []) hC hP hS (k_X5_fitting l X S hn_1) (cwV 0 hts gX5_greatestFitting_X5_fitting rfl rfl rfl hd_X5_fitting ⟨Nat.le_of_ble_eq_true rfl, Nat.le_of_ble_eq_true rfl⟩) xo_X5 rfl rfl rfl hl.1 (Nat.le_of_ble_eq_true rfl) dX5_greatestFitting_1 (fun r_2 hr_2 H locs hP hS => ?_)
  refine lv_istore_n (lv' := [(1, .int r_2), (0, .ref (X.2.1 19))]) hx hb dX5_greatestFitting_4 rfl hl (by decide) rfl (fun ls hl => ?_)
  refine lv_bipush (v := 9) hx hb dX5_greatestFitting_5 (by decide) ?_
  refine lv_istore_n (lv' := [(2, .int 9), (1, .int r_2), (0, .ref (X.2.1 19))]) hx hb dX5_greatestFitting_7 rfl hl (by decide) rfl (fun ls hl => ?_)
  have hLp_8 : ∀ (n : Nat) (x1_8 : Int32) (x2_8 : Int32), s_X5_greatestFitting_L8 n S x1_8 x2_8 → (∀ q : Unit, f_X5_greatestFitting_L8 n S x1_8 x2_8 = .inr q → (∀ (H : Heap) (locs : List Loc), va_P X.1 vwCl (xW X S) H → va_S (xA X) s.heap H locs → ∀ (ls : Array Slot), lv_has ls 3 [] → W p l e ({ frames := 3, cells := 0, slots := 0, locals := 67 } : Room) s m ([.ref (X.2.1 19)] : List Value).toArray below meth c H locs 0 0 (MQ below (va_Qi (fun (r : Int32) (u : xS) => r = (f_X5_greatestFitting S) ∧ u = S) (xI X) (xA X)) ([.ref (X.2.1 19)] : List Value).toArray s 0 0 (xA X)) (F0 m 28 ls []))) → (∀ r : Int32, f_X5_greatestFitting_L8 n S x1_8 x2_8 = .inl r → ∀ (H : Heap) (locs : List Loc), va_P X.1 vwCl (xW X S) H → va_S (xA X) s.heap H locs → ∀ (pc : Nat) (ls : Array Slot), decode cX5_greatestFitting pc = .ok (.ireturn, 1) → W p l e ({ frames := 3, cells := 0, slots := 0, locals := 67 } : Room) s m ([.ref (X.2.1 19)] : List Value).toArray below meth c H locs 0 0 (MQ below (va_Qi (fun (r : Int32) (u : xS) => r = (f_X5_greatestFitting S) ∧ u = S) (xI X) (xA X)) ([.ref (X.2.1 19)] : List Value).toArray s 0 0 (xA X)) (F0 m pc ls [.int r])) → ∀ (H : Heap) (locs : List Loc), va_P X.1 vwCl (xW X S) H → va_S (xA X) s.heap H locs → ∀ (ls : Array Slot), lv_has ls 3 [(1, .int x1_8), (2, .int x2_8)] → W p l e ({ frames := 3, cells := 0, slots := 0, locals := 67 } : Room) s m ([.ref (X.2.1 19)] : List Value).toArray below meth c H locs 0 0 (MQ below (va_Qi (fun (r : Int32) (u : xS) => r = (f_X5_greatestFitting S) ∧ u = S) (xI X) (xA X)) ([.ref (X.2.1 19)] : List Value).toArray s 0 0 (xA X)) (F0 m 8 ls []) := by
    intro n
    induction n with
    | zero => intro x1_8 x2_8 hs; exact hs.elim
    | succ n ih_8 =>
      intro x1_8 x2_8 hs_8 hex_8 hret_8 H locs hP hS ls hl
      refine lv_iload_n hx hb dX5_greatestFitting_8 rfl (lv_at hl 1 rfl) ?_
      refine lv_if_lt (tgt := 28) hx hb dX5_greatestFitting_9 (by decide) (fun c_3 => ?_) (fun c_3 => ?_)
      · have he_4 : f_X5_greatestFitting_L8 (n + 1) S x1_8 x2_8 = .inr () := ((ip c_3 rfl))
        exact hex_8 _ he_4 _ _ hP hS ls (lv_sub hl [] rfl)
      · refine lv_iload_n hx hb dX5_greatestFitting_12 rfl (lv_at hl 0 rfl) ?_
        refine lv_iload_n hx hb dX5_greatestFitting_13 rfl (lv_at hl 1 rfl) ?_
        refine xcSN_iR (As := [.int x1_8, .int x2_8]) (rest := []) hC hP hS (k_X10_has l X S x1_8 x2_8) (va_cnB (host := "AbsentPraise") 2 hts gX5_greatestFitting_X10_has_n49 rfl rfl rfl (xn_26 hN) (hts (.initialized RX10) (List.mem_of_getElem? (i := 15) rfl)) hs_X10_has ⟨Nat.le_of_ble_eq_true rfl, Nat.le_of_ble_eq_true rfl⟩) (hts (.static yX10_has) (List.mem_of_getElem? (i := 21) rfl)) rfl rfl hl.1 (Nat.le_of_ble_eq_true rfl) dX5_greatestFitting_14 (fun r_5 hp_r_5 H locs hP hS => ?_)
        obtain ⟨hr_5, hzr_5⟩ := hp_r_5
        refine lv_if_eq (tgt := 22) hx hb dX5_greatestFitting_17 (by decide) (fun c_6 => ?_) (fun c_6 => ?_)
        · refine lv_iinc (v := (x2_8 + (-1))) (lv' := [(2, .int (x2_8 + (-1))), (1, .int x1_8)]) hx hb dX5_greatestFitting_22 hl (k := 1) rfl rfl (by decide) rfl (fun ls hl => ?_)
          refine lv_goto (tgt := 8) hx hb dX5_greatestFitting_25 (by decide) ?_
          have he_7 : f_X5_greatestFitting_L8 (n + 1) S x1_8 x2_8 = f_X5_greatestFitting_L8 n S x1_8 (x2_8 + (-1)) := (by have hr_5 := hr_5.symm; subst hr_5; exact (iN c_3 (ip c_6 rfl)))
          exact ih_8 x1_8 (x2_8 + (-1)) (by have hr_5 := hr_5.symm; subst hr_5; exact (sp (sn hs_8 c_3) c_6)) (fun q hq => hex_8 q (he_7.trans hq)) (fun r hq => hret_8 r (he_7.trans hq)) _ _ hP hS ls (lv_sub hl [1, 0] rfl)
        · refine lv_iload_n hx hb dX5_greatestFitting_20 rfl (lv_at hl 1 rfl) ?_
          have he_8 : f_X5_greatestFitting_L8 (n + 1) S x1_8 x2_8 = .inl (x2_8) := (by have hr_5 := hr_5.symm; subst hr_5; exact (iN c_3 (iN c_6 rfl)))
          exact hret_8 _ he_8 _ _ hP hS 21 ls dX5_greatestFitting_21
  refine hLp_8 ((fd 9)) r_2 9 (by have hr_2 := hr_2.symm; subst hr_2; exact nl (nr hs)) (fun q_8 hq_8 H locs hP hS ls hl => ?_) (fun r hr_8 H locs hP hS pc_8 ls hd_8 => ?_) _ _ hP hS ls (lv_sub hl [1, 0] rfl)
  · refine lv_iconst (v := (-1)) hx hb dX5_greatestFitting_28 (by decide) ?_
    exact xret_iR hC hP hS hb hr ((by have hr_2 := hr_2.symm; subst hr_2; exact (sm_r hq_8 rfl))) dX5_greatestFitting_29 hlocks
  · exact xret_iR hC hP hS hb hr ((by have hr_2 := hr_2.symm; subst hr_2; exact (sm_l hr_8 rfl))) hd_8 hlocks
theorem hd_X5_greatestPart : yX5_greatestPart.cls = RX5 ∧ yX5_greatestPart.cls ≠ "java/lang/invoke/MethodHandle" ∧ yX5_greatestPart.cls ≠ "java/lang/invoke/VarHandle" ∧ (parseMethodDescriptor yX5_greatestPart.desc).map (fun d => d.parameters.length) = some 3 := by decide +kernel
set_option maxHeartbeats 4000000 in
set_option maxRecDepth 100000 in
theorem k_X5_greatestPart (l : Launch) (X : xX) (S : xS) (p0 : Int32) (p1 : Int32) (p2 : Int32) (hs : s_X5_greatestPart S p0 p1 p2) : Met l yX5_greatestPart wsX5_greatestPart ({ frames := 1, cells := 0, slots := 0, locals := 23 } : Room) (va_Pc [.ref (X.2.1 19), .int p0, .int p1, .int p2] (xI X S)) (va_Qi (fun (r : Int32) (u : xS) => r = (f_X5_greatestPart S p0 p1 p2) ∧ u = S) (xI X) (xA X)) 0 0 (xA X) := by
  refine Met.ofW (cc := cX5_greatestPart) (maxL := 8) (ret := (some .int)) (by decide +kernel) rfl ?_
  intro p e s m args below meth c s₁ B hml hv
  obtain ⟨rfl, hP, hK, hN, hJ⟩ := hv
  have hx := B.exec
  have hb := B.bytes
  have hr := B.returns
  have hts := atoms_spec (ws := wsX5_greatestPart) B.pre
  have hown : s.vm.findClass RX5 = some m.cls := findClass_of_methodNamed B.named
  have hlocks := B.notSynchronized
  have hC : xC X p m c cX5_greatestPart 8 s _ wsX5_greatestPart RX5 := ⟨⟨hx, hb, hml, hown, hts⟩, hK, hN, hJ⟩
  have hS : va_S (xA X) s.heap s.heap [] := va_S.rf
  have hl := lv_entry ([.ref (X.2.1 19), .int p0, .int p1, .int p2]) (n := 8) (Nat.le_of_ble_eq_true rfl)
  rw [lg_entry_eq]
  generalize (lg_sl ([.ref (X.2.1 19), .int p0, .int p1, .int p2]) ++ List.replicate (8 - (lg_sl ([.ref (X.2.1 19), .int p0, .int p1, .int p2])).length) Slot.unset).toArray = ls at hl ⊢
  have hl : lv_has ls 8 [(0, .ref (X.2.1 19)), (1, .int p0), (2, .int p1), (3, .int p2)] := hl
  refine lv_iconst (v := 0) hx hb dX5_greatestPart_0 (by decide) ?_
  refine lv_istore (lv' := [(4, .int 0), (0, .ref (X.2.1 19)), (1, .int p0), (2, .int p1), (3, .int p2)]) hx hb dX5_greatestPart_1 hl (by decide) rfl (fun ls hl => ?_)
  refine lv_bipush (v := (-9)) hx hb dX5_greatestPart_3 (by decide) ?_
  refine lv_istore (lv' := [(5, .int (-9)), (4, .int 0), (0, .ref (X.2.1 19)), (1, .int p0), (2, .int p1), (3, .int p2)]) hx hb dX5_greatestPart_5 hl (by decide) rfl (fun ls hl => ?_)
  have hLp_7 : ∀ (n : Nat) (x1_7 : Int32) (x2_7 : Int32) (x3_7 : Int32) (x4_7 : Int32) (x5_7 : Int32), s_X5_greatestPart_L7 n S x1_7 x2_7 x3_7 x4_7 x5_7 → (∀ q : Int32, q = f_X5_greatestPart_L7 n S x1_7 x2_7 x3_7 x4_7 x5_7 → (∀ (H : Heap) (locs : List Loc), va_P X.1 vwCl (xW X S) H → va_S (xA X) s.heap H locs → ∀ (ls : Array Slot), lv_has ls 8 [(4, .int q)] → W p l e ({ frames := 1, cells := 0, slots := 0, locals := 23 } : Room) s m ([.ref (X.2.1 19), .int p0, .int p1, .int p2] : List Value).toArray below meth c H locs 0 0 (MQ below (va_Qi (fun (r : Int32) (u : xS) => r = (f_X5_greatestPart S p0 p1 p2) ∧ u = S) (xI X) (xA X)) ([.ref (X.2.1 19), .int p0, .int p1, .int p2] : List Value).toArray s 0 0 (xA X)) (F0 m 79 ls []))) → ∀ (H : Heap) (locs : List Loc), va_P X.1 vwCl (xW X S) H → va_S (xA X) s.heap H locs → ∀ (ls : Array Slot), lv_has ls 8 [(1, .int x1_7), (2, .int x2_7), (3, .int x3_7), (4, .int x4_7), (5, .int x5_7)] → W p l e ({ frames := 1, cells := 0, slots := 0, locals := 23 } : Room) s m ([.ref (X.2.1 19), .int p0, .int p1, .int p2] : List Value).toArray below meth c H locs 0 0 (MQ below (va_Qi (fun (r : Int32) (u : xS) => r = (f_X5_greatestPart S p0 p1 p2) ∧ u = S) (xI X) (xA X)) ([.ref (X.2.1 19), .int p0, .int p1, .int p2] : List Value).toArray s 0 0 (xA X)) (F0 m 7 ls []) := by
    intro n
    induction n with
    | zero => intro x1_7 x2_7 x3_7 x4_7 x5_7 hs; exact hs.elim
    | succ n ih_7 =>
      intro x1_7 x2_7 x3_7 x4_7 x5_7 hs_7 hex_7 H locs hP hS ls hl
      refine lv_iload hx hb dX5_greatestPart_7 (lv_at hl 4 rfl) ?_
      refine lv_bipush (v := 9) hx hb dX5_greatestPart_9 (by decide) ?_
      refine lv_icmp_gt (tgt := 79) hx hb dX5_greatestPart_11 (by decide) (fun c_1 => ?_) (fun c_1 => ?_)
      · have he_2 : f_X5_greatestPart_L7 (n + 1) S x1_7 x2_7 x3_7 x4_7 x5_7 = x4_7 := ((ip c_1 rfl))
        exact hex_7 _ he_2.symm _ _ hP hS ls (lv_sub hl [3] rfl)
      · refine lv_iconst (v := 0) hx hb dX5_greatestPart_14 (by decide) ?_
        refine lv_istore (lv' := [(6, .int 0), (1, .int x1_7), (2, .int x2_7), (3, .int x3_7), (4, .int x4_7), (5, .int x5_7)]) hx hb dX5_greatestPart_15 hl (by decide) rfl (fun ls hl => ?_)
        refine lv_iconst (v := 0) hx hb dX5_greatestPart_17 (by decide) ?_
        refine lv_istore (lv' := [(7, .int 0), (6, .int 0), (1, .int x1_7), (2, .int x2_7), (3, .int x3_7), (4, .int x4_7), (5, .int x5_7)]) hx hb dX5_greatestPart_18 hl (by decide) rfl (fun ls hl => ?_)
        have hLp_20 : ∀ (n : Nat) (x1_20 : Int32) (x2_20 : Int32) (x3_20 : Int32) (x4_20 : Int32) (x5_20 : Int32) (x6_20 : Int32) (x7_20 : Int32), s_X5_greatestPart_L20 n S x1_20 x2_20 x3_20 x4_20 x5_20 x6_20 x7_20 → (∀ q : Int32, q = f_X5_greatestPart_L20 n S x1_20 x2_20 x3_20 x4_20 x5_20 x6_20 x7_20 → (∀ (H : Heap) (locs : List Loc), va_P X.1 vwCl (xW X S) H → va_S (xA X) s.heap H locs → ∀ (ls : Array Slot), lv_has ls 8 [(1, .int x1_20), (2, .int x2_20), (3, .int x3_20), (4, .int x4_20), (5, .int x5_20), (6, .int q)] → W p l e ({ frames := 1, cells := 0, slots := 0, locals := 23 } : Room) s m ([.ref (X.2.1 19), .int p0, .int p1, .int p2] : List Value).toArray below meth c H locs 0 0 (MQ below (va_Qi (fun (r : Int32) (u : xS) => r = (f_X5_greatestPart S p0 p1 p2) ∧ u = S) (xI X) (xA X)) ([.ref (X.2.1 19), .int p0, .int p1, .int p2] : List Value).toArray s 0 0 (xA X)) (F0 m 64 ls []))) → ∀ (H : Heap) (locs : List Loc), va_P X.1 vwCl (xW X S) H → va_S (xA X) s.heap H locs → ∀ (ls : Array Slot), lv_has ls 8 [(1, .int x1_20), (2, .int x2_20), (3, .int x3_20), (4, .int x4_20), (5, .int x5_20), (6, .int x6_20), (7, .int x7_20)] → W p l e ({ frames := 1, cells := 0, slots := 0, locals := 23 } : Room) s m ([.ref (X.2.1 19), .int p0, .int p1, .int p2] : List Value).toArray below meth c H locs 0 0 (MQ below (va_Qi (fun (r : Int32) (u : xS) => r = (f_X5_greatestPart S p0 p1 p2) ∧ u = S) (xI X) (xA X)) ([.ref (X.2.1 19), .int p0, .int p1, .int p2] : List Value).toArray s 0 0 (xA X)) (F0 m 20 ls []) := by
          intro n
          induction n with
          | zero => intro x1_20 x2_20 x3_20 x4_20 x5_20 x6_20 x7_20 hs; exact hs.elim
          | succ n ih_20 =>
            intro x1_20 x2_20 x3_20 x4_20 x5_20 x6_20 x7_20 hs_20 hex_20 H locs hP hS ls hl
            refine lv_iload hx hb dX5_greatestPart_20 (lv_at hl 6 rfl) ?_
            refine lv_bipush (v := 9) hx hb dX5_greatestPart_22 (by decide) ?_
            refine lv_icmp_gt (tgt := 64) hx hb dX5_greatestPart_24 (by decide) (fun c_3 => ?_) (fun c_3 => ?_)
            · have he_4 : f_X5_greatestPart_L20 (n + 1) S x1_20 x2_20 x3_20 x4_20 x5_20 x6_20 x7_20 = x6_20 := ((ip c_3 rfl))
              exact hex_20 _ he_4.symm _ _ hP hS ls (lv_sub hl [0, 1, 2, 3, 4, 5] rfl)
            · refine lv_iload hx hb dX5_greatestPart_27 (lv_at hl 5 rfl) ?_
              refine lv_iload_n hx hb dX5_greatestPart_29 rfl (lv_at hl 0 rfl) ?_
              refine lv_iload hx hb dX5_greatestPart_30 (lv_at hl 6 rfl) ?_
              refine xcSN_iR (As := [.int x1_20, .int x7_20]) (rest := [.int x6_20]) hC hP hS (k_X10_has l X S x1_20 x7_20) (va_cnB (host := "AbsentPraise") 2 hts gX5_greatestPart_X10_has_n49 rfl rfl rfl (xn_26 hN) (hts (.initialized RX10) (List.mem_of_getElem? (i := 6) rfl)) hs_X10_has ⟨Nat.le_of_ble_eq_true rfl, Nat.le_of_ble_eq_true rfl⟩) (hts (.static yX10_has) (List.mem_of_getElem? (i := 5) rfl)) rfl rfl hl.1 (Nat.le_of_ble_eq_true rfl) dX5_greatestPart_32 (fun r_5 hp_r_5 H locs hP hS => ?_)
              obtain ⟨hr_5, hzr_5⟩ := hp_r_5
              refine lv_if_eq (tgt := 54) hx hb dX5_greatestPart_35 (by decide) (fun c_6 => ?_) (fun c_6 => ?_)
              · refine lv_iconst (v := 0) hx hb dX5_greatestPart_54 (by decide) ?_
                refine lv_iadd hx hb dX5_greatestPart_55 ?_
                refine lv_istore (lv' := [(6, .int (x6_20 + 0)), (1, .int x1_20), (2, .int x2_20), (3, .int x3_20), (4, .int x4_20), (5, .int x5_20), (7, .int x7_20)]) hx hb dX5_greatestPart_56 hl (by decide) rfl (fun ls hl => ?_)
                refine lv_iinc (v := (x7_20 + 1)) (lv' := [(7, .int (x7_20 + 1)), (6, .int (x6_20 + 0)), (1, .int x1_20), (2, .int x2_20), (3, .int x3_20), (4, .int x4_20), (5, .int x5_20)]) hx hb dX5_greatestPart_58 hl (k := 6) rfl rfl (by decide) rfl (fun ls hl => ?_)
                refine lv_goto (tgt := 20) hx hb dX5_greatestPart_61 (by decide) ?_
                have he_7 : f_X5_greatestPart_L20 (n + 1) S x1_20 x2_20 x3_20 x4_20 x5_20 x6_20 x7_20 = f_X5_greatestPart_L20 n S x1_20 x2_20 x3_20 x4_20 x5_20 (x6_20 + 0) (x7_20 + 1) := (by have hr_5 := hr_5.symm; subst hr_5; exact (iN c_3 (ip c_6 rfl)))
                exact ih_20 x1_20 x2_20 x3_20 x4_20 x5_20 (x6_20 + 0) (x7_20 + 1) (by have hr_5 := hr_5.symm; subst hr_5; exact (sp (sn hs_20 c_3) c_6)) (fun q hq => hex_20 q (hq.trans he_7.symm)) _ _ hP hS ls (lv_sub hl [2, 3, 4, 5, 6, 1, 0] rfl)
              · refine lv_iload_n hx hb dX5_greatestPart_38 rfl (lv_at hl 1 rfl) ?_
                refine lv_iload hx hb dX5_greatestPart_39 (lv_at hl 6 rfl) ?_
                refine lv_iload_n hx hb dX5_greatestPart_41 rfl (lv_at hl 2 rfl) ?_
                refine xcSN_iR (As := [.int x2_20, .int x7_20, .int x3_20]) (rest := [.int x6_20]) hC hP hS (k_X10_words l X S x2_20 x7_20 x3_20) (va_cnB (host := "AbsentPraise") 3 hts gX5_greatestPart_X10_words_n41 rfl rfl rfl (xn_24 hN) (hts (.initialized RX10) (List.mem_of_getElem? (i := 6) rfl)) hs_X10_words ⟨Nat.le_of_ble_eq_true rfl, Nat.le_of_ble_eq_true rfl⟩) (hts (.static yX10_words) (List.mem_of_getElem? (i := 8) rfl)) rfl rfl hl.1 (Nat.le_of_ble_eq_true rfl) dX5_greatestPart_42 (fun r_8 hr_8 H locs hP hS => ?_)
                refine lv_iload hx hb dX5_greatestPart_45 (lv_at hl 4 rfl) ?_
                refine lv_icmp_ne (tgt := 54) hx hb dX5_greatestPart_47 (by decide) (fun c_9 => ?_) (fun c_9 => ?_)
                · refine lv_iconst (v := 0) hx hb dX5_greatestPart_54 (by decide) ?_
                  refine lv_iadd hx hb dX5_greatestPart_55 ?_
                  refine lv_istore (lv' := [(6, .int (x6_20 + 0)), (1, .int x1_20), (2, .int x2_20), (3, .int x3_20), (4, .int x4_20), (5, .int x5_20), (7, .int x7_20)]) hx hb dX5_greatestPart_56 hl (by decide) rfl (fun ls hl => ?_)
                  refine lv_iinc (v := (x7_20 + 1)) (lv' := [(7, .int (x7_20 + 1)), (6, .int (x6_20 + 0)), (1, .int x1_20), (2, .int x2_20), (3, .int x3_20), (4, .int x4_20), (5, .int x5_20)]) hx hb dX5_greatestPart_58 hl (k := 6) rfl rfl (by decide) rfl (fun ls hl => ?_)
                  refine lv_goto (tgt := 20) hx hb dX5_greatestPart_61 (by decide) ?_
                  have he_10 : f_X5_greatestPart_L20 (n + 1) S x1_20 x2_20 x3_20 x4_20 x5_20 x6_20 x7_20 = f_X5_greatestPart_L20 n S x1_20 x2_20 x3_20 x4_20 x5_20 (x6_20 + 0) (x7_20 + 1) := (by have hr_5 := hr_5.symm; have hr_8 := hr_8.symm; subst hr_5 hr_8; exact (iN c_3 (iN c_6 (iN c_9 rfl))))
                  exact ih_20 x1_20 x2_20 x3_20 x4_20 x5_20 (x6_20 + 0) (x7_20 + 1) (by have hr_5 := hr_5.symm; have hr_8 := hr_8.symm; subst hr_5 hr_8; exact (sn (sn (sn hs_20 c_3) c_6) c_9)) (fun q hq => hex_20 q (hq.trans he_10.symm)) _ _ hP hS ls (lv_sub hl [2, 3, 4, 5, 6, 1, 0] rfl)
                · refine lv_iconst (v := 1) hx hb dX5_greatestPart_50 (by decide) ?_
                  refine lv_goto (tgt := 55) hx hb dX5_greatestPart_51 (by decide) ?_
                  refine lv_iadd hx hb dX5_greatestPart_55 ?_
                  refine lv_istore (lv' := [(6, .int (x6_20 + 1)), (1, .int x1_20), (2, .int x2_20), (3, .int x3_20), (4, .int x4_20), (5, .int x5_20), (7, .int x7_20)]) hx hb dX5_greatestPart_56 hl (by decide) rfl (fun ls hl => ?_)
                  refine lv_iinc (v := (x7_20 + 1)) (lv' := [(7, .int (x7_20 + 1)), (6, .int (x6_20 + 1)), (1, .int x1_20), (2, .int x2_20), (3, .int x3_20), (4, .int x4_20), (5, .int x5_20)]) hx hb dX5_greatestPart_58 hl (k := 6) rfl rfl (by decide) rfl (fun ls hl => ?_)
                  refine lv_goto (tgt := 20) hx hb dX5_greatestPart_61 (by decide) ?_
                  have he_11 : f_X5_greatestPart_L20 (n + 1) S x1_20 x2_20 x3_20 x4_20 x5_20 x6_20 x7_20 = f_X5_greatestPart_L20 n S x1_20 x2_20 x3_20 x4_20 x5_20 (x6_20 + 1) (x7_20 + 1) := (by have hr_5 := hr_5.symm; have hr_8 := hr_8.symm; subst hr_5 hr_8; exact (iN c_3 (iN c_6 (ip c_9 rfl))))
                  exact ih_20 x1_20 x2_20 x3_20 x4_20 x5_20 (x6_20 + 1) (x7_20 + 1) (by have hr_5 := hr_5.symm; have hr_8 := hr_8.symm; subst hr_5 hr_8; exact (sp (sn (sn hs_20 c_3) c_6) c_9)) (fun q hq => hex_20 q (hq.trans he_11.symm)) _ _ hP hS ls (lv_sub hl [2, 3, 4, 5, 6, 1, 0] rfl)
        refine hLp_20 ((fu 0 9)) x1_7 x2_7 x3_7 x4_7 x5_7 0 0 (nl (sn hs_7 c_1)) (fun q_20 hq_20 H locs hP hS ls hl => ?_) _ _ hP hS ls (lv_sub hl [2, 3, 4, 5, 6, 1, 0] rfl)
        refine lv_iload hx hb dX5_greatestPart_64 (lv_at hl 3 rfl) ?_
        refine lv_iload hx hb dX5_greatestPart_66 (lv_at hl 5 rfl) ?_
        refine va_mmax hx hb (hml.trans hl.1.symm) hown (hts _ (List.mem_of_getElem? (i := 1) rfl)) (hts _ (List.mem_of_getElem? (i := 2) rfl)) (hts _ (List.mem_of_getElem? (i := 3) rfl)) (hts _ (List.mem_of_getElem? (i := 4) rfl)) (Nat.le_of_ble_eq_true rfl) (Nat.le_of_ble_eq_true rfl) (Nat.zero_le _) (Nat.zero_le _) dX5_greatestPart_68 ?_
        obtain ⟨r_12, hr_12⟩ : ∃ z : Int32, z = (if x4_7 < q_20 then q_20 else x4_7) := ⟨_, rfl⟩
        rw [← hr_12]
        refine lv_istore (lv' := [(4, .int r_12), (1, .int x1_7), (2, .int x2_7), (3, .int x3_7), (5, .int x5_7), (6, .int q_20)]) hx hb dX5_greatestPart_71 hl (by decide) rfl (fun ls hl => ?_)
        refine lv_iinc (v := (x5_7 + 1)) (lv' := [(5, .int (x5_7 + 1)), (4, .int r_12), (1, .int x1_7), (2, .int x2_7), (3, .int x3_7), (6, .int q_20)]) hx hb dX5_greatestPart_73 hl (k := 4) rfl rfl (by decide) rfl (fun ls hl => ?_)
        refine lv_goto (tgt := 7) hx hb dX5_greatestPart_76 (by decide) ?_
        have he_13 : f_X5_greatestPart_L7 (n + 1) S x1_7 x2_7 x3_7 x4_7 x5_7 = f_X5_greatestPart_L7 n S x1_7 x2_7 x3_7 r_12 (x5_7 + 1) := (by have hq_20 := hq_20.symm; have hr_12 := hr_12.symm; subst hq_20 hr_12; exact (iN c_1 rfl))
        exact ih_7 x1_7 x2_7 x3_7 r_12 (x5_7 + 1) (by have hq_20 := hq_20.symm; have hr_12 := hr_12.symm; subst hq_20 hr_12; exact (nr (sn hs_7 c_1))) (fun q hq => hex_7 q (hq.trans he_13.symm)) _ _ hP hS ls (lv_sub hl [2, 3, 4, 1, 0] rfl)
  refine hLp_7 ((fu (-9) 9)) p0 p1 p2 0 (-9) (nl hs) (fun q_7 hq_7 H locs hP hS ls hl => ?_) _ _ hP hS ls (lv_sub hl [3, 4, 5, 1, 0] rfl)
  refine lv_iload hx hb dX5_greatestPart_79 (lv_at hl 0 rfl) ?_
  exact xret_iR hC hP hS hb hr ((by have hq_7 := hq_7.symm; subst hq_7; exact rfl)) dX5_greatestPart_81 hlocks
theorem hs_J6_bitCount_0f7a4 : yJ6_bitCount_0f7a4.cls ≠ "java/lang/invoke/MethodHandle" ∧ yJ6_bitCount_0f7a4.cls ≠ "java/lang/invoke/VarHandle" ∧ (parseMethodDescriptor yJ6_bitCount_0f7a4.desc).map (fun d => d.parameters.length) = some 1 := by decide +kernel
set_option maxHeartbeats 4000000 in
set_option maxRecDepth 100000 in
theorem k_J6_bitCount_0f7a4 (l : Launch) (X : xX) (S : xS) (p0 : Int32) : Met l yJ6_bitCount_0f7a4 wsJ6_bitCount_0f7a4 ({ frames := 0, cells := 0, slots := 0, locals := 0 } : Room) (va_Pc [.int p0] (xI X S)) (va_Qi (fun (r : Int32) (u : xS) => r = (f_J6_bitCount_0f7a4 S p0) ∧ u = S) (xI X) (xA X)) 0 0 (xA X) := by
  refine va_MetF (cc := cJ6_bitCount_0f7a4) (maxL := 1) (ret := (some .int)) (by decide +kernel) rfl ?_
  intro p e s m args below meth c s₁ B hml hv
  obtain ⟨rfl, hP, hK, hN, hJ⟩ := hv
  have hx := B.exec
  have hb := B.bytes
  have hr := B.returns
  have hts := atoms_spec (ws := wsJ6_bitCount_0f7a4) B.pre
  have hown : s.vm.findClass RJ6 = some m.cls := findClass_of_methodNamed B.named
  have hlocks := B.notSynchronized
  have hC : xC X p m c cJ6_bitCount_0f7a4 1 s _ wsJ6_bitCount_0f7a4 RJ6 := ⟨⟨hx, hb, hml, hown, hts⟩, hK, hN, hJ⟩
  have hS : va_S (xA X) s.heap s.heap [] := va_S.rf
  have hl := lv_entry ([.int p0]) (n := 1) (Nat.le_of_ble_eq_true rfl)
  rw [lg_entry_eq]
  generalize (lg_sl ([.int p0]) ++ List.replicate (1 - (lg_sl ([.int p0])).length) Slot.unset).toArray = ls at hl ⊢
  have hl : lv_has ls 1 [(0, .int p0)] := hl
  refine lv_iload_n hx hb dJ6_bitCount_0f7a4_0 rfl (lv_at hl 0 rfl) ?_
  refine lv_iload_n hx hb dJ6_bitCount_0f7a4_1 rfl (lv_at hl 0 rfl) ?_
  refine lv_iconst (v := 1) hx hb dJ6_bitCount_0f7a4_2 (by decide) ?_
  refine lv_iushr (v := ((p0).toUInt32 >>> ((1 : Int32).toUInt32 &&& Int32.toUInt32 31)).toInt32) hx hb dJ6_bitCount_0f7a4_3 rfl ?_
  refine lv_ldcw (v := 1431655765) hx hb hown (hts (.constant RJ6 265 (1431655765)) (List.mem_of_getElem? (i := 1) rfl)) dJ6_bitCount_0f7a4_4 ?_
  refine lv_iand hx hb dJ6_bitCount_0f7a4_7 ?_
  refine lv_isub hx hb dJ6_bitCount_0f7a4_8 ?_
  refine lv_istore_n (lv' := [(0, .int (p0 - ((((p0).toUInt32 >>> ((1 : Int32).toUInt32 &&& Int32.toUInt32 31)).toInt32) &&& 1431655765)))]) hx hb dJ6_bitCount_0f7a4_9 rfl hl (by decide) rfl (fun ls hl => ?_)
  refine lv_iload_n hx hb dJ6_bitCount_0f7a4_10 rfl (lv_at hl 0 rfl) ?_
  refine lv_ldcw (v := 858993459) hx hb hown (hts (.constant RJ6 266 (858993459)) (List.mem_of_getElem? (i := 2) rfl)) dJ6_bitCount_0f7a4_11 ?_
  refine lv_iand hx hb dJ6_bitCount_0f7a4_14 ?_
  refine lv_iload_n hx hb dJ6_bitCount_0f7a4_15 rfl (lv_at hl 0 rfl) ?_
  refine lv_iconst (v := 2) hx hb dJ6_bitCount_0f7a4_16 (by decide) ?_
  refine lv_iushr (v := (((p0 - ((((p0).toUInt32 >>> ((1 : Int32).toUInt32 &&& Int32.toUInt32 31)).toInt32) &&& 1431655765))).toUInt32 >>> ((2 : Int32).toUInt32 &&& Int32.toUInt32 31)).toInt32) hx hb dJ6_bitCount_0f7a4_17 rfl ?_
  refine lv_ldcw (v := 858993459) hx hb hown (hts (.constant RJ6 266 (858993459)) (List.mem_of_getElem? (i := 2) rfl)) dJ6_bitCount_0f7a4_18 ?_
  refine lv_iand hx hb dJ6_bitCount_0f7a4_21 ?_
  refine lv_iadd hx hb dJ6_bitCount_0f7a4_22 ?_
  refine lv_istore_n (lv' := [(0, .int (((p0 - ((((p0).toUInt32 >>> ((1 : Int32).toUInt32 &&& Int32.toUInt32 31)).toInt32) &&& 1431655765)) &&& 858993459) + (((((p0 - ((((p0).toUInt32 >>> ((1 : Int32).toUInt32 &&& Int32.toUInt32 31)).toInt32) &&& 1431655765))).toUInt32 >>> ((2 : Int32).toUInt32 &&& Int32.toUInt32 31)).toInt32) &&& 858993459)))]) hx hb dJ6_bitCount_0f7a4_23 rfl hl (by decide) rfl (fun ls hl => ?_)
  refine lv_iload_n hx hb dJ6_bitCount_0f7a4_24 rfl (lv_at hl 0 rfl) ?_
  refine lv_iload_n hx hb dJ6_bitCount_0f7a4_25 rfl (lv_at hl 0 rfl) ?_
  refine lv_iconst (v := 4) hx hb dJ6_bitCount_0f7a4_26 (by decide) ?_
  refine lv_iushr (v := (((((p0 - ((((p0).toUInt32 >>> ((1 : Int32).toUInt32 &&& Int32.toUInt32 31)).toInt32) &&& 1431655765)) &&& 858993459) + (((((p0 - ((((p0).toUInt32 >>> ((1 : Int32).toUInt32 &&& Int32.toUInt32 31)).toInt32) &&& 1431655765))).toUInt32 >>> ((2 : Int32).toUInt32 &&& Int32.toUInt32 31)).toInt32) &&& 858993459))).toUInt32 >>> ((4 : Int32).toUInt32 &&& Int32.toUInt32 31)).toInt32) hx hb dJ6_bitCount_0f7a4_27 rfl ?_
  refine lv_iadd hx hb dJ6_bitCount_0f7a4_28 ?_
  refine lv_ldcw (v := 252645135) hx hb hown (hts (.constant RJ6 267 (252645135)) (List.mem_of_getElem? (i := 3) rfl)) dJ6_bitCount_0f7a4_29 ?_
  refine lv_iand hx hb dJ6_bitCount_0f7a4_32 ?_
  refine lv_istore_n (lv' := [(0, .int (((((p0 - ((((p0).toUInt32 >>> ((1 : Int32).toUInt32 &&& Int32.toUInt32 31)).toInt32) &&& 1431655765)) &&& 858993459) + (((((p0 - ((((p0).toUInt32 >>> ((1 : Int32).toUInt32 &&& Int32.toUInt32 31)).toInt32) &&& 1431655765))).toUInt32 >>> ((2 : Int32).toUInt32 &&& Int32.toUInt32 31)).toInt32) &&& 858993459)) + ((((((p0 - ((((p0).toUInt32 >>> ((1 : Int32).toUInt32 &&& Int32.toUInt32 31)).toInt32) &&& 1431655765)) &&& 858993459) + (((((p0 - ((((p0).toUInt32 >>> ((1 : Int32).toUInt32 &&& Int32.toUInt32 31)).toInt32) &&& 1431655765))).toUInt32 >>> ((2 : Int32).toUInt32 &&& Int32.toUInt32 31)).toInt32) &&& 858993459))).toUInt32 >>> ((4 : Int32).toUInt32 &&& Int32.toUInt32 31)).toInt32)) &&& 252645135))]) hx hb dJ6_bitCount_0f7a4_33 rfl hl (by decide) rfl (fun ls hl => ?_)
  refine lv_iload_n hx hb dJ6_bitCount_0f7a4_34 rfl (lv_at hl 0 rfl) ?_
  refine lv_iload_n hx hb dJ6_bitCount_0f7a4_35 rfl (lv_at hl 0 rfl) ?_
  refine lv_bipush (v := 8) hx hb dJ6_bitCount_0f7a4_36 (by decide) ?_
  refine lv_iushr (v := (((((((p0 - ((((p0).toUInt32 >>> ((1 : Int32).toUInt32 &&& Int32.toUInt32 31)).toInt32) &&& 1431655765)) &&& 858993459) + (((((p0 - ((((p0).toUInt32 >>> ((1 : Int32).toUInt32 &&& Int32.toUInt32 31)).toInt32) &&& 1431655765))).toUInt32 >>> ((2 : Int32).toUInt32 &&& Int32.toUInt32 31)).toInt32) &&& 858993459)) + ((((((p0 - ((((p0).toUInt32 >>> ((1 : Int32).toUInt32 &&& Int32.toUInt32 31)).toInt32) &&& 1431655765)) &&& 858993459) + (((((p0 - ((((p0).toUInt32 >>> ((1 : Int32).toUInt32 &&& Int32.toUInt32 31)).toInt32) &&& 1431655765))).toUInt32 >>> ((2 : Int32).toUInt32 &&& Int32.toUInt32 31)).toInt32) &&& 858993459))).toUInt32 >>> ((4 : Int32).toUInt32 &&& Int32.toUInt32 31)).toInt32)) &&& 252645135)).toUInt32 >>> ((8 : Int32).toUInt32 &&& Int32.toUInt32 31)).toInt32) hx hb dJ6_bitCount_0f7a4_38 rfl ?_
  refine lv_iadd hx hb dJ6_bitCount_0f7a4_39 ?_
  refine lv_istore_n (lv' := [(0, .int ((((((p0 - ((((p0).toUInt32 >>> ((1 : Int32).toUInt32 &&& Int32.toUInt32 31)).toInt32) &&& 1431655765)) &&& 858993459) + (((((p0 - ((((p0).toUInt32 >>> ((1 : Int32).toUInt32 &&& Int32.toUInt32 31)).toInt32) &&& 1431655765))).toUInt32 >>> ((2 : Int32).toUInt32 &&& Int32.toUInt32 31)).toInt32) &&& 858993459)) + ((((((p0 - ((((p0).toUInt32 >>> ((1 : Int32).toUInt32 &&& Int32.toUInt32 31)).toInt32) &&& 1431655765)) &&& 858993459) + (((((p0 - ((((p0).toUInt32 >>> ((1 : Int32).toUInt32 &&& Int32.toUInt32 31)).toInt32) &&& 1431655765))).toUInt32 >>> ((2 : Int32).toUInt32 &&& Int32.toUInt32 31)).toInt32) &&& 858993459))).toUInt32 >>> ((4 : Int32).toUInt32 &&& Int32.toUInt32 31)).toInt32)) &&& 252645135) + ((((((((p0 - ((((p0).toUInt32 >>> ((1 : Int32).toUInt32 &&& Int32.toUInt32 31)).toInt32) &&& 1431655765)) &&& 858993459) + (((((p0 - ((((p0).toUInt32 >>> ((1 : Int32).toUInt32 &&& Int32.toUInt32 31)).toInt32) &&& 1431655765))).toUInt32 >>> ((2 : Int32).toUInt32 &&& Int32.toUInt32 31)).toInt32) &&& 858993459)) + ((((((p0 - ((((p0).toUInt32 >>> ((1 : Int32).toUInt32 &&& Int32.toUInt32 31)).toInt32) &&& 1431655765)) &&& 858993459) + (((((p0 - ((((p0).toUInt32 >>> ((1 : Int32).toUInt32 &&& Int32.toUInt32 31)).toInt32) &&& 1431655765))).toUInt32 >>> ((2 : Int32).toUInt32 &&& Int32.toUInt32 31)).toInt32) &&& 858993459))).toUInt32 >>> ((4 : Int32).toUInt32 &&& Int32.toUInt32 31)).toInt32)) &&& 252645135)).toUInt32 >>> ((8 : Int32).toUInt32 &&& Int32.toUInt32 31)).toInt32)))]) hx hb dJ6_bitCount_0f7a4_40 rfl hl (by decide) rfl (fun ls hl => ?_)
  refine lv_iload_n hx hb dJ6_bitCount_0f7a4_41 rfl (lv_at hl 0 rfl) ?_
  refine lv_iload_n hx hb dJ6_bitCount_0f7a4_42 rfl (lv_at hl 0 rfl) ?_
  refine lv_bipush (v := 16) hx hb dJ6_bitCount_0f7a4_43 (by decide) ?_
  refine lv_iushr (v := ((((((((p0 - ((((p0).toUInt32 >>> ((1 : Int32).toUInt32 &&& Int32.toUInt32 31)).toInt32) &&& 1431655765)) &&& 858993459) + (((((p0 - ((((p0).toUInt32 >>> ((1 : Int32).toUInt32 &&& Int32.toUInt32 31)).toInt32) &&& 1431655765))).toUInt32 >>> ((2 : Int32).toUInt32 &&& Int32.toUInt32 31)).toInt32) &&& 858993459)) + ((((((p0 - ((((p0).toUInt32 >>> ((1 : Int32).toUInt32 &&& Int32.toUInt32 31)).toInt32) &&& 1431655765)) &&& 858993459) + (((((p0 - ((((p0).toUInt32 >>> ((1 : Int32).toUInt32 &&& Int32.toUInt32 31)).toInt32) &&& 1431655765))).toUInt32 >>> ((2 : Int32).toUInt32 &&& Int32.toUInt32 31)).toInt32) &&& 858993459))).toUInt32 >>> ((4 : Int32).toUInt32 &&& Int32.toUInt32 31)).toInt32)) &&& 252645135) + ((((((((p0 - ((((p0).toUInt32 >>> ((1 : Int32).toUInt32 &&& Int32.toUInt32 31)).toInt32) &&& 1431655765)) &&& 858993459) + (((((p0 - ((((p0).toUInt32 >>> ((1 : Int32).toUInt32 &&& Int32.toUInt32 31)).toInt32) &&& 1431655765))).toUInt32 >>> ((2 : Int32).toUInt32 &&& Int32.toUInt32 31)).toInt32) &&& 858993459)) + ((((((p0 - ((((p0).toUInt32 >>> ((1 : Int32).toUInt32 &&& Int32.toUInt32 31)).toInt32) &&& 1431655765)) &&& 858993459) + (((((p0 - ((((p0).toUInt32 >>> ((1 : Int32).toUInt32 &&& Int32.toUInt32 31)).toInt32) &&& 1431655765))).toUInt32 >>> ((2 : Int32).toUInt32 &&& Int32.toUInt32 31)).toInt32) &&& 858993459))).toUInt32 >>> ((4 : Int32).toUInt32 &&& Int32.toUInt32 31)).toInt32)) &&& 252645135)).toUInt32 >>> ((8 : Int32).toUInt32 &&& Int32.toUInt32 31)).toInt32))).toUInt32 >>> ((16 : Int32).toUInt32 &&& Int32.toUInt32 31)).toInt32) hx hb dJ6_bitCount_0f7a4_45 rfl ?_
  refine lv_iadd hx hb dJ6_bitCount_0f7a4_46 ?_
  refine lv_istore_n (lv' := [(0, .int (((((((p0 - ((((p0).toUInt32 >>> ((1 : Int32).toUInt32 &&& Int32.toUInt32 31)).toInt32) &&& 1431655765)) &&& 858993459) + (((((p0 - ((((p0).toUInt32 >>> ((1 : Int32).toUInt32 &&& Int32.toUInt32 31)).toInt32) &&& 1431655765))).toUInt32 >>> ((2 : Int32).toUInt32 &&& Int32.toUInt32 31)).toInt32) &&& 858993459)) + ((((((p0 - ((((p0).toUInt32 >>> ((1 : Int32).toUInt32 &&& Int32.toUInt32 31)).toInt32) &&& 1431655765)) &&& 858993459) + (((((p0 - ((((p0).toUInt32 >>> ((1 : Int32).toUInt32 &&& Int32.toUInt32 31)).toInt32) &&& 1431655765))).toUInt32 >>> ((2 : Int32).toUInt32 &&& Int32.toUInt32 31)).toInt32) &&& 858993459))).toUInt32 >>> ((4 : Int32).toUInt32 &&& Int32.toUInt32 31)).toInt32)) &&& 252645135) + ((((((((p0 - ((((p0).toUInt32 >>> ((1 : Int32).toUInt32 &&& Int32.toUInt32 31)).toInt32) &&& 1431655765)) &&& 858993459) + (((((p0 - ((((p0).toUInt32 >>> ((1 : Int32).toUInt32 &&& Int32.toUInt32 31)).toInt32) &&& 1431655765))).toUInt32 >>> ((2 : Int32).toUInt32 &&& Int32.toUInt32 31)).toInt32) &&& 858993459)) + ((((((p0 - ((((p0).toUInt32 >>> ((1 : Int32).toUInt32 &&& Int32.toUInt32 31)).toInt32) &&& 1431655765)) &&& 858993459) + (((((p0 - ((((p0).toUInt32 >>> ((1 : Int32).toUInt32 &&& Int32.toUInt32 31)).toInt32) &&& 1431655765))).toUInt32 >>> ((2 : Int32).toUInt32 &&& Int32.toUInt32 31)).toInt32) &&& 858993459))).toUInt32 >>> ((4 : Int32).toUInt32 &&& Int32.toUInt32 31)).toInt32)) &&& 252645135)).toUInt32 >>> ((8 : Int32).toUInt32 &&& Int32.toUInt32 31)).toInt32)) + (((((((((p0 - ((((p0).toUInt32 >>> ((1 : Int32).toUInt32 &&& Int32.toUInt32 31)).toInt32) &&& 1431655765)) &&& 858993459) + (((((p0 - ((((p0).toUInt32 >>> ((1 : Int32).toUInt32 &&& Int32.toUInt32 31)).toInt32) &&& 1431655765))).toUInt32 >>> ((2 : Int32).toUInt32 &&& Int32.toUInt32 31)).toInt32) &&& 858993459)) + ((((((p0 - ((((p0).toUInt32 >>> ((1 : Int32).toUInt32 &&& Int32.toUInt32 31)).toInt32) &&& 1431655765)) &&& 858993459) + (((((p0 - ((((p0).toUInt32 >>> ((1 : Int32).toUInt32 &&& Int32.toUInt32 31)).toInt32) &&& 1431655765))).toUInt32 >>> ((2 : Int32).toUInt32 &&& Int32.toUInt32 31)).toInt32) &&& 858993459))).toUInt32 >>> ((4 : Int32).toUInt32 &&& Int32.toUInt32 31)).toInt32)) &&& 252645135) + ((((((((p0 - ((((p0).toUInt32 >>> ((1 : Int32).toUInt32 &&& Int32.toUInt32 31)).toInt32) &&& 1431655765)) &&& 858993459) + (((((p0 - ((((p0).toUInt32 >>> ((1 : Int32).toUInt32 &&& Int32.toUInt32 31)).toInt32) &&& 1431655765))).toUInt32 >>> ((2 : Int32).toUInt32 &&& Int32.toUInt32 31)).toInt32) &&& 858993459)) + ((((((p0 - ((((p0).toUInt32 >>> ((1 : Int32).toUInt32 &&& Int32.toUInt32 31)).toInt32) &&& 1431655765)) &&& 858993459) + (((((p0 - ((((p0).toUInt32 >>> ((1 : Int32).toUInt32 &&& Int32.toUInt32 31)).toInt32) &&& 1431655765))).toUInt32 >>> ((2 : Int32).toUInt32 &&& Int32.toUInt32 31)).toInt32) &&& 858993459))).toUInt32 >>> ((4 : Int32).toUInt32 &&& Int32.toUInt32 31)).toInt32)) &&& 252645135)).toUInt32 >>> ((8 : Int32).toUInt32 &&& Int32.toUInt32 31)).toInt32))).toUInt32 >>> ((16 : Int32).toUInt32 &&& Int32.toUInt32 31)).toInt32)))]) hx hb dJ6_bitCount_0f7a4_47 rfl hl (by decide) rfl (fun ls hl => ?_)
  refine lv_iload_n hx hb dJ6_bitCount_0f7a4_48 rfl (lv_at hl 0 rfl) ?_
  refine lv_bipush (v := 63) hx hb dJ6_bitCount_0f7a4_49 (by decide) ?_
  refine lv_iand hx hb dJ6_bitCount_0f7a4_51 ?_
  exact xret_iR hC hP hS hb hr ((rfl)) dJ6_bitCount_0f7a4_52 hlocks
theorem hd_X5_bestQuestion : yX5_bestQuestion.cls = RX5 ∧ yX5_bestQuestion.cls ≠ "java/lang/invoke/MethodHandle" ∧ yX5_bestQuestion.cls ≠ "java/lang/invoke/VarHandle" ∧ (parseMethodDescriptor yX5_bestQuestion.desc).map (fun d => d.parameters.length) = some 1 := by decide +kernel
set_option maxHeartbeats 4000000 in
set_option maxRecDepth 100000 in
theorem k_X5_bestQuestion (l : Launch) (X : xX) (S : xS) (p0 : Int32) (hs : s_X5_bestQuestion S p0) : Met l yX5_bestQuestion wsX5_bestQuestion ({ frames := 3, cells := 0, slots := 0, locals := 67 } : Room) (va_Pc [.ref (X.2.1 19), .int p0] (xI X S)) (va_Qi (fun (r : Int32) (u : xS) => r = (f_X5_bestQuestion S p0) ∧ u = S) (xI X) (xA X)) 0 0 (xA X) := by
  refine Met.ofW (cc := cX5_bestQuestion) (maxL := 5) (ret := (some .int)) (by decide +kernel) rfl ?_
  intro p e s m args below meth c s₁ B hml hv
  obtain ⟨rfl, hP, hK, hN, hJ⟩ := hv
  have hx := B.exec
  have hb := B.bytes
  have hr := B.returns
  have hts := atoms_spec (ws := wsX5_bestQuestion) B.pre
  have hown : s.vm.findClass RX5 = some m.cls := findClass_of_methodNamed B.named
  have hlocks := B.notSynchronized
  have hC : xC X p m c cX5_bestQuestion 5 s _ wsX5_bestQuestion RX5 := ⟨⟨hx, hb, hml, hown, hts⟩, hK, hN, hJ⟩
  have hS : va_S (xA X) s.heap s.heap [] := va_S.rf
  have hl := lv_entry ([.ref (X.2.1 19), .int p0]) (n := 5) (Nat.le_of_ble_eq_true rfl)
  rw [lg_entry_eq]
  generalize (lg_sl ([.ref (X.2.1 19), .int p0]) ++ List.replicate (5 - (lg_sl ([.ref (X.2.1 19), .int p0])).length) Slot.unset).toArray = ls at hl ⊢
  have hl : lv_has ls 5 [(0, .ref (X.2.1 19)), (1, .int p0)] := hl
  refine lv_aload_n hx hb dX5_bestQuestion_0 rfl (lv_at hl 0 rfl) ?_
  have hn_1 : s_X5_fitting S := (nl hs)
  refine xcV_iR (b := 19) (As := []) (rest := []) hC hP hS (k_X5_fitting l X S hn_1) (cwV 0 hts gX5_bestQuestion_X5_fitting rfl rfl rfl hd_X5_fitting ⟨Nat.le_of_ble_eq_true rfl, Nat.le_of_ble_eq_true rfl⟩) xo_X5 rfl rfl rfl hl.1 (Nat.le_of_ble_eq_true rfl) dX5_bestQuestion_1 (fun r_2 hr_2 H locs hP hS => ?_)
  refine lv_istore_n (lv' := [(2, .int r_2), (0, .ref (X.2.1 19)), (1, .int p0)]) hx hb dX5_bestQuestion_4 rfl hl (by decide) rfl (fun ls hl => ?_)
  refine lv_aload_n hx hb dX5_bestQuestion_5 rfl (lv_at hl 1 rfl) ?_
  refine lv_iload_n hx hb dX5_bestQuestion_6 rfl (lv_at hl 0 rfl) ?_
  refine lv_iload_n hx hb dX5_bestQuestion_7 rfl (lv_at hl 2 rfl) ?_
  refine lv_iconst (v := 0) hx hb dX5_bestQuestion_8 (by decide) ?_
  have hn_3 : s_X5_greatestPart S r_2 p0 0 := (by have hr_2 := hr_2.symm; subst hr_2; exact nl (nr hs))
  refine xcV_iR (b := 19) (As := [.int r_2, .int p0, .int 0]) (rest := []) hC hP hS (k_X5_greatestPart l X S r_2 p0 0 hn_3) (cwV 3 hts gX5_bestQuestion_X5_greatestPart rfl rfl rfl hd_X5_greatestPart ⟨Nat.le_of_ble_eq_true rfl, Nat.le_of_ble_eq_true rfl⟩) xo_X5 rfl rfl rfl hl.1 (Nat.le_of_ble_eq_true rfl) dX5_bestQuestion_9 (fun r_4 hr_4 H locs hP hS => ?_)
  refine lv_istore_n (lv' := [(3, .int r_4), (2, .int r_2), (0, .ref (X.2.1 19)), (1, .int p0)]) hx hb dX5_bestQuestion_12 rfl hl (by decide) rfl (fun ls hl => ?_)
  refine lv_aload_n hx hb dX5_bestQuestion_13 rfl (lv_at hl 2 rfl) ?_
  refine lv_iload_n hx hb dX5_bestQuestion_14 rfl (lv_at hl 1 rfl) ?_
  refine lv_iload_n hx hb dX5_bestQuestion_15 rfl (lv_at hl 3 rfl) ?_
  refine lv_iconst (v := 1) hx hb dX5_bestQuestion_16 (by decide) ?_
  have hn_5 : s_X5_greatestPart S r_2 p0 1 := (by have hr_2 := hr_2.symm; have hr_4 := hr_4.symm; subst hr_2 hr_4; exact nl (nr (nr hs)))
  refine xcV_iR (b := 19) (As := [.int r_2, .int p0, .int 1]) (rest := []) hC hP hS (k_X5_greatestPart l X S r_2 p0 1 hn_5) (cwV 3 hts gX5_bestQuestion_X5_greatestPart rfl rfl rfl hd_X5_greatestPart ⟨Nat.le_of_ble_eq_true rfl, Nat.le_of_ble_eq_true rfl⟩) xo_X5 rfl rfl rfl hl.1 (Nat.le_of_ble_eq_true rfl) dX5_bestQuestion_17 (fun r_6 hr_6 H locs hP hS => ?_)
  refine lv_istore (lv' := [(4, .int r_6), (3, .int r_4), (2, .int r_2), (0, .ref (X.2.1 19)), (1, .int p0)]) hx hb dX5_bestQuestion_20 hl (by decide) rfl (fun ls hl => ?_)
  refine lv_iload_n hx hb dX5_bestQuestion_22 rfl (lv_at hl 1 rfl) ?_
  refine lv_iload hx hb dX5_bestQuestion_23 (lv_at hl 0 rfl) ?_
  refine va_mmin hx hb (hml.trans hl.1.symm) hown (hts _ (List.mem_of_getElem? (i := 1) rfl)) (hts _ (List.mem_of_getElem? (i := 2) rfl)) (hts _ (List.mem_of_getElem? (i := 3) rfl)) (hts _ (List.mem_of_getElem? (i := 4) rfl)) (Nat.le_of_ble_eq_true rfl) (Nat.le_of_ble_eq_true rfl) (Nat.zero_le _) (Nat.zero_le _) dX5_bestQuestion_25 ?_
  obtain ⟨r_7, hr_7⟩ : ∃ z : Int32, z = (if r_6 < r_4 then r_6 else r_4) := ⟨_, rfl⟩
  rw [← hr_7]
  refine lv_iload_n hx hb dX5_bestQuestion_28 rfl (lv_at hl 2 rfl) ?_
  refine xcS_iR (As := [.int r_2]) (rest := [.int r_7]) hC hP hS (k_J6_bitCount_0f7a4 l X S r_2) (va_cwS 1 hts gX5_bestQuestion_J6_bitCount_0f7a4 rfl rfl rfl hs_J6_bitCount_0f7a4 ⟨Nat.le_of_ble_eq_true rfl, Nat.le_of_ble_eq_true rfl⟩) rfl rfl hl.1 (Nat.le_of_ble_eq_true rfl) dX5_bestQuestion_29 (fun r_8 hr_8 H locs hP hS => ?_)
  refine lv_icmp_lt (tgt := 37) hx hb dX5_bestQuestion_32 (by decide) (fun c_9 => ?_) (fun c_9 => ?_)
  · refine lv_iload hx hb dX5_bestQuestion_37 (lv_at hl 0 rfl) ?_
    refine lv_iload_n hx hb dX5_bestQuestion_39 rfl (lv_at hl 1 rfl) ?_
    refine lv_icmp_ge (tgt := 47) hx hb dX5_bestQuestion_40 (by decide) (fun c_10 => ?_) (fun c_10 => ?_)
    · refine lv_iconst (v := 0) hx hb dX5_bestQuestion_47 (by decide) ?_
      exact xret_iR hC hP hS hb hr ((by have hr_2 := hr_2.symm; have hr_4 := hr_4.symm; have hr_6 := hr_6.symm; have hr_7 := hr_7.symm; have hr_8 := hr_8.symm; subst hr_2 hr_4 hr_6 hr_7 hr_8; exact (ip c_9 (ip c_10 rfl)))) dX5_bestQuestion_48 hlocks
    · refine lv_iconst (v := 1) hx hb dX5_bestQuestion_43 (by decide) ?_
      refine lv_goto (tgt := 48) hx hb dX5_bestQuestion_44 (by decide) ?_
      exact xret_iR hC hP hS hb hr ((by have hr_2 := hr_2.symm; have hr_4 := hr_4.symm; have hr_6 := hr_6.symm; have hr_7 := hr_7.symm; have hr_8 := hr_8.symm; subst hr_2 hr_4 hr_6 hr_7 hr_8; exact (ip c_9 (iN c_10 rfl)))) dX5_bestQuestion_48 hlocks
  · refine lv_iconst (v := (-1)) hx hb dX5_bestQuestion_35 (by decide) ?_
    exact xret_iR hC hP hS hb hr ((by have hr_2 := hr_2.symm; have hr_4 := hr_4.symm; have hr_6 := hr_6.symm; have hr_7 := hr_7.symm; have hr_8 := hr_8.symm; subst hr_2 hr_4 hr_6 hr_7 hr_8; exact (iN c_9 rfl))) dX5_bestQuestion_36 hlocks
theorem hd_X6_slotAt : yX6_slotAt.cls = RX6 ∧ yX6_slotAt.cls ≠ "java/lang/invoke/MethodHandle" ∧ yX6_slotAt.cls ≠ "java/lang/invoke/VarHandle" ∧ (parseMethodDescriptor yX6_slotAt.desc).map (fun d => d.parameters.length) = some 1 := by decide +kernel
set_option maxHeartbeats 4000000 in
set_option maxRecDepth 100000 in
theorem k_X6_slotAt (l : Launch) (X : xX) (S : xS) (p0 : Int32) : Met l yX6_slotAt wsX6_slotAt ({ frames := 0, cells := 0, slots := 0, locals := 0 } : Room) (va_Pc [.ref (X.2.1 27), .int p0] (xI X S)) (va_Qq (fun (r : Option Nat) (u : xS) => r = (f_X6_slotAt S p0).map X.2.1 ∧ u = S) (xI X) (xA X)) 0 0 (xA X) := by
  refine Met.ofW (cc := cX6_slotAt) (maxL := 2) (ret := (some (.object "AbsentPraise$Talk"))) (by decide +kernel) rfl ?_
  intro p e s m args below meth c s₁ B hml hv
  obtain ⟨rfl, hP, hK, hN, hJ⟩ := hv
  have hx := B.exec
  have hb := B.bytes
  have hr := B.returns
  have hts := atoms_spec (ws := wsX6_slotAt) B.pre
  have hown : s.vm.findClass RX6 = some m.cls := findClass_of_methodNamed B.named
  have hlocks := B.notSynchronized
  have hC : xC X p m c cX6_slotAt 2 s _ wsX6_slotAt RX6 := ⟨⟨hx, hb, hml, hown, hts⟩, hK, hN, hJ⟩
  have hS : va_S (xA X) s.heap s.heap [] := va_S.rf
  have hin_X6 : ∀ w ∈ u_ws RX6 TX6 3, w ∈ wsX6_slotAt := by decide +kernel
  have hl := lv_entry ([.ref (X.2.1 27), .int p0]) (n := 2) (Nat.le_of_ble_eq_true rfl)
  rw [lg_entry_eq]
  generalize (lg_sl ([.ref (X.2.1 27), .int p0]) ++ List.replicate (2 - (lg_sl ([.ref (X.2.1 27), .int p0])).length) Slot.unset).toArray = ls at hl ⊢
  have hl : lv_has ls 2 [(0, .ref (X.2.1 27)), (1, .int p0)] := hl
  refine lv_iload_n hx hb dX6_slotAt_0 rfl (lv_at hl 1 rfl) ?_
  refine lv_if_lt (tgt := 22) hx hb dX6_slotAt_1 (by decide) (fun c_1 => ?_) (fun c_1 => ?_)
  · refine lv_null hx hb dX6_slotAt_22 ?_
    exact xret_qN hC hP hS hb hr (.inl ⟨_, rfl⟩) (((ip c_1 rfl))) dX6_slotAt_23 hlocks
  · refine lv_iload_n hx hb dX6_slotAt_4 rfl (lv_at hl 1 rfl) ?_
    refine lv_aload_n hx hb dX6_slotAt_5 rfl (lv_at hl 0 rfl) ?_
    refine xget (ref := "AbsentPraise$Past") (T := TX6) (v := .ref (X.2.1 28)) hC hP hin_X6 xo_X6 rfl 0 (by decide) (List.mem_of_getElem? (i := 1) rfl) rfl rfl dX6_slotAt_6 ?_
    refine xalen28 hC hP dX6_slotAt_9 ?_
    refine lv_icmp_ge (tgt := 22) hx hb dX6_slotAt_10 (by decide) (fun c_2 => ?_) (fun c_2 => ?_)
    · refine lv_null hx hb dX6_slotAt_22 ?_
      exact xret_qN hC hP hS hb hr (.inl ⟨_, rfl⟩) (((iN c_1 (ip c_2 rfl)))) dX6_slotAt_23 hlocks
    · refine lv_aload_n hx hb dX6_slotAt_13 rfl (lv_at hl 0 rfl) ?_
      refine xget (ref := "AbsentPraise$Past") (T := TX6) (v := .ref (X.2.1 28)) hC hP hin_X6 xo_X6 rfl 0 (by decide) (List.mem_of_getElem? (i := 1) rfl) rfl rfl dX6_slotAt_14 ?_
      refine lv_iload_n hx hb dX6_slotAt_17 rfl (lv_at hl 1 rfl) ?_
      refine xaald28 hC hP (vp_of (by decide) c_1 c_2) dX6_slotAt_18 (fun hk_3 => ?_)
      refine lv_goto (tgt := 23) hx hb dX6_slotAt_19 (by decide) ?_
      exact xret_q hC hP hS hb hr (.inl ⟨_, rfl⟩) (((iN c_1 (iN c_2 rfl)))) dX6_slotAt_23 hlocks
