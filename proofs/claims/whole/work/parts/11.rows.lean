set_option linter.all false
/-! contracts: X2_isRoom, X2_isPerson, X2_isPair, X10_has, X2_isBench, X2_isWay, X10_bit, X2_addBench, X2_addWay, X2_addPerson, X10_pairIndex, X2_addLiking -/
theorem hd_X2_isRoom : yX2_isRoom.cls = RX2 ∧ yX2_isRoom.cls ≠ "java/lang/invoke/MethodHandle" ∧ yX2_isRoom.cls ≠ "java/lang/invoke/VarHandle" ∧ (parseMethodDescriptor yX2_isRoom.desc).map (fun d => d.parameters.length) = some 1 := by decide +kernel
set_option maxHeartbeats 4000000 in
set_option maxRecDepth 100000 in
theorem k_X2_isRoom (l : Launch) (X : xX) (S : xS) (b : Nat) (p0 : Int32) (hb0 : isH b = true) : Met l yX2_isRoom wsX2_isRoom ({ frames := 0, cells := 0, slots := 0, locals := 0 } : Room) (va_Pc [.ref (X.2.1 b), .int p0] (xI X S)) (va_Qi (fun (r : Int32) (u : xS) => (r = (f_X2_isRoom S b p0) ∧ (r = 0 ∨ r = 1)) ∧ u = S) (xI X) (xA X)) 0 0 (xA X) := by
  refine Met.ofW (cc := cX2_isRoom) (maxL := 2) (ret := (some .boolean)) (by decide +kernel) rfl ?_
  intro p e s m args below meth c s₁ B hml hv
  obtain ⟨rfl, hP, hK, hN, hJ⟩ := hv
  have hx := B.exec
  have hb := B.bytes
  have hr := B.returns
  have hts := atoms_spec (ws := wsX2_isRoom) B.pre
  have hown : s.vm.findClass RX2 = some m.cls := findClass_of_methodNamed B.named
  have hlocks := B.notSynchronized
  have hC : xC X p m c cX2_isRoom 2 s _ wsX2_isRoom RX2 := ⟨⟨hx, hb, hml, hown, hts⟩, hK, hN, hJ⟩
  have hS : va_S (xA X) s.heap s.heap [] := va_S.rf
  have hin_X2 : ∀ w ∈ u_ws RX2 TX2 10, w ∈ wsX2_isRoom := by decide +kernel
  have hl := lv_entry ([.ref (X.2.1 b), .int p0]) (n := 2) (Nat.le_of_ble_eq_true rfl)
  rw [lg_entry_eq]
  generalize (lg_sl ([.ref (X.2.1 b), .int p0]) ++ List.replicate (2 - (lg_sl ([.ref (X.2.1 b), .int p0])).length) Slot.unset).toArray = ls at hl ⊢
  have hl : lv_has ls 2 [(0, .ref (X.2.1 b)), (1, .int p0)] := hl
  refine lv_iload_n hx hb dX2_isRoom_0 rfl (lv_at hl 1 rfl) ?_
  refine lv_if_lt (tgt := 16) hx hb dX2_isRoom_1 (by decide) (fun c_1 => ?_) (fun c_1 => ?_)
  · refine lv_iconst (v := 0) hx hb dX2_isRoom_16 (by decide) ?_
    exact xret_zR hC hP hS hb hr (.inl rfl) (((ip c_1 rfl))) dX2_isRoom_17 hlocks
  · refine lv_iload_n hx hb dX2_isRoom_4 rfl (lv_at hl 1 rfl) ?_
    refine lv_aload_n hx hb dX2_isRoom_5 rfl (lv_at hl 0 rfl) ?_
    refine xget (ref := "AbsentPraise$Hill") (T := TX2) (v := .int (S b 5)) hC hP hin_X2 (xo_H hb0) rfl 5 (by decide) (List.mem_of_getElem? (i := 1) rfl) rfl rfl dX2_isRoom_6 ?_
    refine lv_icmp_ge (tgt := 16) hx hb dX2_isRoom_9 (by decide) (fun c_2 => ?_) (fun c_2 => ?_)
    · refine lv_iconst (v := 0) hx hb dX2_isRoom_16 (by decide) ?_
      exact xret_zR hC hP hS hb hr (.inl rfl) (((iN c_1 (ip c_2 rfl)))) dX2_isRoom_17 hlocks
    · refine lv_iconst (v := 1) hx hb dX2_isRoom_12 (by decide) ?_
      refine lv_goto (tgt := 17) hx hb dX2_isRoom_13 (by decide) ?_
      exact xret_zR hC hP hS hb hr (.inr rfl) (((iN c_1 (iN c_2 rfl)))) dX2_isRoom_17 hlocks
theorem hd_X2_isPerson : yX2_isPerson.cls = RX2 ∧ yX2_isPerson.cls ≠ "java/lang/invoke/MethodHandle" ∧ yX2_isPerson.cls ≠ "java/lang/invoke/VarHandle" ∧ (parseMethodDescriptor yX2_isPerson.desc).map (fun d => d.parameters.length) = some 1 := by decide +kernel
set_option maxHeartbeats 4000000 in
set_option maxRecDepth 100000 in
theorem k_X2_isPerson (l : Launch) (X : xX) (S : xS) (b : Nat) (p0 : Int32) (hb0 : isH b = true) : Met l yX2_isPerson wsX2_isPerson ({ frames := 0, cells := 0, slots := 0, locals := 0 } : Room) (va_Pc [.ref (X.2.1 b), .int p0] (xI X S)) (va_Qi (fun (r : Int32) (u : xS) => (r = (f_X2_isPerson S b p0) ∧ (r = 0 ∨ r = 1)) ∧ u = S) (xI X) (xA X)) 0 0 (xA X) := by
  refine Met.ofW (cc := cX2_isPerson) (maxL := 2) (ret := (some .boolean)) (by decide +kernel) rfl ?_
  intro p e s m args below meth c s₁ B hml hv
  obtain ⟨rfl, hP, hK, hN, hJ⟩ := hv
  have hx := B.exec
  have hb := B.bytes
  have hr := B.returns
  have hts := atoms_spec (ws := wsX2_isPerson) B.pre
  have hown : s.vm.findClass RX2 = some m.cls := findClass_of_methodNamed B.named
  have hlocks := B.notSynchronized
  have hC : xC X p m c cX2_isPerson 2 s _ wsX2_isPerson RX2 := ⟨⟨hx, hb, hml, hown, hts⟩, hK, hN, hJ⟩
  have hS : va_S (xA X) s.heap s.heap [] := va_S.rf
  have hin_X2 : ∀ w ∈ u_ws RX2 TX2 10, w ∈ wsX2_isPerson := by decide +kernel
  have hl := lv_entry ([.ref (X.2.1 b), .int p0]) (n := 2) (Nat.le_of_ble_eq_true rfl)
  rw [lg_entry_eq]
  generalize (lg_sl ([.ref (X.2.1 b), .int p0]) ++ List.replicate (2 - (lg_sl ([.ref (X.2.1 b), .int p0])).length) Slot.unset).toArray = ls at hl ⊢
  have hl : lv_has ls 2 [(0, .ref (X.2.1 b)), (1, .int p0)] := hl
  refine lv_iload_n hx hb dX2_isPerson_0 rfl (lv_at hl 1 rfl) ?_
  refine lv_if_lt (tgt := 16) hx hb dX2_isPerson_1 (by decide) (fun c_1 => ?_) (fun c_1 => ?_)
  · refine lv_iconst (v := 0) hx hb dX2_isPerson_16 (by decide) ?_
    exact xret_zR hC hP hS hb hr (.inl rfl) (((ip c_1 rfl))) dX2_isPerson_17 hlocks
  · refine lv_iload_n hx hb dX2_isPerson_4 rfl (lv_at hl 1 rfl) ?_
    refine lv_aload_n hx hb dX2_isPerson_5 rfl (lv_at hl 0 rfl) ?_
    refine xget (ref := "AbsentPraise$Hill") (T := TX2) (v := .int (S b 9)) hC hP hin_X2 (xo_H hb0) rfl 9 (by decide) (List.mem_of_getElem? (i := 1) rfl) rfl rfl dX2_isPerson_6 ?_
    refine lv_icmp_ge (tgt := 16) hx hb dX2_isPerson_9 (by decide) (fun c_2 => ?_) (fun c_2 => ?_)
    · refine lv_iconst (v := 0) hx hb dX2_isPerson_16 (by decide) ?_
      exact xret_zR hC hP hS hb hr (.inl rfl) (((iN c_1 (ip c_2 rfl)))) dX2_isPerson_17 hlocks
    · refine lv_iconst (v := 1) hx hb dX2_isPerson_12 (by decide) ?_
      refine lv_goto (tgt := 17) hx hb dX2_isPerson_13 (by decide) ?_
      exact xret_zR hC hP hS hb hr (.inr rfl) (((iN c_1 (iN c_2 rfl)))) dX2_isPerson_17 hlocks
theorem hd_X2_isPair : yX2_isPair.cls = RX2 ∧ yX2_isPair.cls ≠ "java/lang/invoke/MethodHandle" ∧ yX2_isPair.cls ≠ "java/lang/invoke/VarHandle" ∧ (parseMethodDescriptor yX2_isPair.desc).map (fun d => d.parameters.length) = some 2 := by decide +kernel
set_option maxHeartbeats 4000000 in
set_option maxRecDepth 100000 in
theorem k_X2_isPair (l : Launch) (X : xX) (S : xS) (b : Nat) (p0 : Int32) (p1 : Int32) (hb0 : isH b = true) : Met l yX2_isPair wsX2_isPair ({ frames := 1, cells := 0, slots := 0, locals := 21 } : Room) (va_Pc [.ref (X.2.1 b), .int p0, .int p1] (xI X S)) (va_Qi (fun (r : Int32) (u : xS) => (r = (f_X2_isPair S b p0 p1) ∧ (r = 0 ∨ r = 1)) ∧ u = S) (xI X) (xA X)) 0 0 (xA X) := by
  refine Met.ofW (cc := cX2_isPair) (maxL := 3) (ret := (some .boolean)) (by decide +kernel) rfl ?_
  intro p e s m args below meth c s₁ B hml hv
  obtain ⟨rfl, hP, hK, hN, hJ⟩ := hv
  have hx := B.exec
  have hb := B.bytes
  have hr := B.returns
  have hts := atoms_spec (ws := wsX2_isPair) B.pre
  have hown : s.vm.findClass RX2 = some m.cls := findClass_of_methodNamed B.named
  have hlocks := B.notSynchronized
  have hC : xC X p m c cX2_isPair 3 s _ wsX2_isPair RX2 := ⟨⟨hx, hb, hml, hown, hts⟩, hK, hN, hJ⟩
  have hS : va_S (xA X) s.heap s.heap [] := va_S.rf
  have hl := lv_entry ([.ref (X.2.1 b), .int p0, .int p1]) (n := 3) (Nat.le_of_ble_eq_true rfl)
  rw [lg_entry_eq]
  generalize (lg_sl ([.ref (X.2.1 b), .int p0, .int p1]) ++ List.replicate (3 - (lg_sl ([.ref (X.2.1 b), .int p0, .int p1])).length) Slot.unset).toArray = ls at hl ⊢
  have hl : lv_has ls 3 [(0, .ref (X.2.1 b)), (1, .int p0), (2, .int p1)] := hl
  refine lv_aload_n hx hb dX2_isPair_0 rfl (lv_at hl 0 rfl) ?_
  refine lv_iload_n hx hb dX2_isPair_1 rfl (lv_at hl 1 rfl) ?_
  refine xcV_iR (b := b) (As := [.int p0]) (rest := []) hC hP hS (k_X2_isPerson l X S b p0 hb0) (cwV 1 hts gX2_isPair_X2_isPerson rfl rfl rfl hd_X2_isPerson ⟨Nat.le_of_ble_eq_true rfl, Nat.le_of_ble_eq_true rfl⟩) (xo_H hb0) rfl rfl rfl hl.1 (Nat.le_of_ble_eq_true rfl) dX2_isPair_2 (fun r_1 hp_r_1 H locs hP hS => ?_)
  obtain ⟨hr_1, hzr_1⟩ := hp_r_1
  refine lv_if_eq (tgt := 25) hx hb dX2_isPair_5 (by decide) (fun c_2 => ?_) (fun c_2 => ?_)
  · refine lv_iconst (v := 0) hx hb dX2_isPair_25 (by decide) ?_
    exact xret_zR hC hP hS hb hr (.inl rfl) ((by have hr_1 := hr_1.symm; subst hr_1; exact (ip c_2 rfl))) dX2_isPair_26 hlocks
  · refine lv_aload_n hx hb dX2_isPair_8 rfl (lv_at hl 0 rfl) ?_
    refine lv_iload_n hx hb dX2_isPair_9 rfl (lv_at hl 2 rfl) ?_
    refine xcV_iR (b := b) (As := [.int p1]) (rest := []) hC hP hS (k_X2_isPerson l X S b p1 hb0) (cwV 1 hts gX2_isPair_X2_isPerson rfl rfl rfl hd_X2_isPerson ⟨Nat.le_of_ble_eq_true rfl, Nat.le_of_ble_eq_true rfl⟩) (xo_H hb0) rfl rfl rfl hl.1 (Nat.le_of_ble_eq_true rfl) dX2_isPair_10 (fun r_3 hp_r_3 H locs hP hS => ?_)
    obtain ⟨hr_3, hzr_3⟩ := hp_r_3
    refine lv_if_eq (tgt := 25) hx hb dX2_isPair_13 (by decide) (fun c_4 => ?_) (fun c_4 => ?_)
    · refine lv_iconst (v := 0) hx hb dX2_isPair_25 (by decide) ?_
      exact xret_zR hC hP hS hb hr (.inl rfl) ((by have hr_1 := hr_1.symm; have hr_3 := hr_3.symm; subst hr_1 hr_3; exact (iN c_2 (ip c_4 rfl)))) dX2_isPair_26 hlocks
    · refine lv_iload_n hx hb dX2_isPair_16 rfl (lv_at hl 1 rfl) ?_
      refine lv_iload_n hx hb dX2_isPair_17 rfl (lv_at hl 2 rfl) ?_
      refine lv_icmp_eq (tgt := 25) hx hb dX2_isPair_18 (by decide) (fun c_5 => ?_) (fun c_5 => ?_)
      · refine lv_iconst (v := 0) hx hb dX2_isPair_25 (by decide) ?_
        exact xret_zR hC hP hS hb hr (.inl rfl) ((by have hr_1 := hr_1.symm; have hr_3 := hr_3.symm; subst hr_1 hr_3; exact (iN c_2 (iN c_4 (ip c_5 rfl))))) dX2_isPair_26 hlocks
      · refine lv_iconst (v := 1) hx hb dX2_isPair_21 (by decide) ?_
        refine lv_goto (tgt := 26) hx hb dX2_isPair_22 (by decide) ?_
        exact xret_zR hC hP hS hb hr (.inr rfl) ((by have hr_1 := hr_1.symm; have hr_3 := hr_3.symm; subst hr_1 hr_3; exact (iN c_2 (iN c_4 (iN c_5 rfl))))) dX2_isPair_26 hlocks
theorem hs_X10_has : yX10_has.cls ≠ "java/lang/invoke/MethodHandle" ∧ yX10_has.cls ≠ "java/lang/invoke/VarHandle" ∧ (parseMethodDescriptor yX10_has.desc).map (fun d => d.parameters.length) = some 2 := by decide +kernel
set_option maxHeartbeats 4000000 in
set_option maxRecDepth 100000 in
theorem k_X10_has (l : Launch) (X : xX) (S : xS) (p0 : Int32) (p1 : Int32) : Met l yX10_has wsX10_has ({ frames := 0, cells := 0, slots := 0, locals := 0 } : Room) (va_Pc [.int p0, .int p1] (xI X S)) (va_Qi (fun (r : Int32) (u : xS) => (r = (f_X10_has S p0 p1) ∧ (r = 0 ∨ r = 1)) ∧ u = S) (xI X) (xA X)) 0 0 (xA X) := by
  refine Met.ofW (cc := cX10_has) (maxL := 2) (ret := (some .boolean)) (by decide +kernel) rfl ?_
  intro p e s m args below meth c s₁ B hml hv
  obtain ⟨rfl, hP, hK, hN, hJ⟩ := hv
  have hx := B.exec
  have hb := B.bytes
  have hr := B.returns
  have hts := atoms_spec (ws := wsX10_has) B.pre
  have hown : s.vm.findClass RX10 = some m.cls := findClass_of_methodNamed B.named
  have hlocks := B.notSynchronized
  have hC : xC X p m c cX10_has 2 s _ wsX10_has RX10 := ⟨⟨hx, hb, hml, hown, hts⟩, hK, hN, hJ⟩
  have hS : va_S (xA X) s.heap s.heap [] := va_S.rf
  have hl := lv_entry ([.int p0, .int p1]) (n := 2) (Nat.le_of_ble_eq_true rfl)
  rw [lg_entry_eq]
  generalize (lg_sl ([.int p0, .int p1]) ++ List.replicate (2 - (lg_sl ([.int p0, .int p1])).length) Slot.unset).toArray = ls at hl ⊢
  have hl : lv_has ls 2 [(0, .int p0), (1, .int p1)] := hl
  refine lv_iload_n hx hb dX10_has_0 rfl (lv_at hl 1 rfl) ?_
  refine lv_if_lt (tgt := 23) hx hb dX10_has_1 (by decide) (fun c_1 => ?_) (fun c_1 => ?_)
  · refine lv_iconst (v := 0) hx hb dX10_has_23 (by decide) ?_
    exact xret_zR hC hP hS hb hr (.inl rfl) (((ip c_1 rfl))) dX10_has_24 hlocks
  · refine lv_iload_n hx hb dX10_has_4 rfl (lv_at hl 1 rfl) ?_
    refine lv_bipush (v := 30) hx hb dX10_has_5 (by decide) ?_
    refine lv_icmp_gt (tgt := 23) hx hb dX10_has_7 (by decide) (fun c_2 => ?_) (fun c_2 => ?_)
    · refine lv_iconst (v := 0) hx hb dX10_has_23 (by decide) ?_
      exact xret_zR hC hP hS hb hr (.inl rfl) (((iN c_1 (ip c_2 rfl)))) dX10_has_24 hlocks
    · refine lv_iload_n hx hb dX10_has_10 rfl (lv_at hl 0 rfl) ?_
      refine lv_iload_n hx hb dX10_has_11 rfl (lv_at hl 1 rfl) ?_
      refine lv_ishr hx hb dX10_has_12 ?_
      refine lv_iconst (v := 1) hx hb dX10_has_13 (by decide) ?_
      refine lv_iand hx hb dX10_has_14 ?_
      refine lv_iconst (v := 1) hx hb dX10_has_15 (by decide) ?_
      refine lv_icmp_ne (tgt := 23) hx hb dX10_has_16 (by decide) (fun c_3 => ?_) (fun c_3 => ?_)
      · refine lv_iconst (v := 0) hx hb dX10_has_23 (by decide) ?_
        exact xret_zR hC hP hS hb hr (.inl rfl) (((iN c_1 (iN c_2 (iN c_3 rfl))))) dX10_has_24 hlocks
      · refine lv_iconst (v := 1) hx hb dX10_has_19 (by decide) ?_
        refine lv_goto (tgt := 24) hx hb dX10_has_20 (by decide) ?_
        exact xret_zR hC hP hS hb hr (.inr rfl) (((iN c_1 (iN c_2 (ip c_3 rfl))))) dX10_has_24 hlocks
theorem hd_X2_isBench : yX2_isBench.cls = RX2 ∧ yX2_isBench.cls ≠ "java/lang/invoke/MethodHandle" ∧ yX2_isBench.cls ≠ "java/lang/invoke/VarHandle" ∧ (parseMethodDescriptor yX2_isBench.desc).map (fun d => d.parameters.length) = some 2 := by decide +kernel
set_option maxHeartbeats 4000000 in
set_option maxRecDepth 100000 in
theorem k_X2_isBench (l : Launch) (X : xX) (S : xS) (b : Nat) (p0 : Int32) (p1 : Int32) (hb0 : isH b = true) : Met l yX2_isBench wsX2_isBench ({ frames := 1, cells := 0, slots := 0, locals := 21 } : Room) (va_Pc [.ref (X.2.1 b), .int p0, .int p1] (xI X S)) (va_Qi (fun (r : Int32) (u : xS) => (r = (f_X2_isBench S b p0 p1) ∧ (r = 0 ∨ r = 1)) ∧ u = S) (xI X) (xA X)) 0 0 (xA X) := by
  refine Met.ofW (cc := cX2_isBench) (maxL := 3) (ret := (some .boolean)) (by decide +kernel) rfl ?_
  intro p e s m args below meth c s₁ B hml hv
  obtain ⟨rfl, hP, hK, hN, hJ⟩ := hv
  have hx := B.exec
  have hb := B.bytes
  have hr := B.returns
  have hts := atoms_spec (ws := wsX2_isBench) B.pre
  have hown : s.vm.findClass RX2 = some m.cls := findClass_of_methodNamed B.named
  have hlocks := B.notSynchronized
  have hC : xC X p m c cX2_isBench 3 s _ wsX2_isBench RX2 := ⟨⟨hx, hb, hml, hown, hts⟩, hK, hN, hJ⟩
  have hS : va_S (xA X) s.heap s.heap [] := va_S.rf
  have hin_X2 : ∀ w ∈ u_ws RX2 TX2 10, w ∈ wsX2_isBench := by decide +kernel
  have hl := lv_entry ([.ref (X.2.1 b), .int p0, .int p1]) (n := 3) (Nat.le_of_ble_eq_true rfl)
  rw [lg_entry_eq]
  generalize (lg_sl ([.ref (X.2.1 b), .int p0, .int p1]) ++ List.replicate (3 - (lg_sl ([.ref (X.2.1 b), .int p0, .int p1])).length) Slot.unset).toArray = ls at hl ⊢
  have hl : lv_has ls 3 [(0, .ref (X.2.1 b)), (1, .int p0), (2, .int p1)] := hl
  refine lv_aload_n hx hb dX2_isBench_0 rfl (lv_at hl 0 rfl) ?_
  refine xget (ref := "AbsentPraise$Hill") (T := TX2) (v := .ref (X.2.1 (b + 1))) hC hP hin_X2 (xo_H hb0) rfl 0 (by decide) (List.mem_of_getElem? (i := 1) rfl) rfl rfl dX2_isBench_1 ?_
  refine lv_iload_n hx hb dX2_isBench_4 rfl (lv_at hl 1 rfl) ?_
  refine xcSN_iR (As := [.ref (X.2.1 (b + 1)), .int p0]) (rest := []) hC hP hS (k_X10_at l X S (b + 1) p0 (isI_H1 hb0)) (va_cnB (host := "AbsentPraise") 2 hts gX2_isBench_X10_at_n57 rfl rfl rfl (xn_3 hN) (hts (.initialized RX10) (List.mem_of_getElem? (i := 3) rfl)) hs_X10_at ⟨Nat.le_of_ble_eq_true rfl, Nat.le_of_ble_eq_true rfl⟩) (hts (.static yX10_at) (List.mem_of_getElem? (i := 2) rfl)) rfl rfl hl.1 (Nat.le_of_ble_eq_true rfl) dX2_isBench_5 (fun r_1 hr_1 H locs hP hS => ?_)
  refine lv_iload_n hx hb dX2_isBench_8 rfl (lv_at hl 2 rfl) ?_
  refine xcSN_iR (As := [.int r_1, .int p1]) (rest := []) hC hP hS (k_X10_has l X S r_1 p1) (va_cnB (host := "AbsentPraise") 2 hts gX2_isBench_X10_has_n61 rfl rfl rfl (xn_4 hN) (hts (.initialized RX10) (List.mem_of_getElem? (i := 3) rfl)) hs_X10_has ⟨Nat.le_of_ble_eq_true rfl, Nat.le_of_ble_eq_true rfl⟩) (hts (.static yX10_has) (List.mem_of_getElem? (i := 5) rfl)) rfl rfl hl.1 (Nat.le_of_ble_eq_true rfl) dX2_isBench_9 (fun r_2 hp_r_2 H locs hP hS => ?_)
  obtain ⟨hr_2, hzr_2⟩ := hp_r_2
  exact xret_zR hC hP hS hb hr hzr_2 ((by have hr_1 := hr_1.symm; have hr_2 := hr_2.symm; subst hr_1 hr_2; exact rfl)) dX2_isBench_12 hlocks
theorem hd_X2_isWay : yX2_isWay.cls = RX2 ∧ yX2_isWay.cls ≠ "java/lang/invoke/MethodHandle" ∧ yX2_isWay.cls ≠ "java/lang/invoke/VarHandle" ∧ (parseMethodDescriptor yX2_isWay.desc).map (fun d => d.parameters.length) = some 2 := by decide +kernel
set_option maxHeartbeats 4000000 in
set_option maxRecDepth 100000 in
theorem k_X2_isWay (l : Launch) (X : xX) (S : xS) (b : Nat) (p0 : Int32) (p1 : Int32) (hb0 : isH b = true) : Met l yX2_isWay wsX2_isWay ({ frames := 1, cells := 0, slots := 0, locals := 21 } : Room) (va_Pc [.ref (X.2.1 b), .int p0, .int p1] (xI X S)) (va_Qi (fun (r : Int32) (u : xS) => (r = (f_X2_isWay S b p0 p1) ∧ (r = 0 ∨ r = 1)) ∧ u = S) (xI X) (xA X)) 0 0 (xA X) := by
  refine Met.ofW (cc := cX2_isWay) (maxL := 3) (ret := (some .boolean)) (by decide +kernel) rfl ?_
  intro p e s m args below meth c s₁ B hml hv
  obtain ⟨rfl, hP, hK, hN, hJ⟩ := hv
  have hx := B.exec
  have hb := B.bytes
  have hr := B.returns
  have hts := atoms_spec (ws := wsX2_isWay) B.pre
  have hown : s.vm.findClass RX2 = some m.cls := findClass_of_methodNamed B.named
  have hlocks := B.notSynchronized
  have hC : xC X p m c cX2_isWay 3 s _ wsX2_isWay RX2 := ⟨⟨hx, hb, hml, hown, hts⟩, hK, hN, hJ⟩
  have hS : va_S (xA X) s.heap s.heap [] := va_S.rf
  have hin_X2 : ∀ w ∈ u_ws RX2 TX2 10, w ∈ wsX2_isWay := by decide +kernel
  have hl := lv_entry ([.ref (X.2.1 b), .int p0, .int p1]) (n := 3) (Nat.le_of_ble_eq_true rfl)
  rw [lg_entry_eq]
  generalize (lg_sl ([.ref (X.2.1 b), .int p0, .int p1]) ++ List.replicate (3 - (lg_sl ([.ref (X.2.1 b), .int p0, .int p1])).length) Slot.unset).toArray = ls at hl ⊢
  have hl : lv_has ls 3 [(0, .ref (X.2.1 b)), (1, .int p0), (2, .int p1)] := hl
  refine lv_aload_n hx hb dX2_isWay_0 rfl (lv_at hl 0 rfl) ?_
  refine xget (ref := "AbsentPraise$Hill") (T := TX2) (v := .ref (X.2.1 (b + 2))) hC hP hin_X2 (xo_H hb0) rfl 1 (by decide) (List.mem_of_getElem? (i := 1) rfl) rfl rfl dX2_isWay_1 ?_
  refine lv_iload_n hx hb dX2_isWay_4 rfl (lv_at hl 1 rfl) ?_
  refine xcSN_iR (As := [.ref (X.2.1 (b + 2)), .int p0]) (rest := []) hC hP hS (k_X10_at l X S (b + 2) p0 (isI_H2 hb0)) (va_cnB (host := "AbsentPraise") 2 hts gX2_isWay_X10_at_n57 rfl rfl rfl (xn_3 hN) (hts (.initialized RX10) (List.mem_of_getElem? (i := 3) rfl)) hs_X10_at ⟨Nat.le_of_ble_eq_true rfl, Nat.le_of_ble_eq_true rfl⟩) (hts (.static yX10_at) (List.mem_of_getElem? (i := 2) rfl)) rfl rfl hl.1 (Nat.le_of_ble_eq_true rfl) dX2_isWay_5 (fun r_1 hr_1 H locs hP hS => ?_)
  refine lv_iload_n hx hb dX2_isWay_8 rfl (lv_at hl 2 rfl) ?_
  refine xcSN_iR (As := [.int r_1, .int p1]) (rest := []) hC hP hS (k_X10_has l X S r_1 p1) (va_cnB (host := "AbsentPraise") 2 hts gX2_isWay_X10_has_n61 rfl rfl rfl (xn_4 hN) (hts (.initialized RX10) (List.mem_of_getElem? (i := 3) rfl)) hs_X10_has ⟨Nat.le_of_ble_eq_true rfl, Nat.le_of_ble_eq_true rfl⟩) (hts (.static yX10_has) (List.mem_of_getElem? (i := 5) rfl)) rfl rfl hl.1 (Nat.le_of_ble_eq_true rfl) dX2_isWay_9 (fun r_2 hp_r_2 H locs hP hS => ?_)
  obtain ⟨hr_2, hzr_2⟩ := hp_r_2
  exact xret_zR hC hP hS hb hr hzr_2 ((by have hr_1 := hr_1.symm; have hr_2 := hr_2.symm; subst hr_1 hr_2; exact rfl)) dX2_isWay_12 hlocks
theorem hs_X10_bit : yX10_bit.cls ≠ "java/lang/invoke/MethodHandle" ∧ yX10_bit.cls ≠ "java/lang/invoke/VarHandle" ∧ (parseMethodDescriptor yX10_bit.desc).map (fun d => d.parameters.length) = some 1 := by decide +kernel
set_option maxHeartbeats 4000000 in
set_option maxRecDepth 100000 in
theorem k_X10_bit (l : Launch) (X : xX) (S : xS) (p0 : Int32) : Met l yX10_bit wsX10_bit ({ frames := 0, cells := 0, slots := 0, locals := 0 } : Room) (va_Pc [.int p0] (xI X S)) (va_Qi (fun (r : Int32) (u : xS) => r = (f_X10_bit S p0) ∧ u = S) (xI X) (xA X)) 0 0 (xA X) := by
  refine Met.ofW (cc := cX10_bit) (maxL := 1) (ret := (some .int)) (by decide +kernel) rfl ?_
  intro p e s m args below meth c s₁ B hml hv
  obtain ⟨rfl, hP, hK, hN, hJ⟩ := hv
  have hx := B.exec
  have hb := B.bytes
  have hr := B.returns
  have hts := atoms_spec (ws := wsX10_bit) B.pre
  have hown : s.vm.findClass RX10 = some m.cls := findClass_of_methodNamed B.named
  have hlocks := B.notSynchronized
  have hC : xC X p m c cX10_bit 1 s _ wsX10_bit RX10 := ⟨⟨hx, hb, hml, hown, hts⟩, hK, hN, hJ⟩
  have hS : va_S (xA X) s.heap s.heap [] := va_S.rf
  have hl := lv_entry ([.int p0]) (n := 1) (Nat.le_of_ble_eq_true rfl)
  rw [lg_entry_eq]
  generalize (lg_sl ([.int p0]) ++ List.replicate (1 - (lg_sl ([.int p0])).length) Slot.unset).toArray = ls at hl ⊢
  have hl : lv_has ls 1 [(0, .int p0)] := hl
  refine lv_iload_n hx hb dX10_bit_0 rfl (lv_at hl 0 rfl) ?_
  refine lv_if_lt (tgt := 16) hx hb dX10_bit_1 (by decide) (fun c_1 => ?_) (fun c_1 => ?_)
  · refine lv_iconst (v := 0) hx hb dX10_bit_16 (by decide) ?_
    exact xret_iR hC hP hS hb hr (((ip c_1 rfl))) dX10_bit_17 hlocks
  · refine lv_iload_n hx hb dX10_bit_4 rfl (lv_at hl 0 rfl) ?_
    refine lv_bipush (v := 30) hx hb dX10_bit_5 (by decide) ?_
    refine lv_icmp_gt (tgt := 16) hx hb dX10_bit_7 (by decide) (fun c_2 => ?_) (fun c_2 => ?_)
    · refine lv_iconst (v := 0) hx hb dX10_bit_16 (by decide) ?_
      exact xret_iR hC hP hS hb hr (((iN c_1 (ip c_2 rfl)))) dX10_bit_17 hlocks
    · refine lv_iconst (v := 1) hx hb dX10_bit_10 (by decide) ?_
      refine lv_iload_n hx hb dX10_bit_11 rfl (lv_at hl 0 rfl) ?_
      refine lv_ishl hx hb dX10_bit_12 ?_
      refine lv_goto (tgt := 17) hx hb dX10_bit_13 (by decide) ?_
      exact xret_iR hC hP hS hb hr (((iN c_1 (iN c_2 rfl)))) dX10_bit_17 hlocks
theorem hd_X2_addBench : yX2_addBench.cls = RX2 ∧ yX2_addBench.cls ≠ "java/lang/invoke/MethodHandle" ∧ yX2_addBench.cls ≠ "java/lang/invoke/VarHandle" ∧ (parseMethodDescriptor yX2_addBench.desc).map (fun d => d.parameters.length) = some 2 := by decide +kernel
set_option maxHeartbeats 4000000 in
set_option maxRecDepth 100000 in
theorem k_X2_addBench (l : Launch) (X : xX) (S : xS) (b : Nat) (p0 : Int32) (p1 : Int32) (hb0 : isH b = true) : Met l yX2_addBench wsX2_addBench ({ frames := 1, cells := 0, slots := 0, locals := 22 } : Room) (va_Pc [.ref (X.2.1 b), .int p0, .int p1] (xI X S)) (va_Qv (fun u : xS => u = (f_X2_addBench S b p0 p1)) (xI X) (xA X)) 0 0 (xA X) := by
  refine Met.ofW (cc := cX2_addBench) (maxL := 3) (ret := none) (by decide +kernel) rfl ?_
  intro p e s m args below meth c s₁ B hml hv
  obtain ⟨rfl, hP, hK, hN, hJ⟩ := hv
  have hx := B.exec
  have hb := B.bytes
  have hr := B.returns
  have hts := atoms_spec (ws := wsX2_addBench) B.pre
  have hown : s.vm.findClass RX2 = some m.cls := findClass_of_methodNamed B.named
  have hlocks := B.notSynchronized
  have hC : xC X p m c cX2_addBench 3 s _ wsX2_addBench RX2 := ⟨⟨hx, hb, hml, hown, hts⟩, hK, hN, hJ⟩
  have hS : va_S (xA X) s.heap s.heap [] := va_S.rf
  have hin_X2 : ∀ w ∈ u_ws RX2 TX2 10, w ∈ wsX2_addBench := by decide +kernel
  have hl := lv_entry ([.ref (X.2.1 b), .int p0, .int p1]) (n := 3) (Nat.le_of_ble_eq_true rfl)
  rw [lg_entry_eq]
  generalize (lg_sl ([.ref (X.2.1 b), .int p0, .int p1]) ++ List.replicate (3 - (lg_sl ([.ref (X.2.1 b), .int p0, .int p1])).length) Slot.unset).toArray = ls at hl ⊢
  have hl : lv_has ls 3 [(0, .ref (X.2.1 b)), (1, .int p0), (2, .int p1)] := hl
  refine lv_aload_n hx hb dX2_addBench_0 rfl (lv_at hl 0 rfl) ?_
  refine xget (ref := "AbsentPraise$Hill") (T := TX2) (v := .ref (X.2.1 (b + 1))) hC hP hin_X2 (xo_H hb0) rfl 0 (by decide) (List.mem_of_getElem? (i := 1) rfl) rfl rfl dX2_addBench_1 ?_
  refine lv_iload_n hx hb dX2_addBench_4 rfl (lv_at hl 1 rfl) ?_
  refine lv_aload_n hx hb dX2_addBench_5 rfl (lv_at hl 0 rfl) ?_
  refine xget (ref := "AbsentPraise$Hill") (T := TX2) (v := .ref (X.2.1 (b + 1))) hC hP hin_X2 (xo_H hb0) rfl 0 (by decide) (List.mem_of_getElem? (i := 1) rfl) rfl rfl dX2_addBench_6 ?_
  refine lv_iload_n hx hb dX2_addBench_9 rfl (lv_at hl 1 rfl) ?_
  refine xcSN_iR (As := [.ref (X.2.1 (b + 1)), .int p0]) (rest := [.int p0, .ref (X.2.1 (b + 1))]) hC hP hS (k_X10_at l X S (b + 1) p0 (isI_H1 hb0)) (va_cnB (host := "AbsentPraise") 2 hts gX2_addBench_X10_at_n57 rfl rfl rfl (xn_3 hN) (hts (.initialized RX10) (List.mem_of_getElem? (i := 4) rfl)) hs_X10_at ⟨Nat.le_of_ble_eq_true rfl, Nat.le_of_ble_eq_true rfl⟩) (hts (.static yX10_at) (List.mem_of_getElem? (i := 3) rfl)) rfl rfl hl.1 (Nat.le_of_ble_eq_true rfl) dX2_addBench_10 (fun r_1 hr_1 H locs hP hS => ?_)
  refine lv_iload_n hx hb dX2_addBench_13 rfl (lv_at hl 2 rfl) ?_
  refine xcSN_iR (As := [.int p1]) (rest := [.int r_1, .int p0, .ref (X.2.1 (b + 1))]) hC hP hS (k_X10_bit l X S p1) (va_cnB (host := "AbsentPraise") 1 hts gX2_addBench_X10_bit_n65 rfl rfl rfl (xn_5 hN) (hts (.initialized RX10) (List.mem_of_getElem? (i := 4) rfl)) hs_X10_bit ⟨Nat.le_of_ble_eq_true rfl, Nat.le_of_ble_eq_true rfl⟩) (hts (.static yX10_bit) (List.mem_of_getElem? (i := 6) rfl)) rfl rfl hl.1 (Nat.le_of_ble_eq_true rfl) dX2_addBench_14 (fun r_2 hr_2 H locs hP hS => ?_)
  refine lv_ior hx hb dX2_addBench_17 ?_
  refine xcSN_vW (As := [.ref (X.2.1 (b + 1)), .int p0, .int (r_1 ||| r_2)]) (rest := []) hC hP hS (k_X10_put l X S (b + 1) p0 (r_1 ||| r_2) (isI_H1 hb0)) (va_cnB (host := "AbsentPraise") 3 hts gX2_addBench_X10_put_n69 rfl rfl rfl (xn_6 hN) (hts (.initialized RX10) (List.mem_of_getElem? (i := 4) rfl)) hs_X10_put ⟨Nat.le_of_ble_eq_true rfl, Nat.le_of_ble_eq_true rfl⟩) (hts (.static yX10_put) (List.mem_of_getElem? (i := 8) rfl)) rfl rfl hl.1 (Nat.le_of_ble_eq_true rfl) dX2_addBench_18 (fun S_3 hS_3 H locs hP hS => ?_)
  refine lv_aload_n hx hb dX2_addBench_21 rfl (lv_at hl 0 rfl) ?_
  refine lv_dup hx hb dX2_addBench_22 rfl ?_
  refine xget (ref := "AbsentPraise$Hill") (T := TX2) (v := .int (S_3 b 7)) hC hP hin_X2 (xo_H hb0) rfl 7 (by decide) (List.mem_of_getElem? (i := 2) rfl) rfl rfl dX2_addBench_23 ?_
  refine lv_iconst (v := 1) hx hb dX2_addBench_26 (by decide) ?_
  refine lv_iadd hx hb dX2_addBench_27 ?_
  refine xput (ref := "AbsentPraise$Hill") (T := TX2) (ty := .int) hC hP hS (isH_lt hb0) hin_X2 tyX2 tyX2_ok nmX2 (xo_H hb0) rfl 7 (by decide) (List.mem_of_getElem? (i := 2) rfl) rfl rfl rfl rfl rfl (Nat.le_of_ble_eq_true rfl) dX2_addBench_28 (xn_X2_7 hb0) (fun S_4 hS_4 H locs hP hS => ?_)
  exact xret_v hC hP hS hb hr ((by have hr_1 := hr_1.symm; have hr_2 := hr_2.symm; have hS_3 := hS_3.symm; have hS_4 := hS_4.symm; subst hr_1 hr_2 hS_3 hS_4; exact rfl)) dX2_addBench_31 hlocks
theorem hd_X2_addWay : yX2_addWay.cls = RX2 ∧ yX2_addWay.cls ≠ "java/lang/invoke/MethodHandle" ∧ yX2_addWay.cls ≠ "java/lang/invoke/VarHandle" ∧ (parseMethodDescriptor yX2_addWay.desc).map (fun d => d.parameters.length) = some 2 := by decide +kernel
set_option maxHeartbeats 4000000 in
set_option maxRecDepth 100000 in
theorem k_X2_addWay (l : Launch) (X : xX) (S : xS) (b : Nat) (p0 : Int32) (p1 : Int32) (hb0 : isH b = true) : Met l yX2_addWay wsX2_addWay ({ frames := 1, cells := 0, slots := 0, locals := 22 } : Room) (va_Pc [.ref (X.2.1 b), .int p0, .int p1] (xI X S)) (va_Qv (fun u : xS => u = (f_X2_addWay S b p0 p1)) (xI X) (xA X)) 0 0 (xA X) := by
  refine Met.ofW (cc := cX2_addWay) (maxL := 3) (ret := none) (by decide +kernel) rfl ?_
  intro p e s m args below meth c s₁ B hml hv
  obtain ⟨rfl, hP, hK, hN, hJ⟩ := hv
  have hx := B.exec
  have hb := B.bytes
  have hr := B.returns
  have hts := atoms_spec (ws := wsX2_addWay) B.pre
  have hown : s.vm.findClass RX2 = some m.cls := findClass_of_methodNamed B.named
  have hlocks := B.notSynchronized
  have hC : xC X p m c cX2_addWay 3 s _ wsX2_addWay RX2 := ⟨⟨hx, hb, hml, hown, hts⟩, hK, hN, hJ⟩
  have hS : va_S (xA X) s.heap s.heap [] := va_S.rf
  have hin_X2 : ∀ w ∈ u_ws RX2 TX2 10, w ∈ wsX2_addWay := by decide +kernel
  have hl := lv_entry ([.ref (X.2.1 b), .int p0, .int p1]) (n := 3) (Nat.le_of_ble_eq_true rfl)
  rw [lg_entry_eq]
  generalize (lg_sl ([.ref (X.2.1 b), .int p0, .int p1]) ++ List.replicate (3 - (lg_sl ([.ref (X.2.1 b), .int p0, .int p1])).length) Slot.unset).toArray = ls at hl ⊢
  have hl : lv_has ls 3 [(0, .ref (X.2.1 b)), (1, .int p0), (2, .int p1)] := hl
  refine lv_aload_n hx hb dX2_addWay_0 rfl (lv_at hl 0 rfl) ?_
  refine xget (ref := "AbsentPraise$Hill") (T := TX2) (v := .ref (X.2.1 (b + 2))) hC hP hin_X2 (xo_H hb0) rfl 1 (by decide) (List.mem_of_getElem? (i := 1) rfl) rfl rfl dX2_addWay_1 ?_
  refine lv_iload_n hx hb dX2_addWay_4 rfl (lv_at hl 1 rfl) ?_
  refine lv_aload_n hx hb dX2_addWay_5 rfl (lv_at hl 0 rfl) ?_
  refine xget (ref := "AbsentPraise$Hill") (T := TX2) (v := .ref (X.2.1 (b + 2))) hC hP hin_X2 (xo_H hb0) rfl 1 (by decide) (List.mem_of_getElem? (i := 1) rfl) rfl rfl dX2_addWay_6 ?_
  refine lv_iload_n hx hb dX2_addWay_9 rfl (lv_at hl 1 rfl) ?_
  refine xcSN_iR (As := [.ref (X.2.1 (b + 2)), .int p0]) (rest := [.int p0, .ref (X.2.1 (b + 2))]) hC hP hS (k_X10_at l X S (b + 2) p0 (isI_H2 hb0)) (va_cnB (host := "AbsentPraise") 2 hts gX2_addWay_X10_at_n57 rfl rfl rfl (xn_3 hN) (hts (.initialized RX10) (List.mem_of_getElem? (i := 4) rfl)) hs_X10_at ⟨Nat.le_of_ble_eq_true rfl, Nat.le_of_ble_eq_true rfl⟩) (hts (.static yX10_at) (List.mem_of_getElem? (i := 3) rfl)) rfl rfl hl.1 (Nat.le_of_ble_eq_true rfl) dX2_addWay_10 (fun r_1 hr_1 H locs hP hS => ?_)
  refine lv_iload_n hx hb dX2_addWay_13 rfl (lv_at hl 2 rfl) ?_
  refine xcSN_iR (As := [.int p1]) (rest := [.int r_1, .int p0, .ref (X.2.1 (b + 2))]) hC hP hS (k_X10_bit l X S p1) (va_cnB (host := "AbsentPraise") 1 hts gX2_addWay_X10_bit_n65 rfl rfl rfl (xn_5 hN) (hts (.initialized RX10) (List.mem_of_getElem? (i := 4) rfl)) hs_X10_bit ⟨Nat.le_of_ble_eq_true rfl, Nat.le_of_ble_eq_true rfl⟩) (hts (.static yX10_bit) (List.mem_of_getElem? (i := 6) rfl)) rfl rfl hl.1 (Nat.le_of_ble_eq_true rfl) dX2_addWay_14 (fun r_2 hr_2 H locs hP hS => ?_)
  refine lv_ior hx hb dX2_addWay_17 ?_
  refine xcSN_vW (As := [.ref (X.2.1 (b + 2)), .int p0, .int (r_1 ||| r_2)]) (rest := []) hC hP hS (k_X10_put l X S (b + 2) p0 (r_1 ||| r_2) (isI_H2 hb0)) (va_cnB (host := "AbsentPraise") 3 hts gX2_addWay_X10_put_n69 rfl rfl rfl (xn_6 hN) (hts (.initialized RX10) (List.mem_of_getElem? (i := 4) rfl)) hs_X10_put ⟨Nat.le_of_ble_eq_true rfl, Nat.le_of_ble_eq_true rfl⟩) (hts (.static yX10_put) (List.mem_of_getElem? (i := 8) rfl)) rfl rfl hl.1 (Nat.le_of_ble_eq_true rfl) dX2_addWay_18 (fun S_3 hS_3 H locs hP hS => ?_)
  refine lv_aload_n hx hb dX2_addWay_21 rfl (lv_at hl 0 rfl) ?_
  refine xget (ref := "AbsentPraise$Hill") (T := TX2) (v := .ref (X.2.1 (b + 2))) hC hP hin_X2 (xo_H hb0) rfl 1 (by decide) (List.mem_of_getElem? (i := 1) rfl) rfl rfl dX2_addWay_22 ?_
  refine lv_iload_n hx hb dX2_addWay_25 rfl (lv_at hl 2 rfl) ?_
  refine lv_aload_n hx hb dX2_addWay_26 rfl (lv_at hl 0 rfl) ?_
  refine xget (ref := "AbsentPraise$Hill") (T := TX2) (v := .ref (X.2.1 (b + 2))) hC hP hin_X2 (xo_H hb0) rfl 1 (by decide) (List.mem_of_getElem? (i := 1) rfl) rfl rfl dX2_addWay_27 ?_
  refine lv_iload_n hx hb dX2_addWay_30 rfl (lv_at hl 2 rfl) ?_
  refine xcSN_iR (As := [.ref (X.2.1 (b + 2)), .int p1]) (rest := [.int p1, .ref (X.2.1 (b + 2))]) hC hP hS (k_X10_at l X S_3 (b + 2) p1 (isI_H2 hb0)) (va_cnB (host := "AbsentPraise") 2 hts gX2_addWay_X10_at_n57 rfl rfl rfl (xn_3 hN) (hts (.initialized RX10) (List.mem_of_getElem? (i := 4) rfl)) hs_X10_at ⟨Nat.le_of_ble_eq_true rfl, Nat.le_of_ble_eq_true rfl⟩) (hts (.static yX10_at) (List.mem_of_getElem? (i := 3) rfl)) rfl rfl hl.1 (Nat.le_of_ble_eq_true rfl) dX2_addWay_31 (fun r_4 hr_4 H locs hP hS => ?_)
  refine lv_iload_n hx hb dX2_addWay_34 rfl (lv_at hl 1 rfl) ?_
  refine xcSN_iR (As := [.int p0]) (rest := [.int r_4, .int p1, .ref (X.2.1 (b + 2))]) hC hP hS (k_X10_bit l X S_3 p0) (va_cnB (host := "AbsentPraise") 1 hts gX2_addWay_X10_bit_n65 rfl rfl rfl (xn_5 hN) (hts (.initialized RX10) (List.mem_of_getElem? (i := 4) rfl)) hs_X10_bit ⟨Nat.le_of_ble_eq_true rfl, Nat.le_of_ble_eq_true rfl⟩) (hts (.static yX10_bit) (List.mem_of_getElem? (i := 6) rfl)) rfl rfl hl.1 (Nat.le_of_ble_eq_true rfl) dX2_addWay_35 (fun r_5 hr_5 H locs hP hS => ?_)
  refine lv_ior hx hb dX2_addWay_38 ?_
  refine xcSN_vW (As := [.ref (X.2.1 (b + 2)), .int p1, .int (r_4 ||| r_5)]) (rest := []) hC hP hS (k_X10_put l X S_3 (b + 2) p1 (r_4 ||| r_5) (isI_H2 hb0)) (va_cnB (host := "AbsentPraise") 3 hts gX2_addWay_X10_put_n69 rfl rfl rfl (xn_6 hN) (hts (.initialized RX10) (List.mem_of_getElem? (i := 4) rfl)) hs_X10_put ⟨Nat.le_of_ble_eq_true rfl, Nat.le_of_ble_eq_true rfl⟩) (hts (.static yX10_put) (List.mem_of_getElem? (i := 8) rfl)) rfl rfl hl.1 (Nat.le_of_ble_eq_true rfl) dX2_addWay_39 (fun S_6 hS_6 H locs hP hS => ?_)
  refine lv_aload_n hx hb dX2_addWay_42 rfl (lv_at hl 0 rfl) ?_
  refine lv_dup hx hb dX2_addWay_43 rfl ?_
  refine xget (ref := "AbsentPraise$Hill") (T := TX2) (v := .int (S_6 b 8)) hC hP hin_X2 (xo_H hb0) rfl 8 (by decide) (List.mem_of_getElem? (i := 2) rfl) rfl rfl dX2_addWay_44 ?_
  refine lv_iconst (v := 1) hx hb dX2_addWay_47 (by decide) ?_
  refine lv_iadd hx hb dX2_addWay_48 ?_
  refine xput (ref := "AbsentPraise$Hill") (T := TX2) (ty := .int) hC hP hS (isH_lt hb0) hin_X2 tyX2 tyX2_ok nmX2 (xo_H hb0) rfl 8 (by decide) (List.mem_of_getElem? (i := 2) rfl) rfl rfl rfl rfl rfl (Nat.le_of_ble_eq_true rfl) dX2_addWay_49 (xn_X2_8 hb0) (fun S_7 hS_7 H locs hP hS => ?_)
  exact xret_v hC hP hS hb hr ((by have hr_1 := hr_1.symm; have hr_2 := hr_2.symm; have hS_3 := hS_3.symm; have hr_4 := hr_4.symm; have hr_5 := hr_5.symm; have hS_6 := hS_6.symm; have hS_7 := hS_7.symm; subst hr_1 hr_2 hS_3 hr_4 hr_5 hS_6 hS_7; exact rfl)) dX2_addWay_52 hlocks
theorem hd_X2_addPerson : yX2_addPerson.cls = RX2 ∧ yX2_addPerson.cls ≠ "java/lang/invoke/MethodHandle" ∧ yX2_addPerson.cls ≠ "java/lang/invoke/VarHandle" ∧ (parseMethodDescriptor yX2_addPerson.desc).map (fun d => d.parameters.length) = some 2 := by decide +kernel
set_option maxHeartbeats 4000000 in
set_option maxRecDepth 100000 in
theorem k_X2_addPerson (l : Launch) (X : xX) (S : xS) (b : Nat) (p0 : Int32) (p1 : Int32) (hb0 : isH b = true) : Met l yX2_addPerson wsX2_addPerson ({ frames := 1, cells := 0, slots := 0, locals := 22 } : Room) (va_Pc [.ref (X.2.1 b), .int p0, .int p1] (xI X S)) (va_Qv (fun u : xS => u = (f_X2_addPerson S b p0 p1)) (xI X) (xA X)) 0 0 (xA X) := by
  refine Met.ofW (cc := cX2_addPerson) (maxL := 3) (ret := none) (by decide +kernel) rfl ?_
  intro p e s m args below meth c s₁ B hml hv
  obtain ⟨rfl, hP, hK, hN, hJ⟩ := hv
  have hx := B.exec
  have hb := B.bytes
  have hr := B.returns
  have hts := atoms_spec (ws := wsX2_addPerson) B.pre
  have hown : s.vm.findClass RX2 = some m.cls := findClass_of_methodNamed B.named
  have hlocks := B.notSynchronized
  have hC : xC X p m c cX2_addPerson 3 s _ wsX2_addPerson RX2 := ⟨⟨hx, hb, hml, hown, hts⟩, hK, hN, hJ⟩
  have hS : va_S (xA X) s.heap s.heap [] := va_S.rf
  have hin_X2 : ∀ w ∈ u_ws RX2 TX2 10, w ∈ wsX2_addPerson := by decide +kernel
  have hl := lv_entry ([.ref (X.2.1 b), .int p0, .int p1]) (n := 3) (Nat.le_of_ble_eq_true rfl)
  rw [lg_entry_eq]
  generalize (lg_sl ([.ref (X.2.1 b), .int p0, .int p1]) ++ List.replicate (3 - (lg_sl ([.ref (X.2.1 b), .int p0, .int p1])).length) Slot.unset).toArray = ls at hl ⊢
  have hl : lv_has ls 3 [(0, .ref (X.2.1 b)), (1, .int p0), (2, .int p1)] := hl
  refine lv_aload_n hx hb dX2_addPerson_0 rfl (lv_at hl 0 rfl) ?_
  refine xget (ref := "AbsentPraise$Hill") (T := TX2) (v := .ref (X.2.1 (b + 3))) hC hP hin_X2 (xo_H hb0) rfl 2 (by decide) (List.mem_of_getElem? (i := 1) rfl) rfl rfl dX2_addPerson_1 ?_
  refine lv_aload_n hx hb dX2_addPerson_4 rfl (lv_at hl 0 rfl) ?_
  refine xget (ref := "AbsentPraise$Hill") (T := TX2) (v := .int (S b 9)) hC hP hin_X2 (xo_H hb0) rfl 9 (by decide) (List.mem_of_getElem? (i := 2) rfl) rfl rfl dX2_addPerson_5 ?_
  refine lv_iload_n hx hb dX2_addPerson_8 rfl (lv_at hl 1 rfl) ?_
  refine xcSN_vW (As := [.ref (X.2.1 (b + 3)), .int (S b 9), .int p0]) (rest := []) hC hP hS (k_X10_put l X S (b + 3) (S b 9) p0 (isI_H3 hb0)) (va_cnB (host := "AbsentPraise") 3 hts gX2_addPerson_X10_put_n69 rfl rfl rfl (xn_6 hN) (hts (.initialized RX10) (List.mem_of_getElem? (i := 5) rfl)) hs_X10_put ⟨Nat.le_of_ble_eq_true rfl, Nat.le_of_ble_eq_true rfl⟩) (hts (.static yX10_put) (List.mem_of_getElem? (i := 4) rfl)) rfl rfl hl.1 (Nat.le_of_ble_eq_true rfl) dX2_addPerson_9 (fun S_1 hS_1 H locs hP hS => ?_)
  refine lv_aload_n hx hb dX2_addPerson_12 rfl (lv_at hl 0 rfl) ?_
  refine xget (ref := "AbsentPraise$Hill") (T := TX2) (v := .ref (X.2.1 (b + 4))) hC hP hin_X2 (xo_H hb0) rfl 3 (by decide) (List.mem_of_getElem? (i := 3) rfl) rfl rfl dX2_addPerson_13 ?_
  refine lv_aload_n hx hb dX2_addPerson_16 rfl (lv_at hl 0 rfl) ?_
  refine xget (ref := "AbsentPraise$Hill") (T := TX2) (v := .int (S_1 b 9)) hC hP hin_X2 (xo_H hb0) rfl 9 (by decide) (List.mem_of_getElem? (i := 2) rfl) rfl rfl dX2_addPerson_17 ?_
  refine lv_iload_n hx hb dX2_addPerson_20 rfl (lv_at hl 2 rfl) ?_
  refine xcSN_vW (As := [.ref (X.2.1 (b + 4)), .int (S_1 b 9), .int p1]) (rest := []) hC hP hS (k_X10_put l X S_1 (b + 4) (S_1 b 9) p1 (isI_H4 hb0)) (va_cnB (host := "AbsentPraise") 3 hts gX2_addPerson_X10_put_n69 rfl rfl rfl (xn_6 hN) (hts (.initialized RX10) (List.mem_of_getElem? (i := 5) rfl)) hs_X10_put ⟨Nat.le_of_ble_eq_true rfl, Nat.le_of_ble_eq_true rfl⟩) (hts (.static yX10_put) (List.mem_of_getElem? (i := 4) rfl)) rfl rfl hl.1 (Nat.le_of_ble_eq_true rfl) dX2_addPerson_21 (fun S_2 hS_2 H locs hP hS => ?_)
  refine lv_aload_n hx hb dX2_addPerson_24 rfl (lv_at hl 0 rfl) ?_
  refine lv_dup hx hb dX2_addPerson_25 rfl ?_
  refine xget (ref := "AbsentPraise$Hill") (T := TX2) (v := .int (S_2 b 9)) hC hP hin_X2 (xo_H hb0) rfl 9 (by decide) (List.mem_of_getElem? (i := 2) rfl) rfl rfl dX2_addPerson_26 ?_
  refine lv_iconst (v := 1) hx hb dX2_addPerson_29 (by decide) ?_
  refine lv_iadd hx hb dX2_addPerson_30 ?_
  refine xput (ref := "AbsentPraise$Hill") (T := TX2) (ty := .int) hC hP hS (isH_lt hb0) hin_X2 tyX2 tyX2_ok nmX2 (xo_H hb0) rfl 9 (by decide) (List.mem_of_getElem? (i := 2) rfl) rfl rfl rfl rfl rfl (Nat.le_of_ble_eq_true rfl) dX2_addPerson_31 (xn_X2_9 hb0) (fun S_3 hS_3 H locs hP hS => ?_)
  exact xret_v hC hP hS hb hr ((by have hS_1 := hS_1.symm; have hS_2 := hS_2.symm; have hS_3 := hS_3.symm; subst hS_1 hS_2 hS_3; exact rfl)) dX2_addPerson_34 hlocks
theorem hs_X10_pairIndex : yX10_pairIndex.cls ≠ "java/lang/invoke/MethodHandle" ∧ yX10_pairIndex.cls ≠ "java/lang/invoke/VarHandle" ∧ (parseMethodDescriptor yX10_pairIndex.desc).map (fun d => d.parameters.length) = some 2 := by decide +kernel
set_option maxHeartbeats 4000000 in
set_option maxRecDepth 100000 in
theorem k_X10_pairIndex (l : Launch) (X : xX) (S : xS) (p0 : Int32) (p1 : Int32) : Met l yX10_pairIndex wsX10_pairIndex ({ frames := 0, cells := 0, slots := 0, locals := 0 } : Room) (va_Pc [.int p0, .int p1] (xI X S)) (va_Qi (fun (r : Int32) (u : xS) => r = (f_X10_pairIndex S p0 p1) ∧ u = S) (xI X) (xA X)) 0 0 (xA X) := by
  refine Met.ofW (cc := cX10_pairIndex) (maxL := 2) (ret := (some .int)) (by decide +kernel) rfl ?_
  intro p e s m args below meth c s₁ B hml hv
  obtain ⟨rfl, hP, hK, hN, hJ⟩ := hv
  have hx := B.exec
  have hb := B.bytes
  have hr := B.returns
  have hts := atoms_spec (ws := wsX10_pairIndex) B.pre
  have hown : s.vm.findClass RX10 = some m.cls := findClass_of_methodNamed B.named
  have hlocks := B.notSynchronized
  have hC : xC X p m c cX10_pairIndex 2 s _ wsX10_pairIndex RX10 := ⟨⟨hx, hb, hml, hown, hts⟩, hK, hN, hJ⟩
  have hS : va_S (xA X) s.heap s.heap [] := va_S.rf
  have hl := lv_entry ([.int p0, .int p1]) (n := 2) (Nat.le_of_ble_eq_true rfl)
  rw [lg_entry_eq]
  generalize (lg_sl ([.int p0, .int p1]) ++ List.replicate (2 - (lg_sl ([.int p0, .int p1])).length) Slot.unset).toArray = ls at hl ⊢
  have hl : lv_has ls 2 [(0, .int p0), (1, .int p1)] := hl
  refine lv_iload_n hx hb dX10_pairIndex_0 rfl (lv_at hl 0 rfl) ?_
  refine lv_bipush (v := 7) hx hb dX10_pairIndex_1 (by decide) ?_
  refine lv_imul hx hb dX10_pairIndex_3 ?_
  refine lv_iload_n hx hb dX10_pairIndex_4 rfl (lv_at hl 1 rfl) ?_
  refine lv_iadd hx hb dX10_pairIndex_5 ?_
  exact xret_iR hC hP hS hb hr ((rfl)) dX10_pairIndex_6 hlocks
theorem hd_X2_addLiking : yX2_addLiking.cls = RX2 ∧ yX2_addLiking.cls ≠ "java/lang/invoke/MethodHandle" ∧ yX2_addLiking.cls ≠ "java/lang/invoke/VarHandle" ∧ (parseMethodDescriptor yX2_addLiking.desc).map (fun d => d.parameters.length) = some 3 := by decide +kernel
set_option maxHeartbeats 4000000 in
set_option maxRecDepth 100000 in
theorem k_X2_addLiking (l : Launch) (X : xX) (S : xS) (b : Nat) (p0 : Int32) (p1 : Int32) (p2 : Int32) (hb0 : isH b = true) : Met l yX2_addLiking wsX2_addLiking ({ frames := 1, cells := 0, slots := 0, locals := 22 } : Room) (va_Pc [.ref (X.2.1 b), .int p0, .int p1, .int p2] (xI X S)) (va_Qv (fun u : xS => u = (f_X2_addLiking S b p0 p1 p2)) (xI X) (xA X)) 0 0 (xA X) := by
  refine Met.ofW (cc := cX2_addLiking) (maxL := 4) (ret := none) (by decide +kernel) rfl ?_
  intro p e s m args below meth c s₁ B hml hv
  obtain ⟨rfl, hP, hK, hN, hJ⟩ := hv
  have hx := B.exec
  have hb := B.bytes
  have hr := B.returns
  have hts := atoms_spec (ws := wsX2_addLiking) B.pre
  have hown : s.vm.findClass RX2 = some m.cls := findClass_of_methodNamed B.named
  have hlocks := B.notSynchronized
  have hC : xC X p m c cX2_addLiking 4 s _ wsX2_addLiking RX2 := ⟨⟨hx, hb, hml, hown, hts⟩, hK, hN, hJ⟩
  have hS : va_S (xA X) s.heap s.heap [] := va_S.rf
  have hin_X2 : ∀ w ∈ u_ws RX2 TX2 10, w ∈ wsX2_addLiking := by decide +kernel
  have hl := lv_entry ([.ref (X.2.1 b), .int p0, .int p1, .int p2]) (n := 4) (Nat.le_of_ble_eq_true rfl)
  rw [lg_entry_eq]
  generalize (lg_sl ([.ref (X.2.1 b), .int p0, .int p1, .int p2]) ++ List.replicate (4 - (lg_sl ([.ref (X.2.1 b), .int p0, .int p1, .int p2])).length) Slot.unset).toArray = ls at hl ⊢
  have hl : lv_has ls 4 [(0, .ref (X.2.1 b)), (1, .int p0), (2, .int p1), (3, .int p2)] := hl
  refine lv_aload_n hx hb dX2_addLiking_0 rfl (lv_at hl 0 rfl) ?_
  refine xget (ref := "AbsentPraise$Hill") (T := TX2) (v := .ref (X.2.1 (b + 5))) hC hP hin_X2 (xo_H hb0) rfl 4 (by decide) (List.mem_of_getElem? (i := 1) rfl) rfl rfl dX2_addLiking_1 ?_
  refine lv_iload_n hx hb dX2_addLiking_4 rfl (lv_at hl 1 rfl) ?_
  refine lv_iload_n hx hb dX2_addLiking_5 rfl (lv_at hl 2 rfl) ?_
  refine xcSN_iR (As := [.int p0, .int p1]) (rest := [.ref (X.2.1 (b + 5))]) hC hP hS (k_X10_pairIndex l X S p0 p1) (va_cnB (host := "AbsentPraise") 2 hts gX2_addLiking_X10_pairIndex_n73 rfl rfl rfl (xn_7 hN) (hts (.initialized RX10) (List.mem_of_getElem? (i := 3) rfl)) hs_X10_pairIndex ⟨Nat.le_of_ble_eq_true rfl, Nat.le_of_ble_eq_true rfl⟩) (hts (.static yX10_pairIndex) (List.mem_of_getElem? (i := 2) rfl)) rfl rfl hl.1 (Nat.le_of_ble_eq_true rfl) dX2_addLiking_6 (fun r_1 hr_1 H locs hP hS => ?_)
  refine lv_iload_n hx hb dX2_addLiking_9 rfl (lv_at hl 3 rfl) ?_
  refine xcSN_vW (As := [.ref (X.2.1 (b + 5)), .int r_1, .int p2]) (rest := []) hC hP hS (k_X10_put l X S (b + 5) r_1 p2 (isI_H5 hb0)) (va_cnB (host := "AbsentPraise") 3 hts gX2_addLiking_X10_put_n69 rfl rfl rfl (xn_6 hN) (hts (.initialized RX10) (List.mem_of_getElem? (i := 3) rfl)) hs_X10_put ⟨Nat.le_of_ble_eq_true rfl, Nat.le_of_ble_eq_true rfl⟩) (hts (.static yX10_put) (List.mem_of_getElem? (i := 5) rfl)) rfl rfl hl.1 (Nat.le_of_ble_eq_true rfl) dX2_addLiking_10 (fun S_2 hS_2 H locs hP hS => ?_)
  exact xret_v hC hP hS hb hr ((by have hr_1 := hr_1.symm; have hS_2 := hS_2.symm; subst hr_1 hS_2; exact rfl)) dX2_addLiking_13 hlocks
