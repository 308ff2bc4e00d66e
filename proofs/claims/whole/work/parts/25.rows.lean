set_option linter.all false
/-! contracts: X10_leavers, X10_silent, X10_carried, X10_hale, X10_note, X10_thinks, X10_ask, X10_listens, X10_write -/
theorem hd_X10_leavers : yX10_leavers.cls = RX10 ∧ yX10_leavers.cls ≠ "java/lang/invoke/MethodHandle" ∧ yX10_leavers.cls ≠ "java/lang/invoke/VarHandle" ∧ (parseMethodDescriptor yX10_leavers.desc).map (fun d => d.parameters.length) = some 2 := by decide +kernel
set_option maxHeartbeats 4000000 in
set_option maxRecDepth 100000 in
theorem k_X10_leavers (l : Launch) (X : xX) (S : xS) (p0 : Int32) (p1 : Int32) (hs : s_X10_leavers S p0 p1) : Met l yX10_leavers wsX10_leavers ({ frames := 5, cells := 0, slots := 0, locals := 122 } : Room) (va_Pc [.ref (X.2.1 0), .int p0, .int p1] (xI X S)) (va_Qi (fun (r : Int32) (u : xS) => r = (f_X10_leavers S p0 p1) ∧ u = S) (xI X) (xA X)) 0 0 (xA X) := by
  refine Met.ofW (cc := cX10_leavers) (maxL := 4) (ret := (some .int)) (by decide +kernel) rfl ?_
  intro p e s m args below meth c s₁ B hml hv
  obtain ⟨rfl, hP, hK, hN, hJ⟩ := hv
  have hx := B.exec
  have hb := B.bytes
  have hr := B.returns
  have hts := atoms_spec (ws := wsX10_leavers) B.pre
  have hown : s.vm.findClass RX10 = some m.cls := findClass_of_methodNamed B.named
  have hlocks := B.notSynchronized
  have hC : xC X p m c cX10_leavers 4 s _ wsX10_leavers RX10 := ⟨⟨hx, hb, hml, hown, hts⟩, hK, hN, hJ⟩
  have hS : va_S (xA X) s.heap s.heap [] := va_S.rf
  have hin_X10 : ∀ w ∈ u_ws RX10 TX10 10, w ∈ wsX10_leavers := by decide +kernel
  have hl := lv_entry ([.ref (X.2.1 0), .int p0, .int p1]) (n := 4) (Nat.le_of_ble_eq_true rfl)
  rw [lg_entry_eq]
  generalize (lg_sl ([.ref (X.2.1 0), .int p0, .int p1]) ++ List.replicate (4 - (lg_sl ([.ref (X.2.1 0), .int p0, .int p1])).length) Slot.unset).toArray = ls at hl ⊢
  have hl : lv_has ls 4 [(0, .ref (X.2.1 0)), (1, .int p0), (2, .int p1)] := hl
  refine lv_aload_n hx hb dX10_leavers_0 rfl (lv_at hl 0 rfl) ?_
  refine xget (ref := "AbsentPraise") (T := TX10) (v := .ref (X.2.1 9)) hC hP hin_X10 xo_X10 rfl 1 (by decide) (List.mem_of_getElem? (i := 1) rfl) rfl rfl dX10_leavers_1 ?_
  refine lv_iload_n hx hb dX10_leavers_4 rfl (lv_at hl 1 rfl) ?_
  refine xcV_iR (b := 9) (As := [.int p0]) (rest := []) hC hP hS (k_X2_isRoom l X S 9 p0 (by decide)) (cwV 1 hts gX10_leavers_X2_isRoom rfl rfl rfl hd_X2_isRoom ⟨Nat.le_of_ble_eq_true rfl, Nat.le_of_ble_eq_true rfl⟩) (xo_H (by decide)) rfl rfl rfl hl.1 (Nat.le_of_ble_eq_true rfl) dX10_leavers_5 (fun r_1 hp_r_1 H locs hP hS => ?_)
  obtain ⟨hr_1, hzr_1⟩ := hp_r_1
  refine lv_if_ne (tgt := 14) hx hb dX10_leavers_8 (by decide) (fun c_2 => ?_) (fun c_2 => ?_)
  · refine lv_iload_n hx hb dX10_leavers_14 rfl (lv_at hl 2 rfl) ?_
    refine lv_iconst (v := 0) hx hb dX10_leavers_15 (by decide) ?_
    refine lv_iconst (v := 1) hx hb dX10_leavers_16 (by decide) ?_
    refine xcS_iR (As := [.int p1, .int 0, .int 1]) (rest := []) hC hP hS (k_X10_within l X S p1 0 1) (va_cwS 3 hts gX10_leavers_X10_within rfl rfl rfl hs_X10_within ⟨Nat.le_of_ble_eq_true rfl, Nat.le_of_ble_eq_true rfl⟩) rfl rfl hl.1 (Nat.le_of_ble_eq_true rfl) dX10_leavers_17 (fun r_3 hp_r_3 H locs hP hS => ?_)
    obtain ⟨hr_3, hzr_3⟩ := hp_r_3
    refine lv_if_ne (tgt := 26) hx hb dX10_leavers_20 (by decide) (fun c_4 => ?_) (fun c_4 => ?_)
    · refine lv_aload_n hx hb dX10_leavers_26 rfl (lv_at hl 0 rfl) ?_
      refine xget (ref := "AbsentPraise") (T := TX10) (v := .ref (X.2.1 16)) hC hP hin_X10 xo_X10 rfl 4 (by decide) (List.mem_of_getElem? (i := 4) rfl) rfl rfl dX10_leavers_27 ?_
      refine lv_iload_n hx hb dX10_leavers_30 rfl (lv_at hl 1 rfl) ?_
      have hn_5 : s_X9_bestLeavers S p0 := (by have hr_1 := hr_1.symm; have hr_3 := hr_3.symm; subst hr_1 hr_3; exact nl (sn (sn hs c_2) c_4))
      refine xcV_iR (b := 16) (As := [.int p0]) (rest := []) hC hP hS (k_X9_bestLeavers l X S p0 hn_5) (cwV 1 hts gX10_leavers_X9_bestLeavers rfl rfl rfl hd_X9_bestLeavers ⟨Nat.le_of_ble_eq_true rfl, Nat.le_of_ble_eq_true rfl⟩) xo_X9 rfl rfl rfl hl.1 (Nat.le_of_ble_eq_true rfl) dX10_leavers_31 (fun r_6 hr_6 H locs hP hS => ?_)
      refine lv_istore_n (lv' := [(3, .int r_6), (0, .ref (X.2.1 0)), (1, .int p0), (2, .int p1)]) hx hb dX10_leavers_34 rfl hl (by decide) rfl (fun ls hl => ?_)
      refine lv_iload_n hx hb dX10_leavers_35 rfl (lv_at hl 3 rfl) ?_
      refine lv_if_ne (tgt := 43) hx hb dX10_leavers_36 (by decide) (fun c_7 => ?_) (fun c_7 => ?_)
      · refine lv_aload_n hx hb dX10_leavers_43 rfl (lv_at hl 1 rfl) ?_
        refine xget (ref := "AbsentPraise") (T := TX10) (v := .ref (X.2.1 16)) hC hP hin_X10 xo_X10 rfl 4 (by decide) (List.mem_of_getElem? (i := 4) rfl) rfl rfl dX10_leavers_44 ?_
        refine lv_iload_n hx hb dX10_leavers_47 rfl (lv_at hl 0 rfl) ?_
        refine lv_iload_n hx hb dX10_leavers_48 rfl (lv_at hl 2 rfl) ?_
        have hn_8 : s_X9_saidTogether S r_6 p0 := (by have hr_1 := hr_1.symm; have hr_3 := hr_3.symm; have hr_6 := hr_6.symm; subst hr_1 hr_3 hr_6; exact nl (sn (nr (sn (sn hs c_2) c_4)) c_7))
        refine xcV_iR (b := 16) (As := [.int r_6, .int p0]) (rest := []) hC hP hS (k_X9_saidTogether l X S r_6 p0 hn_8) (cwV 2 hts gX10_leavers_X9_saidTogether rfl rfl rfl hd_X9_saidTogether ⟨Nat.le_of_ble_eq_true rfl, Nat.le_of_ble_eq_true rfl⟩) xo_X9 rfl rfl rfl hl.1 (Nat.le_of_ble_eq_true rfl) dX10_leavers_49 (fun r_9 hr_9 H locs hP hS => ?_)
        refine lv_sipush (v := 10000) hx hb dX10_leavers_52 (by decide) ?_
        refine lv_iadd hx hb dX10_leavers_55 ?_
        exact xret_iR hC hP hS hb hr ((by have hr_1 := hr_1.symm; have hr_3 := hr_3.symm; have hr_6 := hr_6.symm; have hr_9 := hr_9.symm; subst hr_1 hr_3 hr_6 hr_9; exact (iN c_2 (iN c_4 (iN c_7 rfl))))) dX10_leavers_56 hlocks
      · refine lv_iload_n hx hb dX10_leavers_39 rfl (lv_at hl 0 rfl) ?_
        refine lv_goto (tgt := 56) hx hb dX10_leavers_40 (by decide) ?_
        exact xret_iR hC hP hS hb hr ((by have hr_1 := hr_1.symm; have hr_3 := hr_3.symm; have hr_6 := hr_6.symm; subst hr_1 hr_3 hr_6; exact (iN c_2 (iN c_4 (ip c_7 rfl))))) dX10_leavers_56 hlocks
    · refine lv_ldc (v := (-1000000002)) hx hb hown (hts (.constant RX10 87 (-1000000002)) (List.mem_of_getElem? (i := 3) rfl)) dX10_leavers_23 ?_
      exact xret_iR hC hP hS hb hr ((by have hr_1 := hr_1.symm; have hr_3 := hr_3.symm; subst hr_1 hr_3; exact (iN c_2 (ip c_4 rfl)))) dX10_leavers_25 hlocks
  · refine lv_ldc (v := (-1000000001)) hx hb hown (hts (.constant RX10 162 (-1000000001)) (List.mem_of_getElem? (i := 2) rfl)) dX10_leavers_11 ?_
    exact xret_iR hC hP hS hb hr ((by have hr_1 := hr_1.symm; subst hr_1; exact (ip c_2 rfl))) dX10_leavers_13 hlocks
theorem hd_X10_silent : yX10_silent.cls = RX10 ∧ yX10_silent.cls ≠ "java/lang/invoke/MethodHandle" ∧ yX10_silent.cls ≠ "java/lang/invoke/VarHandle" ∧ (parseMethodDescriptor yX10_silent.desc).map (fun d => d.parameters.length) = some 1 := by decide +kernel
set_option maxHeartbeats 4000000 in
set_option maxRecDepth 100000 in
theorem k_X10_silent (l : Launch) (X : xX) (S : xS) (p0 : Int32) (hs : s_X10_silent S p0) : Met l yX10_silent wsX10_silent ({ frames := 6, cells := 0, slots := 0, locals := 138 } : Room) (va_Pc [.ref (X.2.1 0), .int p0] (xI X S)) (va_Qi (fun (r : Int32) (u : xS) => r = (f_X10_silent S p0) ∧ u = S) (xI X) (xA X)) 0 0 (xA X) := by
  refine Met.ofW (cc := cX10_silent) (maxL := 2) (ret := (some .int)) (by decide +kernel) rfl ?_
  intro p e s m args below meth c s₁ B hml hv
  obtain ⟨rfl, hP, hK, hN, hJ⟩ := hv
  have hx := B.exec
  have hb := B.bytes
  have hr := B.returns
  have hts := atoms_spec (ws := wsX10_silent) B.pre
  have hown : s.vm.findClass RX10 = some m.cls := findClass_of_methodNamed B.named
  have hlocks := B.notSynchronized
  have hC : xC X p m c cX10_silent 2 s _ wsX10_silent RX10 := ⟨⟨hx, hb, hml, hown, hts⟩, hK, hN, hJ⟩
  have hS : va_S (xA X) s.heap s.heap [] := va_S.rf
  have hin_X10 : ∀ w ∈ u_ws RX10 TX10 10, w ∈ wsX10_silent := by decide +kernel
  have hl := lv_entry ([.ref (X.2.1 0), .int p0]) (n := 2) (Nat.le_of_ble_eq_true rfl)
  rw [lg_entry_eq]
  generalize (lg_sl ([.ref (X.2.1 0), .int p0]) ++ List.replicate (2 - (lg_sl ([.ref (X.2.1 0), .int p0])).length) Slot.unset).toArray = ls at hl ⊢
  have hl : lv_has ls 2 [(0, .ref (X.2.1 0)), (1, .int p0)] := hl
  refine lv_aload_n hx hb dX10_silent_0 rfl (lv_at hl 0 rfl) ?_
  refine xget (ref := "AbsentPraise") (T := TX10) (v := .ref (X.2.1 16)) hC hP hin_X10 xo_X10 rfl 4 (by decide) (List.mem_of_getElem? (i := 1) rfl) rfl rfl dX10_silent_1 ?_
  refine lv_iload_n hx hb dX10_silent_4 rfl (lv_at hl 1 rfl) ?_
  have hn_1 : s_X9_silentPair S p0 := (nl hs)
  refine xcV_iR (b := 16) (As := [.int p0]) (rest := []) hC hP hS (k_X9_silentPair l X S p0 hn_1) (cwV 1 hts gX10_silent_X9_silentPair rfl rfl rfl hd_X9_silentPair ⟨Nat.le_of_ble_eq_true rfl, Nat.le_of_ble_eq_true rfl⟩) xo_X9 rfl rfl rfl hl.1 (Nat.le_of_ble_eq_true rfl) dX10_silent_5 (fun r_2 hr_2 H locs hP hS => ?_)
  exact xret_iR hC hP hS hb hr ((by have hr_2 := hr_2.symm; subst hr_2; exact rfl)) dX10_silent_8 hlocks
theorem hd_X10_carried : yX10_carried.cls = RX10 ∧ yX10_carried.cls ≠ "java/lang/invoke/MethodHandle" ∧ yX10_carried.cls ≠ "java/lang/invoke/VarHandle" ∧ (parseMethodDescriptor yX10_carried.desc).map (fun d => d.parameters.length) = some 2 := by decide +kernel
set_option maxHeartbeats 4000000 in
set_option maxRecDepth 100000 in
theorem k_X10_carried (l : Launch) (X : xX) (S : xS) (p0 : Int32) (p1 : Int32) (hs : s_X10_carried S p0 p1) : Met l yX10_carried wsX10_carried ({ frames := 4, cells := 0, slots := 0, locals := 92 } : Room) (va_Pc [.ref (X.2.1 0), .int p0, .int p1] (xI X S)) (va_Qi (fun (r : Int32) (u : xS) => r = (f_X10_carried S p0 p1) ∧ u = S) (xI X) (xA X)) 0 0 (xA X) := by
  refine Met.ofW (cc := cX10_carried) (maxL := 3) (ret := (some .int)) (by decide +kernel) rfl ?_
  intro p e s m args below meth c s₁ B hml hv
  obtain ⟨rfl, hP, hK, hN, hJ⟩ := hv
  have hx := B.exec
  have hb := B.bytes
  have hr := B.returns
  have hts := atoms_spec (ws := wsX10_carried) B.pre
  have hown : s.vm.findClass RX10 = some m.cls := findClass_of_methodNamed B.named
  have hlocks := B.notSynchronized
  have hC : xC X p m c cX10_carried 3 s _ wsX10_carried RX10 := ⟨⟨hx, hb, hml, hown, hts⟩, hK, hN, hJ⟩
  have hS : va_S (xA X) s.heap s.heap [] := va_S.rf
  have hin_X10 : ∀ w ∈ u_ws RX10 TX10 10, w ∈ wsX10_carried := by decide +kernel
  have hl := lv_entry ([.ref (X.2.1 0), .int p0, .int p1]) (n := 3) (Nat.le_of_ble_eq_true rfl)
  rw [lg_entry_eq]
  generalize (lg_sl ([.ref (X.2.1 0), .int p0, .int p1]) ++ List.replicate (3 - (lg_sl ([.ref (X.2.1 0), .int p0, .int p1])).length) Slot.unset).toArray = ls at hl ⊢
  have hl : lv_has ls 3 [(0, .ref (X.2.1 0)), (1, .int p0), (2, .int p1)] := hl
  refine lv_aload_n hx hb dX10_carried_0 rfl (lv_at hl 0 rfl) ?_
  refine xget (ref := "AbsentPraise") (T := TX10) (v := .ref (X.2.1 9)) hC hP hin_X10 xo_X10 rfl 1 (by decide) (List.mem_of_getElem? (i := 1) rfl) rfl rfl dX10_carried_1 ?_
  refine lv_iload_n hx hb dX10_carried_4 rfl (lv_at hl 1 rfl) ?_
  refine xcV_iR (b := 9) (As := [.int p0]) (rest := []) hC hP hS (k_X2_isPerson l X S 9 p0 (by decide)) (cwV 1 hts gX10_carried_X2_isPerson rfl rfl rfl hd_X2_isPerson ⟨Nat.le_of_ble_eq_true rfl, Nat.le_of_ble_eq_true rfl⟩) (xo_H (by decide)) rfl rfl rfl hl.1 (Nat.le_of_ble_eq_true rfl) dX10_carried_5 (fun r_1 hp_r_1 H locs hP hS => ?_)
  obtain ⟨hr_1, hzr_1⟩ := hp_r_1
  refine lv_if_ne (tgt := 14) hx hb dX10_carried_8 (by decide) (fun c_2 => ?_) (fun c_2 => ?_)
  · refine lv_iload_n hx hb dX10_carried_14 rfl (lv_at hl 2 rfl) ?_
    refine lv_iconst (v := (-1)) hx hb dX10_carried_15 (by decide) ?_
    refine lv_icmp_ne (tgt := 28) hx hb dX10_carried_16 (by decide) (fun c_3 => ?_) (fun c_3 => ?_)
    · refine lv_iload_n hx hb dX10_carried_28 rfl (lv_at hl 2 rfl) ?_
      refine lv_iconst (v := 0) hx hb dX10_carried_29 (by decide) ?_
      refine lv_bipush (v := 20) hx hb dX10_carried_30 (by decide) ?_
      refine xcS_iR (As := [.int p1, .int 0, .int 20]) (rest := []) hC hP hS (k_X10_within l X S p1 0 20) (va_cwS 3 hts gX10_carried_X10_within rfl rfl rfl hs_X10_within ⟨Nat.le_of_ble_eq_true rfl, Nat.le_of_ble_eq_true rfl⟩) rfl rfl hl.1 (Nat.le_of_ble_eq_true rfl) dX10_carried_32 (fun r_4 hp_r_4 H locs hP hS => ?_)
      obtain ⟨hr_4, hzr_4⟩ := hp_r_4
      refine lv_if_ne (tgt := 41) hx hb dX10_carried_35 (by decide) (fun c_5 => ?_) (fun c_5 => ?_)
      · refine lv_aload_n hx hb dX10_carried_41 rfl (lv_at hl 0 rfl) ?_
        refine xget (ref := "AbsentPraise") (T := TX10) (v := .ref (X.2.1 16)) hC hP hin_X10 xo_X10 rfl 4 (by decide) (List.mem_of_getElem? (i := 3) rfl) rfl rfl dX10_carried_42 ?_
        refine lv_iload_n hx hb dX10_carried_45 rfl (lv_at hl 1 rfl) ?_
        refine lv_iload_n hx hb dX10_carried_46 rfl (lv_at hl 2 rfl) ?_
        have hn_6 : s_X9_knownBehind S p0 p1 := (by have hr_1 := hr_1.symm; have hr_4 := hr_4.symm; subst hr_1 hr_4; exact nl (sn (sn (sn hs c_2) c_3) c_5))
        refine xcV_iR (b := 16) (As := [.int p0, .int p1]) (rest := []) hC hP hS (k_X9_knownBehind l X S p0 p1 hn_6) (cwV 2 hts gX10_carried_X9_knownBehind rfl rfl rfl hd_X9_knownBehind ⟨Nat.le_of_ble_eq_true rfl, Nat.le_of_ble_eq_true rfl⟩) xo_X9 rfl rfl rfl hl.1 (Nat.le_of_ble_eq_true rfl) dX10_carried_47 (fun r_7 hr_7 H locs hP hS => ?_)
        exact xret_iR hC hP hS hb hr ((by have hr_1 := hr_1.symm; have hr_4 := hr_4.symm; have hr_7 := hr_7.symm; subst hr_1 hr_4 hr_7; exact (iN c_2 (iN c_3 (iN c_5 rfl))))) dX10_carried_50 hlocks
      · refine lv_ldc (v := (-1000000002)) hx hb hown (hts (.constant RX10 87 (-1000000002)) (List.mem_of_getElem? (i := 4) rfl)) dX10_carried_38 ?_
        exact xret_iR hC hP hS hb hr ((by have hr_1 := hr_1.symm; have hr_4 := hr_4.symm; subst hr_1 hr_4; exact (iN c_2 (iN c_3 (ip c_5 rfl))))) dX10_carried_40 hlocks
    · refine lv_aload_n hx hb dX10_carried_19 rfl (lv_at hl 0 rfl) ?_
      refine xget (ref := "AbsentPraise") (T := TX10) (v := .ref (X.2.1 16)) hC hP hin_X10 xo_X10 rfl 4 (by decide) (List.mem_of_getElem? (i := 3) rfl) rfl rfl dX10_carried_20 ?_
      refine lv_iload_n hx hb dX10_carried_23 rfl (lv_at hl 1 rfl) ?_
      have hn_8 : s_X9_hoursTillAllKnow S p0 := (by have hr_1 := hr_1.symm; subst hr_1; exact nl (sp (sn hs c_2) c_3))
      refine xcV_iR (b := 16) (As := [.int p0]) (rest := []) hC hP hS (k_X9_hoursTillAllKnow l X S p0 hn_8) (cwV 1 hts gX10_carried_X9_hoursTillAllKnow rfl rfl rfl hd_X9_hoursTillAllKnow ⟨Nat.le_of_ble_eq_true rfl, Nat.le_of_ble_eq_true rfl⟩) xo_X9 rfl rfl rfl hl.1 (Nat.le_of_ble_eq_true rfl) dX10_carried_24 (fun r_9 hr_9 H locs hP hS => ?_)
      exact xret_iR hC hP hS hb hr ((by have hr_1 := hr_1.symm; have hr_9 := hr_9.symm; subst hr_1 hr_9; exact (iN c_2 (ip c_3 rfl)))) dX10_carried_27 hlocks
  · refine lv_ldc (v := (-1000000001)) hx hb hown (hts (.constant RX10 162 (-1000000001)) (List.mem_of_getElem? (i := 2) rfl)) dX10_carried_11 ?_
    exact xret_iR hC hP hS hb hr ((by have hr_1 := hr_1.symm; subst hr_1; exact (ip c_2 rfl))) dX10_carried_13 hlocks
theorem hd_X10_hale : yX10_hale.cls = RX10 ∧ yX10_hale.cls ≠ "java/lang/invoke/MethodHandle" ∧ yX10_hale.cls ≠ "java/lang/invoke/VarHandle" ∧ (parseMethodDescriptor yX10_hale.desc).map (fun d => d.parameters.length) = some 2 := by decide +kernel
set_option maxHeartbeats 4000000 in
set_option maxRecDepth 100000 in
theorem k_X10_hale (l : Launch) (X : xX) (S : xS) (p0 : Int32) (p1 : Int32) (hs : s_X10_hale S p0 p1) : Met l yX10_hale wsX10_hale ({ frames := 1, cells := 0, slots := 0, locals := 22 } : Room) (va_Pc [.ref (X.2.1 0), .int p0, .int p1] (xI X S)) (va_Qi (fun (r : Int32) (u : xS) => r = (f_X10_hale S p0 p1) ∧ u = S) (xI X) (xA X)) 0 0 (xA X) := by
  refine Met.ofW (cc := cX10_hale) (maxL := 6) (ret := (some .int)) (by decide +kernel) rfl ?_
  intro p e s m args below meth c s₁ B hml hv
  obtain ⟨rfl, hP, hK, hN, hJ⟩ := hv
  have hx := B.exec
  have hb := B.bytes
  have hr := B.returns
  have hts := atoms_spec (ws := wsX10_hale) B.pre
  have hown : s.vm.findClass RX10 = some m.cls := findClass_of_methodNamed B.named
  have hlocks := B.notSynchronized
  have hC : xC X p m c cX10_hale 6 s _ wsX10_hale RX10 := ⟨⟨hx, hb, hml, hown, hts⟩, hK, hN, hJ⟩
  have hS : va_S (xA X) s.heap s.heap [] := va_S.rf
  have hl := lv_entry ([.ref (X.2.1 0), .int p0, .int p1]) (n := 6) (Nat.le_of_ble_eq_true rfl)
  rw [lg_entry_eq]
  generalize (lg_sl ([.ref (X.2.1 0), .int p0, .int p1]) ++ List.replicate (6 - (lg_sl ([.ref (X.2.1 0), .int p0, .int p1])).length) Slot.unset).toArray = ls at hl ⊢
  have hl : lv_has ls 6 [(0, .ref (X.2.1 0)), (1, .int p0), (2, .int p1)] := hl
  refine lv_iload_n hx hb dX10_hale_0 rfl (lv_at hl 1 rfl) ?_
  refine lv_iconst (v := 0) hx hb dX10_hale_1 (by decide) ?_
  refine lv_bipush (v := 60) hx hb dX10_hale_2 (by decide) ?_
  refine xcS_iR (As := [.int p0, .int 0, .int 60]) (rest := []) hC hP hS (k_X10_within l X S p0 0 60) (va_cwS 3 hts gX10_hale_X10_within rfl rfl rfl hs_X10_within ⟨Nat.le_of_ble_eq_true rfl, Nat.le_of_ble_eq_true rfl⟩) rfl rfl hl.1 (Nat.le_of_ble_eq_true rfl) dX10_hale_4 (fun r_1 hp_r_1 H locs hP hS => ?_)
  obtain ⟨hr_1, hzr_1⟩ := hp_r_1
  refine lv_if_eq (tgt := 20) hx hb dX10_hale_7 (by decide) (fun c_2 => ?_) (fun c_2 => ?_)
  · refine lv_ldc (v := (-1000000002)) hx hb hown (hts (.constant RX10 87 (-1000000002)) (List.mem_of_getElem? (i := 1) rfl)) dX10_hale_20 ?_
    exact xret_iR hC hP hS hb hr ((by have hr_1 := hr_1.symm; subst hr_1; exact (ip c_2 rfl))) dX10_hale_22 hlocks
  · refine lv_iload_n hx hb dX10_hale_10 rfl (lv_at hl 2 rfl) ?_
    refine lv_iconst (v := 0) hx hb dX10_hale_11 (by decide) ?_
    refine lv_bipush (v := 100) hx hb dX10_hale_12 (by decide) ?_
    refine xcS_iR (As := [.int p1, .int 0, .int 100]) (rest := []) hC hP hS (k_X10_within l X S p1 0 100) (va_cwS 3 hts gX10_hale_X10_within rfl rfl rfl hs_X10_within ⟨Nat.le_of_ble_eq_true rfl, Nat.le_of_ble_eq_true rfl⟩) rfl rfl hl.1 (Nat.le_of_ble_eq_true rfl) dX10_hale_14 (fun r_3 hp_r_3 H locs hP hS => ?_)
    obtain ⟨hr_3, hzr_3⟩ := hp_r_3
    refine lv_if_ne (tgt := 23) hx hb dX10_hale_17 (by decide) (fun c_4 => ?_) (fun c_4 => ?_)
    · refine lv_ldc2 (v := 1000000000) hx hb hown (hts (.constantLong RX10 267 (1000000000)) (List.mem_of_getElem? (i := 2) rfl)) dX10_hale_23 ?_
      refine lv_lstore_n (lv' := [(3, .long 1000000000), (0, .ref (X.2.1 0)), (1, .int p0), (2, .int p1)]) hx hb dX10_hale_26 rfl hl (by decide) rfl (fun ls hl => ?_)
      refine lv_iconst (v := 0) hx hb dX10_hale_27 (by decide) ?_
      refine lv_istore (lv' := [(5, .int 0), (3, .long 1000000000), (0, .ref (X.2.1 0)), (1, .int p0), (2, .int p1)]) hx hb dX10_hale_28 hl (by decide) rfl (fun ls hl => ?_)
      have hLp_30 : ∀ (n : Nat) (x1_30 : Int32) (x2_30 : Int32) (x3_30 : Int64) (x5_30 : Int32), s_X10_hale_L30 n S x1_30 x2_30 x3_30 x5_30 → (∀ q : Int64, q = f_X10_hale_L30 n S x1_30 x2_30 x3_30 x5_30 → (∀ (H : Heap) (locs : List Loc), va_P X.1 vwCl (xW X S) H → va_S (xA X) s.heap H locs → ∀ (ls : Array Slot), lv_has ls 6 [(3, .long q)] → W p l e ({ frames := 1, cells := 0, slots := 0, locals := 22 } : Room) s m ([.ref (X.2.1 0), .int p0, .int p1] : List Value).toArray below meth c H locs 0 0 (MQ below (va_Qi (fun (r : Int32) (u : xS) => r = (f_X10_hale S p0 p1) ∧ u = S) (xI X) (xA X)) ([.ref (X.2.1 0), .int p0, .int p1] : List Value).toArray s 0 0 (xA X)) (F0 m 51 ls []))) → ∀ (H : Heap) (locs : List Loc), va_P X.1 vwCl (xW X S) H → va_S (xA X) s.heap H locs → ∀ (ls : Array Slot), lv_has ls 6 [(1, .int x1_30), (2, .int x2_30), (3, .long x3_30), (5, .int x5_30)] → W p l e ({ frames := 1, cells := 0, slots := 0, locals := 22 } : Room) s m ([.ref (X.2.1 0), .int p0, .int p1] : List Value).toArray below meth c H locs 0 0 (MQ below (va_Qi (fun (r : Int32) (u : xS) => r = (f_X10_hale S p0 p1) ∧ u = S) (xI X) (xA X)) ([.ref (X.2.1 0), .int p0, .int p1] : List Value).toArray s 0 0 (xA X)) (F0 m 30 ls []) := by
        intro n
        induction n with
        | zero => intro x1_30 x2_30 x3_30 x5_30 hs; exact hs.elim
        | succ n ih_30 =>
          intro x1_30 x2_30 x3_30 x5_30 hs_30 hex_30 H locs hP hS ls hl
          refine lv_iload hx hb dX10_hale_30 (lv_at hl 3 rfl) ?_
          refine lv_iload_n hx hb dX10_hale_32 rfl (lv_at hl 0 rfl) ?_
          refine lv_icmp_ge (tgt := 51) hx hb dX10_hale_33 (by decide) (fun c_5 => ?_) (fun c_5 => ?_)
          · have he_6 : f_X10_hale_L30 (n + 1) S x1_30 x2_30 x3_30 x5_30 = x3_30 := ((ip c_5 rfl))
            exact hex_30 _ he_6.symm _ _ hP hS ls (lv_sub hl [2] rfl)
          · refine lv_lload_n hx hb dX10_hale_36 rfl (lv_at hl 2 rfl) ?_
            refine lv_iload_n hx hb dX10_hale_37 rfl (lv_at hl 1 rfl) ?_
            refine lv_i2l (v := (x2_30 : Int32).toInt64) hx hb dX10_hale_38 rfl ?_
            refine lv_lmul hx hb dX10_hale_39 ?_
            refine lv_ldc2 (v := 100) hx hb hown (hts (.constantLong RX10 269 (100)) (List.mem_of_getElem? (i := 3) rfl)) dX10_hale_40 ?_
            refine lv_ldiv hx hb dX10_hale_43 (by decide) ?_
            refine lv_lstore_n (lv' := [(3, .long ((x3_30 * (x2_30 : Int32).toInt64) / 100)), (1, .int x1_30), (2, .int x2_30), (5, .int x5_30)]) hx hb dX10_hale_44 rfl hl (by decide) rfl (fun ls hl => ?_)
            refine lv_iinc (v := (x5_30 + 1)) (lv' := [(5, .int (x5_30 + 1)), (3, .long ((x3_30 * (x2_30 : Int32).toInt64) / 100)), (1, .int x1_30), (2, .int x2_30)]) hx hb dX10_hale_45 hl (k := 3) rfl rfl (by decide) rfl (fun ls hl => ?_)
            refine lv_goto (tgt := 30) hx hb dX10_hale_48 (by decide) ?_
            have he_7 : f_X10_hale_L30 (n + 1) S x1_30 x2_30 x3_30 x5_30 = f_X10_hale_L30 n S x1_30 x2_30 ((x3_30 * (x2_30 : Int32).toInt64) / 100) (x5_30 + 1) := ((iN c_5 rfl))
            exact ih_30 x1_30 x2_30 ((x3_30 * (x2_30 : Int32).toInt64) / 100) (x5_30 + 1) ((sn hs_30 c_5)) (fun q hq => hex_30 q (hq.trans he_7.symm)) _ _ hP hS ls (lv_sub hl [2, 3, 1, 0] rfl)
      refine hLp_30 ((fu 0 p0)) p0 p1 1000000000 0 (by have hr_1 := hr_1.symm; have hr_3 := hr_3.symm; subst hr_1 hr_3; exact nl (sn (sn hs c_2) c_4)) (fun q_30 hq_30 H locs hP hS ls hl => ?_) _ _ hP hS ls (lv_sub hl [3, 4, 1, 0] rfl)
      refine lv_lload_n hx hb dX10_hale_51 rfl (lv_at hl 0 rfl) ?_
      refine lv_l2i (v := (q_30).toInt32) hx hb dX10_hale_52 rfl ?_
      exact xret_iR hC hP hS hb hr ((by have hr_1 := hr_1.symm; have hr_3 := hr_3.symm; have hq_30 := hq_30.symm; subst hr_1 hr_3 hq_30; exact (iN c_2 (iN c_4 rfl)))) dX10_hale_53 hlocks
    · refine lv_ldc (v := (-1000000002)) hx hb hown (hts (.constant RX10 87 (-1000000002)) (List.mem_of_getElem? (i := 1) rfl)) dX10_hale_20 ?_
      exact xret_iR hC hP hS hb hr ((by have hr_1 := hr_1.symm; have hr_3 := hr_3.symm; subst hr_1 hr_3; exact (iN c_2 (ip c_4 rfl)))) dX10_hale_22 hlocks
theorem hd_X10_note : yX10_note.cls = RX10 ∧ yX10_note.cls ≠ "java/lang/invoke/MethodHandle" ∧ yX10_note.cls ≠ "java/lang/invoke/VarHandle" ∧ (parseMethodDescriptor yX10_note.desc).map (fun d => d.parameters.length) = some 3 := by decide +kernel
set_option maxHeartbeats 4000000 in
set_option maxRecDepth 100000 in
theorem k_X10_note (l : Launch) (X : xX) (S : xS) (p0 : Int32) (p1 : Int32) (p2 : Int32) : Met l yX10_note wsX10_note ({ frames := 2, cells := 0, slots := 0, locals := 45 } : Room) (va_Pc [.ref (X.2.1 0), .int p0, .int p1, .int p2] (xI X S)) (va_Qi (fun (r : Int32) (u : xS) => r = (f_X10_note S p0 p1 p2).1 ∧ u = (f_X10_note S p0 p1 p2).2) (xI X) (xA X)) 0 0 (xA X) := by
  refine Met.ofW (cc := cX10_note) (maxL := 4) (ret := (some .int)) (by decide +kernel) rfl ?_
  intro p e s m args below meth c s₁ B hml hv
  obtain ⟨rfl, hP, hK, hN, hJ⟩ := hv
  have hx := B.exec
  have hb := B.bytes
  have hr := B.returns
  have hts := atoms_spec (ws := wsX10_note) B.pre
  have hown : s.vm.findClass RX10 = some m.cls := findClass_of_methodNamed B.named
  have hlocks := B.notSynchronized
  have hC : xC X p m c cX10_note 4 s _ wsX10_note RX10 := ⟨⟨hx, hb, hml, hown, hts⟩, hK, hN, hJ⟩
  have hS : va_S (xA X) s.heap s.heap [] := va_S.rf
  have hin_X10 : ∀ w ∈ u_ws RX10 TX10 10, w ∈ wsX10_note := by decide +kernel
  have hin_X5 : ∀ w ∈ u_ws RX5 TX5 4, w ∈ wsX10_note := by decide +kernel
  have hl := lv_entry ([.ref (X.2.1 0), .int p0, .int p1, .int p2]) (n := 4) (Nat.le_of_ble_eq_true rfl)
  rw [lg_entry_eq]
  generalize (lg_sl ([.ref (X.2.1 0), .int p0, .int p1, .int p2]) ++ List.replicate (4 - (lg_sl ([.ref (X.2.1 0), .int p0, .int p1, .int p2])).length) Slot.unset).toArray = ls at hl ⊢
  have hl : lv_has ls 4 [(0, .ref (X.2.1 0)), (1, .int p0), (2, .int p1), (3, .int p2)] := hl
  refine lv_iload_n hx hb dX10_note_0 rfl (lv_at hl 1 rfl) ?_
  refine lv_iconst (v := 0) hx hb dX10_note_1 (by decide) ?_
  refine lv_iconst (v := 2) hx hb dX10_note_2 (by decide) ?_
  refine xcS_iR (As := [.int p0, .int 0, .int 2]) (rest := []) hC hP hS (k_X10_within l X S p0 0 2) (va_cwS 3 hts gX10_note_X10_within rfl rfl rfl hs_X10_within ⟨Nat.le_of_ble_eq_true rfl, Nat.le_of_ble_eq_true rfl⟩) rfl rfl hl.1 (Nat.le_of_ble_eq_true rfl) dX10_note_3 (fun r_1 hp_r_1 H locs hP hS => ?_)
  obtain ⟨hr_1, hzr_1⟩ := hp_r_1
  refine lv_if_eq (tgt := 20) hx hb dX10_note_6 (by decide) (fun c_2 => ?_) (fun c_2 => ?_)
  · refine lv_ldc (v := (-1000000002)) hx hb hown (hts (.constant RX10 87 (-1000000002)) (List.mem_of_getElem? (i := 1) rfl)) dX10_note_20 ?_
    exact xret_iW hC hP hS hb hr ((by have hr_1 := hr_1.symm; subst hr_1; exact (ip c_2 rfl))) dX10_note_22 hlocks
  · refine lv_iload_n hx hb dX10_note_9 rfl (lv_at hl 2 rfl) ?_
    refine lv_bipush (v := (-9)) hx hb dX10_note_10 (by decide) ?_
    refine lv_bipush (v := 9) hx hb dX10_note_12 (by decide) ?_
    refine xcS_iR (As := [.int p1, .int (-9), .int 9]) (rest := []) hC hP hS (k_X10_within l X S p1 (-9) 9) (va_cwS 3 hts gX10_note_X10_within rfl rfl rfl hs_X10_within ⟨Nat.le_of_ble_eq_true rfl, Nat.le_of_ble_eq_true rfl⟩) rfl rfl hl.1 (Nat.le_of_ble_eq_true rfl) dX10_note_14 (fun r_3 hp_r_3 H locs hP hS => ?_)
    obtain ⟨hr_3, hzr_3⟩ := hp_r_3
    refine lv_if_ne (tgt := 23) hx hb dX10_note_17 (by decide) (fun c_4 => ?_) (fun c_4 => ?_)
    · refine lv_aload_n hx hb dX10_note_23 rfl (lv_at hl 0 rfl) ?_
      refine xget (ref := "AbsentPraise") (T := TX10) (v := .ref (X.2.1 19)) hC hP hin_X10 xo_X10 rfl 6 (by decide) (List.mem_of_getElem? (i := 2) rfl) rfl rfl dX10_note_24 ?_
      refine xget (ref := "AbsentPraise$Notes") (T := TX5) (v := .int (S 19 3)) hC hP hin_X5 xo_X5 rfl 3 (by decide) (List.mem_of_getElem? (i := 3) rfl) rfl rfl dX10_note_27 ?_
      refine lv_bipush (v := 6) hx hb dX10_note_30 (by decide) ?_
      refine lv_icmp_lt (tgt := 38) hx hb dX10_note_32 (by decide) (fun c_5 => ?_) (fun c_5 => ?_)
      · refine lv_aload_n hx hb dX10_note_38 rfl (lv_at hl 0 rfl) ?_
        refine xget (ref := "AbsentPraise") (T := TX10) (v := .ref (X.2.1 19)) hC hP hin_X10 xo_X10 rfl 6 (by decide) (List.mem_of_getElem? (i := 2) rfl) rfl rfl dX10_note_39 ?_
        refine lv_iload_n hx hb dX10_note_42 rfl (lv_at hl 1 rfl) ?_
        refine lv_iload_n hx hb dX10_note_43 rfl (lv_at hl 2 rfl) ?_
        refine lv_iload_n hx hb dX10_note_44 rfl (lv_at hl 3 rfl) ?_
        refine xcV_iW (b := 19) (As := [.int p0, .int p1, .int p2]) (rest := []) hC hP hS (k_X5_add l X S p0 p1 p2) (cwV 3 hts gX10_note_X5_add rfl rfl rfl hd_X5_add ⟨Nat.le_of_ble_eq_true rfl, Nat.le_of_ble_eq_true rfl⟩) xo_X5 rfl rfl rfl hl.1 (Nat.le_of_ble_eq_true rfl) dX10_note_45 (fun r_6 S_7 hp_r_6 H locs hP hS => ?_)
        obtain ⟨hr_6, hS_7⟩ := hp_r_6
        exact xret_iW hC hP hS hb hr ((by have hr_1 := hr_1.symm; have hr_3 := hr_3.symm; have hr_6 := hr_6.symm; have hS_7 := hS_7.symm; subst hr_1 hr_3 hr_6 hS_7; exact (iN c_2 (iN c_4 (ip c_5 rfl))))) dX10_note_48 hlocks
      · refine lv_ldc (v := (-1000000004)) hx hb hown (hts (.constant RX10 92 (-1000000004)) (List.mem_of_getElem? (i := 4) rfl)) dX10_note_35 ?_
        exact xret_iW hC hP hS hb hr ((by have hr_1 := hr_1.symm; have hr_3 := hr_3.symm; subst hr_1 hr_3; exact (iN c_2 (iN c_4 (iN c_5 rfl))))) dX10_note_37 hlocks
    · refine lv_ldc (v := (-1000000002)) hx hb hown (hts (.constant RX10 87 (-1000000002)) (List.mem_of_getElem? (i := 1) rfl)) dX10_note_20 ?_
      exact xret_iW hC hP hS hb hr ((by have hr_1 := hr_1.symm; have hr_3 := hr_3.symm; subst hr_1 hr_3; exact (iN c_2 (ip c_4 rfl)))) dX10_note_22 hlocks
theorem hd_X10_thinks : yX10_thinks.cls = RX10 ∧ yX10_thinks.cls ≠ "java/lang/invoke/MethodHandle" ∧ yX10_thinks.cls ≠ "java/lang/invoke/VarHandle" ∧ (parseMethodDescriptor yX10_thinks.desc).map (fun d => d.parameters.length) = some 1 := by decide +kernel
set_option maxHeartbeats 4000000 in
set_option maxRecDepth 100000 in
theorem k_X10_thinks (l : Launch) (X : xX) (S : xS) (p0 : Int32) (hs : s_X10_thinks S p0) : Met l yX10_thinks wsX10_thinks ({ frames := 4, cells := 0, slots := 0, locals := 89 } : Room) (va_Pc [.ref (X.2.1 0), .int p0] (xI X S)) (va_Qi (fun (r : Int32) (u : xS) => r = (f_X10_thinks S p0) ∧ u = S) (xI X) (xA X)) 0 0 (xA X) := by
  refine Met.ofW (cc := cX10_thinks) (maxL := 2) (ret := (some .int)) (by decide +kernel) rfl ?_
  intro p e s m args below meth c s₁ B hml hv
  obtain ⟨rfl, hP, hK, hN, hJ⟩ := hv
  have hx := B.exec
  have hb := B.bytes
  have hr := B.returns
  have hts := atoms_spec (ws := wsX10_thinks) B.pre
  have hown : s.vm.findClass RX10 = some m.cls := findClass_of_methodNamed B.named
  have hlocks := B.notSynchronized
  have hC : xC X p m c cX10_thinks 2 s _ wsX10_thinks RX10 := ⟨⟨hx, hb, hml, hown, hts⟩, hK, hN, hJ⟩
  have hS : va_S (xA X) s.heap s.heap [] := va_S.rf
  have hin_X10 : ∀ w ∈ u_ws RX10 TX10 10, w ∈ wsX10_thinks := by decide +kernel
  have hl := lv_entry ([.ref (X.2.1 0), .int p0]) (n := 2) (Nat.le_of_ble_eq_true rfl)
  rw [lg_entry_eq]
  generalize (lg_sl ([.ref (X.2.1 0), .int p0]) ++ List.replicate (2 - (lg_sl ([.ref (X.2.1 0), .int p0])).length) Slot.unset).toArray = ls at hl ⊢
  have hl : lv_has ls 2 [(0, .ref (X.2.1 0)), (1, .int p0)] := hl
  refine lv_iload_n hx hb dX10_thinks_0 rfl (lv_at hl 1 rfl) ?_
  by_cases c_1 : p0 = 0
  · refine lv_tableIn (off := 27) (tgt := 28) hx hb dX10_thinks_1 (by rw [c_1]; decide) (by rw [c_1]; decide) (by rw [c_1]; rfl) (by decide) ?_
    refine lv_aload_n hx hb dX10_thinks_28 rfl (lv_at hl 0 rfl) ?_
    refine xget (ref := "AbsentPraise") (T := TX10) (v := .ref (X.2.1 19)) hC hP hin_X10 xo_X10 rfl 6 (by decide) (List.mem_of_getElem? (i := 1) rfl) rfl rfl dX10_thinks_29 ?_
    have hn_2 : s_X5_fitting S := (nl (sp hs c_1))
    refine xcV_iR (b := 19) (As := []) (rest := []) hC hP hS (k_X5_fitting l X S hn_2) (cwV 0 hts gX10_thinks_X5_fitting rfl rfl rfl hd_X5_fitting ⟨Nat.le_of_ble_eq_true rfl, Nat.le_of_ble_eq_true rfl⟩) xo_X5 rfl rfl rfl hl.1 (Nat.le_of_ble_eq_true rfl) dX10_thinks_32 (fun r_3 hr_3 H locs hP hS => ?_)
    refine xcS_iR (As := [.int r_3]) (rest := []) hC hP hS (k_J6_bitCount_0f7a4 l X S r_3) (va_cwS 1 hts gX10_thinks_J6_bitCount_0f7a4 rfl rfl rfl hs_J6_bitCount_0f7a4 ⟨Nat.le_of_ble_eq_true rfl, Nat.le_of_ble_eq_true rfl⟩) rfl rfl hl.1 (Nat.le_of_ble_eq_true rfl) dX10_thinks_35 (fun r_4 hr_4 H locs hP hS => ?_)
    exact xret_iR hC hP hS hb hr ((by have hr_3 := hr_3.symm; have hr_4 := hr_4.symm; subst hr_3 hr_4; exact (ip c_1 rfl))) dX10_thinks_38 hlocks
  · by_cases c_5 : p0 = 1
    · refine lv_tableIn (off := 38) (tgt := 39) hx hb dX10_thinks_1 (by rw [c_5]; decide) (by rw [c_5]; decide) (by rw [c_5]; rfl) (by decide) ?_
      refine lv_aload_n hx hb dX10_thinks_39 rfl (lv_at hl 0 rfl) ?_
      refine xget (ref := "AbsentPraise") (T := TX10) (v := .ref (X.2.1 19)) hC hP hin_X10 xo_X10 rfl 6 (by decide) (List.mem_of_getElem? (i := 1) rfl) rfl rfl dX10_thinks_40 ?_
      have hn_6 : s_X5_leastFitting S := (nl (sp (sn hs c_1) c_5))
      refine xcV_iR (b := 19) (As := []) (rest := []) hC hP hS (k_X5_leastFitting l X S hn_6) (cwV 0 hts gX10_thinks_X5_leastFitting rfl rfl rfl hd_X5_leastFitting ⟨Nat.le_of_ble_eq_true rfl, Nat.le_of_ble_eq_true rfl⟩) xo_X5 rfl rfl rfl hl.1 (Nat.le_of_ble_eq_true rfl) dX10_thinks_43 (fun r_7 hr_7 H locs hP hS => ?_)
      exact xret_iR hC hP hS hb hr ((by have hr_7 := hr_7.symm; subst hr_7; exact (iN c_1 (ip c_5 rfl)))) dX10_thinks_46 hlocks
    · by_cases c_8 : p0 = 2
      · refine lv_tableIn (off := 46) (tgt := 47) hx hb dX10_thinks_1 (by rw [c_8]; decide) (by rw [c_8]; decide) (by rw [c_8]; rfl) (by decide) ?_
        refine lv_aload_n hx hb dX10_thinks_47 rfl (lv_at hl 0 rfl) ?_
        refine xget (ref := "AbsentPraise") (T := TX10) (v := .ref (X.2.1 19)) hC hP hin_X10 xo_X10 rfl 6 (by decide) (List.mem_of_getElem? (i := 1) rfl) rfl rfl dX10_thinks_48 ?_
        have hn_9 : s_X5_greatestFitting S := (nl (sp (sn (sn hs c_1) c_5) c_8))
        refine xcV_iR (b := 19) (As := []) (rest := []) hC hP hS (k_X5_greatestFitting l X S hn_9) (cwV 0 hts gX10_thinks_X5_greatestFitting rfl rfl rfl hd_X5_greatestFitting ⟨Nat.le_of_ble_eq_true rfl, Nat.le_of_ble_eq_true rfl⟩) xo_X5 rfl rfl rfl hl.1 (Nat.le_of_ble_eq_true rfl) dX10_thinks_51 (fun r_10 hr_10 H locs hP hS => ?_)
        exact xret_iR hC hP hS hb hr ((by have hr_10 := hr_10.symm; subst hr_10; exact (iN c_1 (iN c_5 (ip c_8 rfl))))) dX10_thinks_54 hlocks
      · refine lv_tableOut (tgt := 55) hx hb dX10_thinks_1 (sw_out3 c_1 c_5 c_8) (by decide) ?_
        refine lv_ldc (v := (-1000000002)) hx hb hown (hts (.constant RX10 87 (-1000000002)) (List.mem_of_getElem? (i := 2) rfl)) dX10_thinks_55 ?_
        exact xret_iR hC hP hS hb hr (((iN c_1 (iN c_5 (iN c_8 rfl))))) dX10_thinks_57 hlocks
theorem hd_X10_ask : yX10_ask.cls = RX10 ∧ yX10_ask.cls ≠ "java/lang/invoke/MethodHandle" ∧ yX10_ask.cls ≠ "java/lang/invoke/VarHandle" ∧ (parseMethodDescriptor yX10_ask.desc).map (fun d => d.parameters.length) = some 1 := by decide +kernel
set_option maxHeartbeats 4000000 in
set_option maxRecDepth 100000 in
theorem k_X10_ask (l : Launch) (X : xX) (S : xS) (p0 : Int32) (hs : s_X10_ask S p0) : Met l yX10_ask wsX10_ask ({ frames := 4, cells := 0, slots := 0, locals := 91 } : Room) (va_Pc [.ref (X.2.1 0), .int p0] (xI X S)) (va_Qi (fun (r : Int32) (u : xS) => r = (f_X10_ask S p0) ∧ u = S) (xI X) (xA X)) 0 0 (xA X) := by
  refine Met.ofW (cc := cX10_ask) (maxL := 2) (ret := (some .int)) (by decide +kernel) rfl ?_
  intro p e s m args below meth c s₁ B hml hv
  obtain ⟨rfl, hP, hK, hN, hJ⟩ := hv
  have hx := B.exec
  have hb := B.bytes
  have hr := B.returns
  have hts := atoms_spec (ws := wsX10_ask) B.pre
  have hown : s.vm.findClass RX10 = some m.cls := findClass_of_methodNamed B.named
  have hlocks := B.notSynchronized
  have hC : xC X p m c cX10_ask 2 s _ wsX10_ask RX10 := ⟨⟨hx, hb, hml, hown, hts⟩, hK, hN, hJ⟩
  have hS : va_S (xA X) s.heap s.heap [] := va_S.rf
  have hin_X10 : ∀ w ∈ u_ws RX10 TX10 10, w ∈ wsX10_ask := by decide +kernel
  have hl := lv_entry ([.ref (X.2.1 0), .int p0]) (n := 2) (Nat.le_of_ble_eq_true rfl)
  rw [lg_entry_eq]
  generalize (lg_sl ([.ref (X.2.1 0), .int p0]) ++ List.replicate (2 - (lg_sl ([.ref (X.2.1 0), .int p0])).length) Slot.unset).toArray = ls at hl ⊢
  have hl : lv_has ls 2 [(0, .ref (X.2.1 0)), (1, .int p0)] := hl
  refine lv_iload_n hx hb dX10_ask_0 rfl (lv_at hl 1 rfl) ?_
  refine lv_iconst (v := 0) hx hb dX10_ask_1 (by decide) ?_
  refine lv_iconst (v := 2) hx hb dX10_ask_2 (by decide) ?_
  refine xcS_iR (As := [.int p0, .int 0, .int 2]) (rest := []) hC hP hS (k_X10_within l X S p0 0 2) (va_cwS 3 hts gX10_ask_X10_within rfl rfl rfl hs_X10_within ⟨Nat.le_of_ble_eq_true rfl, Nat.le_of_ble_eq_true rfl⟩) rfl rfl hl.1 (Nat.le_of_ble_eq_true rfl) dX10_ask_3 (fun r_1 hp_r_1 H locs hP hS => ?_)
  obtain ⟨hr_1, hzr_1⟩ := hp_r_1
  refine lv_if_eq (tgt := 20) hx hb dX10_ask_6 (by decide) (fun c_2 => ?_) (fun c_2 => ?_)
  · refine lv_ldc (v := (-1000000002)) hx hb hown (hts (.constant RX10 87 (-1000000002)) (List.mem_of_getElem? (i := 2) rfl)) dX10_ask_20 ?_
    exact xret_iR hC hP hS hb hr ((by have hr_1 := hr_1.symm; subst hr_1; exact (ip c_2 rfl))) dX10_ask_22 hlocks
  · refine lv_aload_n hx hb dX10_ask_9 rfl (lv_at hl 0 rfl) ?_
    refine xget (ref := "AbsentPraise") (T := TX10) (v := .ref (X.2.1 19)) hC hP hin_X10 xo_X10 rfl 6 (by decide) (List.mem_of_getElem? (i := 1) rfl) rfl rfl dX10_ask_10 ?_
    refine lv_iload_n hx hb dX10_ask_13 rfl (lv_at hl 1 rfl) ?_
    have hn_3 : s_X5_bestQuestion S p0 := (by have hr_1 := hr_1.symm; subst hr_1; exact nl (sn hs c_2))
    refine xcV_iR (b := 19) (As := [.int p0]) (rest := []) hC hP hS (k_X5_bestQuestion l X S p0 hn_3) (cwV 1 hts gX10_ask_X5_bestQuestion rfl rfl rfl hd_X5_bestQuestion ⟨Nat.le_of_ble_eq_true rfl, Nat.le_of_ble_eq_true rfl⟩) xo_X5 rfl rfl rfl hl.1 (Nat.le_of_ble_eq_true rfl) dX10_ask_14 (fun r_4 hr_4 H locs hP hS => ?_)
    refine lv_goto (tgt := 22) hx hb dX10_ask_17 (by decide) ?_
    exact xret_iR hC hP hS hb hr ((by have hr_1 := hr_1.symm; have hr_4 := hr_4.symm; subst hr_1 hr_4; exact (iN c_2 rfl))) dX10_ask_22 hlocks
theorem hd_X10_listens : yX10_listens.cls = RX10 ∧ yX10_listens.cls ≠ "java/lang/invoke/MethodHandle" ∧ yX10_listens.cls ≠ "java/lang/invoke/VarHandle" ∧ (parseMethodDescriptor yX10_listens.desc).map (fun d => d.parameters.length) = some 3 := by decide +kernel
set_option maxHeartbeats 4000000 in
set_option maxRecDepth 100000 in
theorem k_X10_listens (l : Launch) (X : xX) (S : xS) (p0 : Int32) (p1 : Int32) (p2 : Int32) (hs : s_X10_listens S p0 p1 p2) : Met l yX10_listens wsX10_listens ({ frames := 4, cells := 0, slots := 0, locals := 95 } : Room) (va_Pc [.ref (X.2.1 0), .int p0, .int p1, .int p2] (xI X S)) (va_Qi (fun (r : Int32) (u : xS) => r = (f_X10_listens S p0 p1 p2) ∧ u = S) (xI X) (xA X)) 0 0 (xA X) := by
  refine Met.ofW (cc := cX10_listens) (maxL := 4) (ret := (some .int)) (by decide +kernel) rfl ?_
  intro p e s m args below meth c s₁ B hml hv
  obtain ⟨rfl, hP, hK, hN, hJ⟩ := hv
  have hx := B.exec
  have hb := B.bytes
  have hr := B.returns
  have hts := atoms_spec (ws := wsX10_listens) B.pre
  have hown : s.vm.findClass RX10 = some m.cls := findClass_of_methodNamed B.named
  have hlocks := B.notSynchronized
  have hC : xC X p m c cX10_listens 4 s _ wsX10_listens RX10 := ⟨⟨hx, hb, hml, hown, hts⟩, hK, hN, hJ⟩
  have hS : va_S (xA X) s.heap s.heap [] := va_S.rf
  have hin_X10 : ∀ w ∈ u_ws RX10 TX10 10, w ∈ wsX10_listens := by decide +kernel
  have hl := lv_entry ([.ref (X.2.1 0), .int p0, .int p1, .int p2]) (n := 4) (Nat.le_of_ble_eq_true rfl)
  rw [lg_entry_eq]
  generalize (lg_sl ([.ref (X.2.1 0), .int p0, .int p1, .int p2]) ++ List.replicate (4 - (lg_sl ([.ref (X.2.1 0), .int p0, .int p1, .int p2])).length) Slot.unset).toArray = ls at hl ⊢
  have hl : lv_has ls 4 [(0, .ref (X.2.1 0)), (1, .int p0), (2, .int p1), (3, .int p2)] := hl
  refine lv_aload_n hx hb dX10_listens_0 rfl (lv_at hl 0 rfl) ?_
  refine xget (ref := "AbsentPraise") (T := TX10) (v := .ref (X.2.1 9)) hC hP hin_X10 xo_X10 rfl 1 (by decide) (List.mem_of_getElem? (i := 1) rfl) rfl rfl dX10_listens_1 ?_
  refine lv_iload_n hx hb dX10_listens_4 rfl (lv_at hl 1 rfl) ?_
  refine lv_iload_n hx hb dX10_listens_5 rfl (lv_at hl 2 rfl) ?_
  refine xcV_iR (b := 9) (As := [.int p0, .int p1]) (rest := []) hC hP hS (k_X2_isPair l X S 9 p0 p1 (by decide)) (cwV 2 hts gX10_listens_X2_isPair rfl rfl rfl hd_X2_isPair ⟨Nat.le_of_ble_eq_true rfl, Nat.le_of_ble_eq_true rfl⟩) (xo_H (by decide)) rfl rfl rfl hl.1 (Nat.le_of_ble_eq_true rfl) dX10_listens_6 (fun r_1 hp_r_1 H locs hP hS => ?_)
  obtain ⟨hr_1, hzr_1⟩ := hp_r_1
  refine lv_if_ne (tgt := 15) hx hb dX10_listens_9 (by decide) (fun c_2 => ?_) (fun c_2 => ?_)
  · refine lv_iload_n hx hb dX10_listens_15 rfl (lv_at hl 3 rfl) ?_
    refine lv_bipush (v := (-9)) hx hb dX10_listens_16 (by decide) ?_
    refine lv_bipush (v := 9) hx hb dX10_listens_18 (by decide) ?_
    refine xcS_iR (As := [.int p2, .int (-9), .int 9]) (rest := []) hC hP hS (k_X10_within l X S p2 (-9) 9) (va_cwS 3 hts gX10_listens_X10_within rfl rfl rfl hs_X10_within ⟨Nat.le_of_ble_eq_true rfl, Nat.le_of_ble_eq_true rfl⟩) rfl rfl hl.1 (Nat.le_of_ble_eq_true rfl) dX10_listens_20 (fun r_3 hp_r_3 H locs hP hS => ?_)
    obtain ⟨hr_3, hzr_3⟩ := hp_r_3
    refine lv_if_ne (tgt := 29) hx hb dX10_listens_23 (by decide) (fun c_4 => ?_) (fun c_4 => ?_)
    · refine lv_aload_n hx hb dX10_listens_29 rfl (lv_at hl 0 rfl) ?_
      refine xget (ref := "AbsentPraise") (T := TX10) (v := .ref (X.2.1 16)) hC hP hin_X10 xo_X10 rfl 4 (by decide) (List.mem_of_getElem? (i := 4) rfl) rfl rfl dX10_listens_30 ?_
      refine lv_iload_n hx hb dX10_listens_33 rfl (lv_at hl 1 rfl) ?_
      refine lv_iload_n hx hb dX10_listens_34 rfl (lv_at hl 2 rfl) ?_
      refine lv_iload_n hx hb dX10_listens_35 rfl (lv_at hl 3 rfl) ?_
      have hn_5 : s_X9_listeningRooms S p0 p1 p2 := (by have hr_1 := hr_1.symm; have hr_3 := hr_3.symm; subst hr_1 hr_3; exact nl (sn (sn hs c_2) c_4))
      refine xcV_iR (b := 16) (As := [.int p0, .int p1, .int p2]) (rest := []) hC hP hS (k_X9_listeningRooms l X S p0 p1 p2 hn_5) (cwV 3 hts gX10_listens_X9_listeningRooms rfl rfl rfl hd_X9_listeningRooms ⟨Nat.le_of_ble_eq_true rfl, Nat.le_of_ble_eq_true rfl⟩) xo_X9 rfl rfl rfl hl.1 (Nat.le_of_ble_eq_true rfl) dX10_listens_36 (fun r_6 hr_6 H locs hP hS => ?_)
      exact xret_iR hC hP hS hb hr ((by have hr_1 := hr_1.symm; have hr_3 := hr_3.symm; have hr_6 := hr_6.symm; subst hr_1 hr_3 hr_6; exact (iN c_2 (iN c_4 rfl)))) dX10_listens_39 hlocks
    · refine lv_ldc (v := (-1000000002)) hx hb hown (hts (.constant RX10 87 (-1000000002)) (List.mem_of_getElem? (i := 3) rfl)) dX10_listens_26 ?_
      exact xret_iR hC hP hS hb hr ((by have hr_1 := hr_1.symm; have hr_3 := hr_3.symm; subst hr_1 hr_3; exact (iN c_2 (ip c_4 rfl)))) dX10_listens_28 hlocks
  · refine lv_ldc (v := (-1000000001)) hx hb hown (hts (.constant RX10 162 (-1000000001)) (List.mem_of_getElem? (i := 2) rfl)) dX10_listens_12 ?_
    exact xret_iR hC hP hS hb hr ((by have hr_1 := hr_1.symm; subst hr_1; exact (ip c_2 rfl))) dX10_listens_14 hlocks
theorem hd_X10_write : yX10_write.cls = RX10 ∧ yX10_write.cls ≠ "java/lang/invoke/MethodHandle" ∧ yX10_write.cls ≠ "java/lang/invoke/VarHandle" ∧ (parseMethodDescriptor yX10_write.desc).map (fun d => d.parameters.length) = some 2 := by decide +kernel
set_option maxHeartbeats 4000000 in
set_option maxRecDepth 100000 in
theorem k_X10_write (l : Launch) (X : xX) (S : xS) (p0 : Int32) (p1 : Int32) : Met l yX10_write wsX10_write ({ frames := 2, cells := 0, slots := 0, locals := 44 } : Room) (va_Pc [.ref (X.2.1 0), .int p0, .int p1] (xI X S)) (va_Qi (fun (r : Int32) (u : xS) => r = (f_X10_write S p0 p1).1 ∧ u = (f_X10_write S p0 p1).2) (xI X) (xA X)) 0 0 (xA X) := by
  refine Met.ofW (cc := cX10_write) (maxL := 3) (ret := (some .int)) (by decide +kernel) rfl ?_
  intro p e s m args below meth c s₁ B hml hv
  obtain ⟨rfl, hP, hK, hN, hJ⟩ := hv
  have hx := B.exec
  have hb := B.bytes
  have hr := B.returns
  have hts := atoms_spec (ws := wsX10_write) B.pre
  have hown : s.vm.findClass RX10 = some m.cls := findClass_of_methodNamed B.named
  have hlocks := B.notSynchronized
  have hC : xC X p m c cX10_write 3 s _ wsX10_write RX10 := ⟨⟨hx, hb, hml, hown, hts⟩, hK, hN, hJ⟩
  have hS : va_S (xA X) s.heap s.heap [] := va_S.rf
  have hin_X0 : ∀ w ∈ u_ws RX0 TX0 3, w ∈ wsX10_write := by decide +kernel
  have hin_X10 : ∀ w ∈ u_ws RX10 TX10 10, w ∈ wsX10_write := by decide +kernel
  have hl := lv_entry ([.ref (X.2.1 0), .int p0, .int p1]) (n := 3) (Nat.le_of_ble_eq_true rfl)
  rw [lg_entry_eq]
  generalize (lg_sl ([.ref (X.2.1 0), .int p0, .int p1]) ++ List.replicate (3 - (lg_sl ([.ref (X.2.1 0), .int p0, .int p1])).length) Slot.unset).toArray = ls at hl ⊢
  have hl : lv_has ls 3 [(0, .ref (X.2.1 0)), (1, .int p0), (2, .int p1)] := hl
  refine lv_aload_n hx hb dX10_write_0 rfl (lv_at hl 0 rfl) ?_
  refine xget (ref := "AbsentPraise") (T := TX10) (v := .ref (X.2.1 9)) hC hP hin_X10 xo_X10 rfl 1 (by decide) (List.mem_of_getElem? (i := 1) rfl) rfl rfl dX10_write_1 ?_
  refine lv_iload_n hx hb dX10_write_4 rfl (lv_at hl 1 rfl) ?_
  refine xcV_iR (b := 9) (As := [.int p0]) (rest := []) hC hP hS (k_X2_isPerson l X S 9 p0 (by decide)) (cwV 1 hts gX10_write_X2_isPerson rfl rfl rfl hd_X2_isPerson ⟨Nat.le_of_ble_eq_true rfl, Nat.le_of_ble_eq_true rfl⟩) (xo_H (by decide)) rfl rfl rfl hl.1 (Nat.le_of_ble_eq_true rfl) dX10_write_5 (fun r_1 hp_r_1 H locs hP hS => ?_)
  obtain ⟨hr_1, hzr_1⟩ := hp_r_1
  refine lv_if_ne (tgt := 14) hx hb dX10_write_8 (by decide) (fun c_2 => ?_) (fun c_2 => ?_)
  · refine lv_iload_n hx hb dX10_write_14 rfl (lv_at hl 2 rfl) ?_
    refine lv_sipush (v := (-9999)) hx hb dX10_write_15 (by decide) ?_
    refine lv_sipush (v := 9999) hx hb dX10_write_18 (by decide) ?_
    refine xcS_iR (As := [.int p1, .int (-9999), .int 9999]) (rest := []) hC hP hS (k_X10_within l X S p1 (-9999) 9999) (va_cwS 3 hts gX10_write_X10_within rfl rfl rfl hs_X10_within ⟨Nat.le_of_ble_eq_true rfl, Nat.le_of_ble_eq_true rfl⟩) rfl rfl hl.1 (Nat.le_of_ble_eq_true rfl) dX10_write_21 (fun r_3 hp_r_3 H locs hP hS => ?_)
    obtain ⟨hr_3, hzr_3⟩ := hp_r_3
    refine lv_if_ne (tgt := 30) hx hb dX10_write_24 (by decide) (fun c_4 => ?_) (fun c_4 => ?_)
    · refine lv_aload_n hx hb dX10_write_30 rfl (lv_at hl 0 rfl) ?_
      refine xget (ref := "AbsentPraise") (T := TX10) (v := .ref (X.2.1 23)) hC hP hin_X10 xo_X10 rfl 7 (by decide) (List.mem_of_getElem? (i := 4) rfl) rfl rfl dX10_write_31 ?_
      refine xget (ref := "AbsentPraise$Book") (T := TX0) (v := .int (S 23 2)) hC hP hin_X0 xo_X0 rfl 2 (by decide) (List.mem_of_getElem? (i := 5) rfl) rfl rfl dX10_write_34 ?_
      refine lv_bipush (v := 15) hx hb dX10_write_37 (by decide) ?_
      refine lv_icmp_lt (tgt := 45) hx hb dX10_write_39 (by decide) (fun c_5 => ?_) (fun c_5 => ?_)
      · refine lv_aload_n hx hb dX10_write_45 rfl (lv_at hl 0 rfl) ?_
        refine xget (ref := "AbsentPraise") (T := TX10) (v := .ref (X.2.1 23)) hC hP hin_X10 xo_X10 rfl 7 (by decide) (List.mem_of_getElem? (i := 4) rfl) rfl rfl dX10_write_46 ?_
        refine lv_iload_n hx hb dX10_write_49 rfl (lv_at hl 1 rfl) ?_
        refine lv_iload_n hx hb dX10_write_50 rfl (lv_at hl 2 rfl) ?_
        refine xcV_iW (b := 23) (As := [.int p0, .int p1]) (rest := []) hC hP hS (k_X0_add l X S p0 p1) (cwV 2 hts gX10_write_X0_add rfl rfl rfl hd_X0_add ⟨Nat.le_of_ble_eq_true rfl, Nat.le_of_ble_eq_true rfl⟩) xo_X0 rfl rfl rfl hl.1 (Nat.le_of_ble_eq_true rfl) dX10_write_51 (fun r_6 S_7 hp_r_6 H locs hP hS => ?_)
        obtain ⟨hr_6, hS_7⟩ := hp_r_6
        exact xret_iW hC hP hS hb hr ((by have hr_1 := hr_1.symm; have hr_3 := hr_3.symm; have hr_6 := hr_6.symm; have hS_7 := hS_7.symm; subst hr_1 hr_3 hr_6 hS_7; exact (iN c_2 (iN c_4 (ip c_5 rfl))))) dX10_write_54 hlocks
      · refine lv_ldc (v := (-1000000004)) hx hb hown (hts (.constant RX10 92 (-1000000004)) (List.mem_of_getElem? (i := 6) rfl)) dX10_write_42 ?_
        exact xret_iW hC hP hS hb hr ((by have hr_1 := hr_1.symm; have hr_3 := hr_3.symm; subst hr_1 hr_3; exact (iN c_2 (iN c_4 (iN c_5 rfl))))) dX10_write_44 hlocks
    · refine lv_ldc (v := (-1000000002)) hx hb hown (hts (.constant RX10 87 (-1000000002)) (List.mem_of_getElem? (i := 3) rfl)) dX10_write_27 ?_
      exact xret_iW hC hP hS hb hr ((by have hr_1 := hr_1.symm; have hr_3 := hr_3.symm; subst hr_1 hr_3; exact (iN c_2 (ip c_4 rfl)))) dX10_write_29 hlocks
  · refine lv_ldc (v := (-1000000001)) hx hb hown (hts (.constant RX10 162 (-1000000001)) (List.mem_of_getElem? (i := 2) rfl)) dX10_write_11 ?_
    exact xret_iW hC hP hS hb hr ((by have hr_1 := hr_1.symm; subst hr_1; exact (ip c_2 rfl))) dX10_write_13 hlocks
