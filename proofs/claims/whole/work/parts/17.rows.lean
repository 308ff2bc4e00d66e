set_option linter.all false
/-! contracts: X8_readWay, X8_readPerson, X8_readLiking, X8_readEnd, X8_readClause -/
theorem hd_X8_readWay : yX8_readWay.cls = RX8 ∧ yX8_readWay.cls ≠ "java/lang/invoke/MethodHandle" ∧ yX8_readWay.cls ≠ "java/lang/invoke/VarHandle" ∧ (parseMethodDescriptor yX8_readWay.desc).map (fun d => d.parameters.length) = some 0 := by decide +kernel
set_option maxHeartbeats 4000000 in
set_option maxRecDepth 100000 in
theorem k_X8_readWay (l : Launch) (X : xX) (S : xS) (hs : s_X8_readWay S) : Met l yX8_readWay wsX8_readWay ({ frames := 3, cells := 0, slots := 0, locals := 64 } : Room) (va_Pc [.ref (X.2.1 1)] (xI X S)) (va_Qv (fun u : xS => u = (f_X8_readWay S)) (xI X) (xA X)) 0 0 (xA X) := by
  refine Met.ofW (cc := cX8_readWay) (maxL := 3) (ret := none) (by decide +kernel) rfl ?_
  intro p e s m args below meth c s₁ B hml hv
  obtain ⟨rfl, hP, hK, hN, hJ⟩ := hv
  have hx := B.exec
  have hb := B.bytes
  have hr := B.returns
  have hts := atoms_spec (ws := wsX8_readWay) B.pre
  have hown : s.vm.findClass RX8 = some m.cls := findClass_of_methodNamed B.named
  have hlocks := B.notSynchronized
  have hC : xC X p m c cX8_readWay 3 s _ wsX8_readWay RX8 := ⟨⟨hx, hb, hml, hown, hts⟩, hK, hN, hJ⟩
  have hS : va_S (xA X) s.heap s.heap [] := va_S.rf
  have hin_X2 : ∀ w ∈ u_ws RX2 TX2 10, w ∈ wsX8_readWay := by decide +kernel
  have hin_X8 : ∀ w ∈ u_ws RX8 TX8 8, w ∈ wsX8_readWay := by decide +kernel
  have hl := lv_entry ([.ref (X.2.1 1)]) (n := 3) (Nat.le_of_ble_eq_true rfl)
  rw [lg_entry_eq]
  generalize (lg_sl ([.ref (X.2.1 1)]) ++ List.replicate (3 - (lg_sl ([.ref (X.2.1 1)])).length) Slot.unset).toArray = ls at hl ⊢
  have hl : lv_has ls 3 [(0, .ref (X.2.1 1))] := hl
  refine lv_aload_n hx hb dX8_readWay_0 rfl (lv_at hl 0 rfl) ?_
  refine lv_iconst (v := 0) hx hb dX8_readWay_1 (by decide) ?_
  refine lv_aload_n hx hb dX8_readWay_2 rfl (lv_at hl 0 rfl) ?_
  refine xget (ref := "AbsentPraise$Telling") (T := TX8) (v := .ref (X.2.1 3)) hC hP hin_X8 xo_X8 rfl 1 (by decide) (List.mem_of_getElem? (i := 1) rfl) rfl rfl dX8_readWay_3 ?_
  refine xget (ref := "AbsentPraise$Hill") (T := TX2) (v := .int (S 3 5)) hC hP hin_X2 (xo_H (by decide)) rfl 5 (by decide) (List.mem_of_getElem? (i := 2) rfl) rfl rfl dX8_readWay_6 ?_
  refine lv_iconst (v := 1) hx hb dX8_readWay_9 (by decide) ?_
  refine lv_isub hx hb dX8_readWay_10 ?_
  have hn_1 : s_X8_readNumber S 0 ((S 3 5) - 1) := (nl hs)
  refine xcV_iW (b := 1) (As := [.int 0, .int ((S 3 5) - 1)]) (rest := []) hC hP hS (k_X8_readNumber l X S 0 ((S 3 5) - 1) hn_1) (cwV 2 hts gX8_readWay_X8_readNumber rfl rfl rfl hd_X8_readNumber ⟨Nat.le_of_ble_eq_true rfl, Nat.le_of_ble_eq_true rfl⟩) xo_X8 rfl rfl rfl hl.1 (Nat.le_of_ble_eq_true rfl) dX8_readWay_11 (fun r_2 S_3 hp_r_2 H locs hP hS => ?_)
  obtain ⟨hr_2, hS_3⟩ := hp_r_2
  refine lv_istore_n (lv' := [(1, .int r_2), (0, .ref (X.2.1 1))]) hx hb dX8_readWay_14 rfl hl (by decide) rfl (fun ls hl => ?_)
  refine lv_aload_n hx hb dX8_readWay_15 rfl (lv_at hl 1 rfl) ?_
  refine lv_iconst (v := 0) hx hb dX8_readWay_16 (by decide) ?_
  refine lv_aload_n hx hb dX8_readWay_17 rfl (lv_at hl 1 rfl) ?_
  refine xget (ref := "AbsentPraise$Telling") (T := TX8) (v := .ref (X.2.1 3)) hC hP hin_X8 xo_X8 rfl 1 (by decide) (List.mem_of_getElem? (i := 1) rfl) rfl rfl dX8_readWay_18 ?_
  refine xget (ref := "AbsentPraise$Hill") (T := TX2) (v := .int (S_3 3 5)) hC hP hin_X2 (xo_H (by decide)) rfl 5 (by decide) (List.mem_of_getElem? (i := 2) rfl) rfl rfl dX8_readWay_21 ?_
  refine lv_iconst (v := 1) hx hb dX8_readWay_24 (by decide) ?_
  refine lv_isub hx hb dX8_readWay_25 ?_
  have hn_5 : s_X8_readNumber S_3 0 ((S_3 3 5) - 1) := (by have hr_2 := hr_2.symm; have hS_3 := hS_3.symm; subst hr_2 hS_3; exact nl (nr hs))
  refine xcV_iW (b := 1) (As := [.int 0, .int ((S_3 3 5) - 1)]) (rest := []) hC hP hS (k_X8_readNumber l X S_3 0 ((S_3 3 5) - 1) hn_5) (cwV 2 hts gX8_readWay_X8_readNumber rfl rfl rfl hd_X8_readNumber ⟨Nat.le_of_ble_eq_true rfl, Nat.le_of_ble_eq_true rfl⟩) xo_X8 rfl rfl rfl hl.1 (Nat.le_of_ble_eq_true rfl) dX8_readWay_26 (fun r_6 S_7 hp_r_6 H locs hP hS => ?_)
  obtain ⟨hr_6, hS_7⟩ := hp_r_6
  refine lv_istore_n (lv' := [(2, .int r_6), (1, .int r_2), (0, .ref (X.2.1 1))]) hx hb dX8_readWay_29 rfl hl (by decide) rfl (fun ls hl => ?_)
  refine lv_aload_n hx hb dX8_readWay_30 rfl (lv_at hl 2 rfl) ?_
  refine lv_iload_n hx hb dX8_readWay_31 rfl (lv_at hl 1 rfl) ?_
  refine lv_iload_n hx hb dX8_readWay_32 rfl (lv_at hl 0 rfl) ?_
  refine lv_icmp_eq (tgt := 48) hx hb dX8_readWay_33 (by decide) (fun c_9 => ?_) (fun c_9 => ?_)
  · refine lv_iconst (v := 4) hx hb dX8_readWay_48 (by decide) ?_
    refine lv_goto (tgt := 53) hx hb dX8_readWay_49 (by decide) ?_
    refine lv_aload_n hx hb dX8_readWay_53 rfl (lv_at hl 2 rfl) ?_
    refine xget (ref := "AbsentPraise$Telling") (T := TX8) (v := .int (S_7 1 6)) hC hP hin_X8 xo_X8 rfl 6 (by decide) (List.mem_of_getElem? (i := 3) rfl) rfl rfl dX8_readWay_54 ?_
    refine xcV_vW (b := 1) (As := [.int 4, .int (S_7 1 6)]) (rest := []) hC hP hS (k_X8_blame l X S_7 4 (S_7 1 6)) (cwV 2 hts gX8_readWay_X8_blame rfl rfl rfl hd_X8_blame ⟨Nat.le_of_ble_eq_true rfl, Nat.le_of_ble_eq_true rfl⟩) xo_X8 rfl rfl rfl hl.1 (Nat.le_of_ble_eq_true rfl) dX8_readWay_57 (fun S_10 hS_10 H locs hP hS => ?_)
    refine lv_aload_n hx hb dX8_readWay_60 rfl (lv_at hl 2 rfl) ?_
    refine xget (ref := "AbsentPraise$Telling") (T := TX8) (v := .int (S_10 1 3)) hC hP hin_X8 xo_X8 rfl 3 (by decide) (List.mem_of_getElem? (i := 4) rfl) rfl rfl dX8_readWay_61 ?_
    refine lv_if_ne (tgt := 76) hx hb dX8_readWay_64 (by decide) (fun c_11 => ?_) (fun c_11 => ?_)
    · exact xret_v hC hP hS hb hr ((by have hr_2 := hr_2.symm; have hS_3 := hS_3.symm; have hr_6 := hr_6.symm; have hS_7 := hS_7.symm; have hS_10 := hS_10.symm; subst hr_2 hS_3 hr_6 hS_7 hS_10; exact (ip c_9 (iN c_11 rfl)))) dX8_readWay_76 hlocks
    · refine lv_aload_n hx hb dX8_readWay_67 rfl (lv_at hl 2 rfl) ?_
      refine xget (ref := "AbsentPraise$Telling") (T := TX8) (v := .ref (X.2.1 3)) hC hP hin_X8 xo_X8 rfl 1 (by decide) (List.mem_of_getElem? (i := 1) rfl) rfl rfl dX8_readWay_68 ?_
      refine lv_iload_n hx hb dX8_readWay_71 rfl (lv_at hl 1 rfl) ?_
      refine lv_iload_n hx hb dX8_readWay_72 rfl (lv_at hl 0 rfl) ?_
      refine xcV_vW (b := 3) (As := [.int r_2, .int r_6]) (rest := []) hC hP hS (k_X2_addWay l X S_10 3 r_2 r_6 (by decide)) (cwV 2 hts gX8_readWay_X2_addWay rfl rfl rfl hd_X2_addWay ⟨Nat.le_of_ble_eq_true rfl, Nat.le_of_ble_eq_true rfl⟩) (xo_H (by decide)) rfl rfl rfl hl.1 (Nat.le_of_ble_eq_true rfl) dX8_readWay_73 (fun S_12 hS_12 H locs hP hS => ?_)
      exact xret_v hC hP hS hb hr ((by have hr_2 := hr_2.symm; have hS_3 := hS_3.symm; have hr_6 := hr_6.symm; have hS_7 := hS_7.symm; have hS_10 := hS_10.symm; have hS_12 := hS_12.symm; subst hr_2 hS_3 hr_6 hS_7 hS_10 hS_12; exact (ip c_9 (ip c_11 rfl)))) dX8_readWay_76 hlocks
  · refine lv_aload_n hx hb dX8_readWay_36 rfl (lv_at hl 2 rfl) ?_
    refine xget (ref := "AbsentPraise$Telling") (T := TX8) (v := .ref (X.2.1 3)) hC hP hin_X8 xo_X8 rfl 1 (by decide) (List.mem_of_getElem? (i := 1) rfl) rfl rfl dX8_readWay_37 ?_
    refine lv_iload_n hx hb dX8_readWay_40 rfl (lv_at hl 1 rfl) ?_
    refine lv_iload_n hx hb dX8_readWay_41 rfl (lv_at hl 0 rfl) ?_
    refine xcV_iR (b := 3) (As := [.int r_2, .int r_6]) (rest := [.ref (X.2.1 1)]) hC hP hS (k_X2_isWay l X S_7 3 r_2 r_6 (by decide)) (cwV 2 hts gX8_readWay_X2_isWay rfl rfl rfl hd_X2_isWay ⟨Nat.le_of_ble_eq_true rfl, Nat.le_of_ble_eq_true rfl⟩) (xo_H (by decide)) rfl rfl rfl hl.1 (Nat.le_of_ble_eq_true rfl) dX8_readWay_42 (fun r_13 hp_r_13 H locs hP hS => ?_)
    obtain ⟨hr_13, hzr_13⟩ := hp_r_13
    refine lv_if_eq (tgt := 52) hx hb dX8_readWay_45 (by decide) (fun c_14 => ?_) (fun c_14 => ?_)
    · refine lv_iconst (v := 0) hx hb dX8_readWay_52 (by decide) ?_
      refine lv_aload_n hx hb dX8_readWay_53 rfl (lv_at hl 2 rfl) ?_
      refine xget (ref := "AbsentPraise$Telling") (T := TX8) (v := .int (S_7 1 6)) hC hP hin_X8 xo_X8 rfl 6 (by decide) (List.mem_of_getElem? (i := 3) rfl) rfl rfl dX8_readWay_54 ?_
      refine xcV_vW (b := 1) (As := [.int 0, .int (S_7 1 6)]) (rest := []) hC hP hS (k_X8_blame l X S_7 0 (S_7 1 6)) (cwV 2 hts gX8_readWay_X8_blame rfl rfl rfl hd_X8_blame ⟨Nat.le_of_ble_eq_true rfl, Nat.le_of_ble_eq_true rfl⟩) xo_X8 rfl rfl rfl hl.1 (Nat.le_of_ble_eq_true rfl) dX8_readWay_57 (fun S_15 hS_15 H locs hP hS => ?_)
      refine lv_aload_n hx hb dX8_readWay_60 rfl (lv_at hl 2 rfl) ?_
      refine xget (ref := "AbsentPraise$Telling") (T := TX8) (v := .int (S_15 1 3)) hC hP hin_X8 xo_X8 rfl 3 (by decide) (List.mem_of_getElem? (i := 4) rfl) rfl rfl dX8_readWay_61 ?_
      refine lv_if_ne (tgt := 76) hx hb dX8_readWay_64 (by decide) (fun c_16 => ?_) (fun c_16 => ?_)
      · exact xret_v hC hP hS hb hr ((by have hr_2 := hr_2.symm; have hS_3 := hS_3.symm; have hr_6 := hr_6.symm; have hS_7 := hS_7.symm; have hr_13 := hr_13.symm; have hS_15 := hS_15.symm; subst hr_2 hS_3 hr_6 hS_7 hr_13 hS_15; exact (iN c_9 (ip c_14 (iN c_16 rfl))))) dX8_readWay_76 hlocks
      · refine lv_aload_n hx hb dX8_readWay_67 rfl (lv_at hl 2 rfl) ?_
        refine xget (ref := "AbsentPraise$Telling") (T := TX8) (v := .ref (X.2.1 3)) hC hP hin_X8 xo_X8 rfl 1 (by decide) (List.mem_of_getElem? (i := 1) rfl) rfl rfl dX8_readWay_68 ?_
        refine lv_iload_n hx hb dX8_readWay_71 rfl (lv_at hl 1 rfl) ?_
        refine lv_iload_n hx hb dX8_readWay_72 rfl (lv_at hl 0 rfl) ?_
        refine xcV_vW (b := 3) (As := [.int r_2, .int r_6]) (rest := []) hC hP hS (k_X2_addWay l X S_15 3 r_2 r_6 (by decide)) (cwV 2 hts gX8_readWay_X2_addWay rfl rfl rfl hd_X2_addWay ⟨Nat.le_of_ble_eq_true rfl, Nat.le_of_ble_eq_true rfl⟩) (xo_H (by decide)) rfl rfl rfl hl.1 (Nat.le_of_ble_eq_true rfl) dX8_readWay_73 (fun S_17 hS_17 H locs hP hS => ?_)
        exact xret_v hC hP hS hb hr ((by have hr_2 := hr_2.symm; have hS_3 := hS_3.symm; have hr_6 := hr_6.symm; have hS_7 := hS_7.symm; have hr_13 := hr_13.symm; have hS_15 := hS_15.symm; have hS_17 := hS_17.symm; subst hr_2 hS_3 hr_6 hS_7 hr_13 hS_15 hS_17; exact (iN c_9 (ip c_14 (ip c_16 rfl))))) dX8_readWay_76 hlocks
    · refine lv_iconst (v := 4) hx hb dX8_readWay_48 (by decide) ?_
      refine lv_goto (tgt := 53) hx hb dX8_readWay_49 (by decide) ?_
      refine lv_aload_n hx hb dX8_readWay_53 rfl (lv_at hl 2 rfl) ?_
      refine xget (ref := "AbsentPraise$Telling") (T := TX8) (v := .int (S_7 1 6)) hC hP hin_X8 xo_X8 rfl 6 (by decide) (List.mem_of_getElem? (i := 3) rfl) rfl rfl dX8_readWay_54 ?_
      refine xcV_vW (b := 1) (As := [.int 4, .int (S_7 1 6)]) (rest := []) hC hP hS (k_X8_blame l X S_7 4 (S_7 1 6)) (cwV 2 hts gX8_readWay_X8_blame rfl rfl rfl hd_X8_blame ⟨Nat.le_of_ble_eq_true rfl, Nat.le_of_ble_eq_true rfl⟩) xo_X8 rfl rfl rfl hl.1 (Nat.le_of_ble_eq_true rfl) dX8_readWay_57 (fun S_18 hS_18 H locs hP hS => ?_)
      refine lv_aload_n hx hb dX8_readWay_60 rfl (lv_at hl 2 rfl) ?_
      refine xget (ref := "AbsentPraise$Telling") (T := TX8) (v := .int (S_18 1 3)) hC hP hin_X8 xo_X8 rfl 3 (by decide) (List.mem_of_getElem? (i := 4) rfl) rfl rfl dX8_readWay_61 ?_
      refine lv_if_ne (tgt := 76) hx hb dX8_readWay_64 (by decide) (fun c_19 => ?_) (fun c_19 => ?_)
      · exact xret_v hC hP hS hb hr ((by have hr_2 := hr_2.symm; have hS_3 := hS_3.symm; have hr_6 := hr_6.symm; have hS_7 := hS_7.symm; have hr_13 := hr_13.symm; have hS_18 := hS_18.symm; subst hr_2 hS_3 hr_6 hS_7 hr_13 hS_18; exact (iN c_9 (iN c_14 (iN c_19 rfl))))) dX8_readWay_76 hlocks
      · refine lv_aload_n hx hb dX8_readWay_67 rfl (lv_at hl 2 rfl) ?_
        refine xget (ref := "AbsentPraise$Telling") (T := TX8) (v := .ref (X.2.1 3)) hC hP hin_X8 xo_X8 rfl 1 (by decide) (List.mem_of_getElem? (i := 1) rfl) rfl rfl dX8_readWay_68 ?_
        refine lv_iload_n hx hb dX8_readWay_71 rfl (lv_at hl 1 rfl) ?_
        refine lv_iload_n hx hb dX8_readWay_72 rfl (lv_at hl 0 rfl) ?_
        refine xcV_vW (b := 3) (As := [.int r_2, .int r_6]) (rest := []) hC hP hS (k_X2_addWay l X S_18 3 r_2 r_6 (by decide)) (cwV 2 hts gX8_readWay_X2_addWay rfl rfl rfl hd_X2_addWay ⟨Nat.le_of_ble_eq_true rfl, Nat.le_of_ble_eq_true rfl⟩) (xo_H (by decide)) rfl rfl rfl hl.1 (Nat.le_of_ble_eq_true rfl) dX8_readWay_73 (fun S_20 hS_20 H locs hP hS => ?_)
        exact xret_v hC hP hS hb hr ((by have hr_2 := hr_2.symm; have hS_3 := hS_3.symm; have hr_6 := hr_6.symm; have hS_7 := hS_7.symm; have hr_13 := hr_13.symm; have hS_18 := hS_18.symm; have hS_20 := hS_20.symm; subst hr_2 hS_3 hr_6 hS_7 hr_13 hS_18 hS_20; exact (iN c_9 (iN c_14 (ip c_19 rfl))))) dX8_readWay_76 hlocks
theorem hd_X8_readPerson : yX8_readPerson.cls = RX8 ∧ yX8_readPerson.cls ≠ "java/lang/invoke/MethodHandle" ∧ yX8_readPerson.cls ≠ "java/lang/invoke/VarHandle" ∧ (parseMethodDescriptor yX8_readPerson.desc).map (fun d => d.parameters.length) = some 0 := by decide +kernel
set_option maxHeartbeats 4000000 in
set_option maxRecDepth 100000 in
theorem k_X8_readPerson (l : Launch) (X : xX) (S : xS) (hs : s_X8_readPerson S) : Met l yX8_readPerson wsX8_readPerson ({ frames := 3, cells := 0, slots := 0, locals := 64 } : Room) (va_Pc [.ref (X.2.1 1)] (xI X S)) (va_Qv (fun u : xS => u = (f_X8_readPerson S)) (xI X) (xA X)) 0 0 (xA X) := by
  refine Met.ofW (cc := cX8_readPerson) (maxL := 3) (ret := none) (by decide +kernel) rfl ?_
  intro p e s m args below meth c s₁ B hml hv
  obtain ⟨rfl, hP, hK, hN, hJ⟩ := hv
  have hx := B.exec
  have hb := B.bytes
  have hr := B.returns
  have hts := atoms_spec (ws := wsX8_readPerson) B.pre
  have hown : s.vm.findClass RX8 = some m.cls := findClass_of_methodNamed B.named
  have hlocks := B.notSynchronized
  have hC : xC X p m c cX8_readPerson 3 s _ wsX8_readPerson RX8 := ⟨⟨hx, hb, hml, hown, hts⟩, hK, hN, hJ⟩
  have hS : va_S (xA X) s.heap s.heap [] := va_S.rf
  have hin_X2 : ∀ w ∈ u_ws RX2 TX2 10, w ∈ wsX8_readPerson := by decide +kernel
  have hin_X8 : ∀ w ∈ u_ws RX8 TX8 8, w ∈ wsX8_readPerson := by decide +kernel
  have hl := lv_entry ([.ref (X.2.1 1)]) (n := 3) (Nat.le_of_ble_eq_true rfl)
  rw [lg_entry_eq]
  generalize (lg_sl ([.ref (X.2.1 1)]) ++ List.replicate (3 - (lg_sl ([.ref (X.2.1 1)])).length) Slot.unset).toArray = ls at hl ⊢
  have hl : lv_has ls 3 [(0, .ref (X.2.1 1))] := hl
  refine lv_aload_n hx hb dX8_readPerson_0 rfl (lv_at hl 0 rfl) ?_
  refine lv_iconst (v := 0) hx hb dX8_readPerson_1 (by decide) ?_
  refine lv_iconst (v := 3) hx hb dX8_readPerson_2 (by decide) ?_
  have hn_1 : s_X8_readNumber S 0 3 := (nl hs)
  refine xcV_iW (b := 1) (As := [.int 0, .int 3]) (rest := []) hC hP hS (k_X8_readNumber l X S 0 3 hn_1) (cwV 2 hts gX8_readPerson_X8_readNumber rfl rfl rfl hd_X8_readNumber ⟨Nat.le_of_ble_eq_true rfl, Nat.le_of_ble_eq_true rfl⟩) xo_X8 rfl rfl rfl hl.1 (Nat.le_of_ble_eq_true rfl) dX8_readPerson_3 (fun r_2 S_3 hp_r_2 H locs hP hS => ?_)
  obtain ⟨hr_2, hS_3⟩ := hp_r_2
  refine lv_istore_n (lv' := [(1, .int r_2), (0, .ref (X.2.1 1))]) hx hb dX8_readPerson_6 rfl hl (by decide) rfl (fun ls hl => ?_)
  refine lv_aload_n hx hb dX8_readPerson_7 rfl (lv_at hl 1 rfl) ?_
  refine lv_iconst (v := 0) hx hb dX8_readPerson_8 (by decide) ?_
  refine lv_aload_n hx hb dX8_readPerson_9 rfl (lv_at hl 1 rfl) ?_
  refine xget (ref := "AbsentPraise$Telling") (T := TX8) (v := .ref (X.2.1 3)) hC hP hin_X8 xo_X8 rfl 1 (by decide) (List.mem_of_getElem? (i := 1) rfl) rfl rfl dX8_readPerson_10 ?_
  refine xget (ref := "AbsentPraise$Hill") (T := TX2) (v := .int (S_3 3 5)) hC hP hin_X2 (xo_H (by decide)) rfl 5 (by decide) (List.mem_of_getElem? (i := 2) rfl) rfl rfl dX8_readPerson_13 ?_
  refine lv_iconst (v := 1) hx hb dX8_readPerson_16 (by decide) ?_
  refine lv_isub hx hb dX8_readPerson_17 ?_
  have hn_5 : s_X8_readNumber S_3 0 ((S_3 3 5) - 1) := (by have hr_2 := hr_2.symm; have hS_3 := hS_3.symm; subst hr_2 hS_3; exact nl (nr hs))
  refine xcV_iW (b := 1) (As := [.int 0, .int ((S_3 3 5) - 1)]) (rest := []) hC hP hS (k_X8_readNumber l X S_3 0 ((S_3 3 5) - 1) hn_5) (cwV 2 hts gX8_readPerson_X8_readNumber rfl rfl rfl hd_X8_readNumber ⟨Nat.le_of_ble_eq_true rfl, Nat.le_of_ble_eq_true rfl⟩) xo_X8 rfl rfl rfl hl.1 (Nat.le_of_ble_eq_true rfl) dX8_readPerson_18 (fun r_6 S_7 hp_r_6 H locs hP hS => ?_)
  obtain ⟨hr_6, hS_7⟩ := hp_r_6
  refine lv_istore_n (lv' := [(2, .int r_6), (1, .int r_2), (0, .ref (X.2.1 1))]) hx hb dX8_readPerson_21 rfl hl (by decide) rfl (fun ls hl => ?_)
  refine lv_aload_n hx hb dX8_readPerson_22 rfl (lv_at hl 2 rfl) ?_
  refine xget (ref := "AbsentPraise$Telling") (T := TX8) (v := .int (S_7 1 3)) hC hP hin_X8 xo_X8 rfl 3 (by decide) (List.mem_of_getElem? (i := 3) rfl) rfl rfl dX8_readPerson_23 ?_
  refine lv_if_ne (tgt := 38) hx hb dX8_readPerson_26 (by decide) (fun c_9 => ?_) (fun c_9 => ?_)
  · exact xret_v hC hP hS hb hr ((by have hr_2 := hr_2.symm; have hS_3 := hS_3.symm; have hr_6 := hr_6.symm; have hS_7 := hS_7.symm; subst hr_2 hS_3 hr_6 hS_7; exact (iN c_9 rfl))) dX8_readPerson_38 hlocks
  · refine lv_aload_n hx hb dX8_readPerson_29 rfl (lv_at hl 2 rfl) ?_
    refine xget (ref := "AbsentPraise$Telling") (T := TX8) (v := .ref (X.2.1 3)) hC hP hin_X8 xo_X8 rfl 1 (by decide) (List.mem_of_getElem? (i := 1) rfl) rfl rfl dX8_readPerson_30 ?_
    refine lv_iload_n hx hb dX8_readPerson_33 rfl (lv_at hl 1 rfl) ?_
    refine lv_iload_n hx hb dX8_readPerson_34 rfl (lv_at hl 0 rfl) ?_
    refine xcV_vW (b := 3) (As := [.int r_2, .int r_6]) (rest := []) hC hP hS (k_X2_addPerson l X S_7 3 r_2 r_6 (by decide)) (cwV 2 hts gX8_readPerson_X2_addPerson rfl rfl rfl hd_X2_addPerson ⟨Nat.le_of_ble_eq_true rfl, Nat.le_of_ble_eq_true rfl⟩) (xo_H (by decide)) rfl rfl rfl hl.1 (Nat.le_of_ble_eq_true rfl) dX8_readPerson_35 (fun S_10 hS_10 H locs hP hS => ?_)
    exact xret_v hC hP hS hb hr ((by have hr_2 := hr_2.symm; have hS_3 := hS_3.symm; have hr_6 := hr_6.symm; have hS_7 := hS_7.symm; have hS_10 := hS_10.symm; subst hr_2 hS_3 hr_6 hS_7 hS_10; exact (ip c_9 rfl))) dX8_readPerson_38 hlocks
theorem hd_X8_readLiking : yX8_readLiking.cls = RX8 ∧ yX8_readLiking.cls ≠ "java/lang/invoke/MethodHandle" ∧ yX8_readLiking.cls ≠ "java/lang/invoke/VarHandle" ∧ (parseMethodDescriptor yX8_readLiking.desc).map (fun d => d.parameters.length) = some 0 := by decide +kernel
set_option maxHeartbeats 4000000 in
set_option maxRecDepth 100000 in
theorem k_X8_readLiking (l : Launch) (X : xX) (S : xS) (hs : s_X8_readLiking S) : Met l yX8_readLiking wsX8_readLiking ({ frames := 3, cells := 0, slots := 0, locals := 64 } : Room) (va_Pc [.ref (X.2.1 1)] (xI X S)) (va_Qv (fun u : xS => u = (f_X8_readLiking S)) (xI X) (xA X)) 0 0 (xA X) := by
  refine Met.ofW (cc := cX8_readLiking) (maxL := 4) (ret := none) (by decide +kernel) rfl ?_
  intro p e s m args below meth c s₁ B hml hv
  obtain ⟨rfl, hP, hK, hN, hJ⟩ := hv
  have hx := B.exec
  have hb := B.bytes
  have hr := B.returns
  have hts := atoms_spec (ws := wsX8_readLiking) B.pre
  have hown : s.vm.findClass RX8 = some m.cls := findClass_of_methodNamed B.named
  have hlocks := B.notSynchronized
  have hC : xC X p m c cX8_readLiking 4 s _ wsX8_readLiking RX8 := ⟨⟨hx, hb, hml, hown, hts⟩, hK, hN, hJ⟩
  have hS : va_S (xA X) s.heap s.heap [] := va_S.rf
  have hin_X2 : ∀ w ∈ u_ws RX2 TX2 10, w ∈ wsX8_readLiking := by decide +kernel
  have hin_X8 : ∀ w ∈ u_ws RX8 TX8 8, w ∈ wsX8_readLiking := by decide +kernel
  have hl := lv_entry ([.ref (X.2.1 1)]) (n := 4) (Nat.le_of_ble_eq_true rfl)
  rw [lg_entry_eq]
  generalize (lg_sl ([.ref (X.2.1 1)]) ++ List.replicate (4 - (lg_sl ([.ref (X.2.1 1)])).length) Slot.unset).toArray = ls at hl ⊢
  have hl : lv_has ls 4 [(0, .ref (X.2.1 1))] := hl
  refine lv_aload_n hx hb dX8_readLiking_0 rfl (lv_at hl 0 rfl) ?_
  refine lv_iconst (v := 0) hx hb dX8_readLiking_1 (by decide) ?_
  refine lv_aload_n hx hb dX8_readLiking_2 rfl (lv_at hl 0 rfl) ?_
  refine xget (ref := "AbsentPraise$Telling") (T := TX8) (v := .ref (X.2.1 3)) hC hP hin_X8 xo_X8 rfl 1 (by decide) (List.mem_of_getElem? (i := 1) rfl) rfl rfl dX8_readLiking_3 ?_
  refine xget (ref := "AbsentPraise$Hill") (T := TX2) (v := .int (S 3 9)) hC hP hin_X2 (xo_H (by decide)) rfl 9 (by decide) (List.mem_of_getElem? (i := 2) rfl) rfl rfl dX8_readLiking_6 ?_
  refine lv_iconst (v := 1) hx hb dX8_readLiking_9 (by decide) ?_
  refine lv_isub hx hb dX8_readLiking_10 ?_
  have hn_1 : s_X8_readNumber S 0 ((S 3 9) - 1) := (nl hs)
  refine xcV_iW (b := 1) (As := [.int 0, .int ((S 3 9) - 1)]) (rest := []) hC hP hS (k_X8_readNumber l X S 0 ((S 3 9) - 1) hn_1) (cwV 2 hts gX8_readLiking_X8_readNumber rfl rfl rfl hd_X8_readNumber ⟨Nat.le_of_ble_eq_true rfl, Nat.le_of_ble_eq_true rfl⟩) xo_X8 rfl rfl rfl hl.1 (Nat.le_of_ble_eq_true rfl) dX8_readLiking_11 (fun r_2 S_3 hp_r_2 H locs hP hS => ?_)
  obtain ⟨hr_2, hS_3⟩ := hp_r_2
  refine lv_istore_n (lv' := [(1, .int r_2), (0, .ref (X.2.1 1))]) hx hb dX8_readLiking_14 rfl hl (by decide) rfl (fun ls hl => ?_)
  refine lv_aload_n hx hb dX8_readLiking_15 rfl (lv_at hl 1 rfl) ?_
  refine lv_iconst (v := 0) hx hb dX8_readLiking_16 (by decide) ?_
  refine lv_aload_n hx hb dX8_readLiking_17 rfl (lv_at hl 1 rfl) ?_
  refine xget (ref := "AbsentPraise$Telling") (T := TX8) (v := .ref (X.2.1 3)) hC hP hin_X8 xo_X8 rfl 1 (by decide) (List.mem_of_getElem? (i := 1) rfl) rfl rfl dX8_readLiking_18 ?_
  refine xget (ref := "AbsentPraise$Hill") (T := TX2) (v := .int (S_3 3 9)) hC hP hin_X2 (xo_H (by decide)) rfl 9 (by decide) (List.mem_of_getElem? (i := 2) rfl) rfl rfl dX8_readLiking_21 ?_
  refine lv_iconst (v := 1) hx hb dX8_readLiking_24 (by decide) ?_
  refine lv_isub hx hb dX8_readLiking_25 ?_
  have hn_5 : s_X8_readNumber S_3 0 ((S_3 3 9) - 1) := (by have hr_2 := hr_2.symm; have hS_3 := hS_3.symm; subst hr_2 hS_3; exact nl (nr hs))
  refine xcV_iW (b := 1) (As := [.int 0, .int ((S_3 3 9) - 1)]) (rest := []) hC hP hS (k_X8_readNumber l X S_3 0 ((S_3 3 9) - 1) hn_5) (cwV 2 hts gX8_readLiking_X8_readNumber rfl rfl rfl hd_X8_readNumber ⟨Nat.le_of_ble_eq_true rfl, Nat.le_of_ble_eq_true rfl⟩) xo_X8 rfl rfl rfl hl.1 (Nat.le_of_ble_eq_true rfl) dX8_readLiking_26 (fun r_6 S_7 hp_r_6 H locs hP hS => ?_)
  obtain ⟨hr_6, hS_7⟩ := hp_r_6
  refine lv_istore_n (lv' := [(2, .int r_6), (1, .int r_2), (0, .ref (X.2.1 1))]) hx hb dX8_readLiking_29 rfl hl (by decide) rfl (fun ls hl => ?_)
  refine lv_aload_n hx hb dX8_readLiking_30 rfl (lv_at hl 2 rfl) ?_
  refine lv_iload_n hx hb dX8_readLiking_31 rfl (lv_at hl 1 rfl) ?_
  refine lv_iload_n hx hb dX8_readLiking_32 rfl (lv_at hl 0 rfl) ?_
  refine lv_icmp_ne (tgt := 40) hx hb dX8_readLiking_33 (by decide) (fun c_9 => ?_) (fun c_9 => ?_)
  · refine lv_iconst (v := 0) hx hb dX8_readLiking_40 (by decide) ?_
    refine lv_aload_n hx hb dX8_readLiking_41 rfl (lv_at hl 2 rfl) ?_
    refine xget (ref := "AbsentPraise$Telling") (T := TX8) (v := .int (S_7 1 6)) hC hP hin_X8 xo_X8 rfl 6 (by decide) (List.mem_of_getElem? (i := 3) rfl) rfl rfl dX8_readLiking_42 ?_
    refine xcV_vW (b := 1) (As := [.int 0, .int (S_7 1 6)]) (rest := []) hC hP hS (k_X8_blame l X S_7 0 (S_7 1 6)) (cwV 2 hts gX8_readLiking_X8_blame rfl rfl rfl hd_X8_blame ⟨Nat.le_of_ble_eq_true rfl, Nat.le_of_ble_eq_true rfl⟩) xo_X8 rfl rfl rfl hl.1 (Nat.le_of_ble_eq_true rfl) dX8_readLiking_45 (fun S_10 hS_10 H locs hP hS => ?_)
    refine lv_aload_n hx hb dX8_readLiking_48 rfl (lv_at hl 2 rfl) ?_
    refine lv_iconst (v := 0) hx hb dX8_readLiking_49 (by decide) ?_
    refine lv_bipush (v := 9) hx hb dX8_readLiking_50 (by decide) ?_
    have hn_11 : s_X8_readNumber S_10 0 9 := (by have hr_2 := hr_2.symm; have hS_3 := hS_3.symm; have hr_6 := hr_6.symm; have hS_7 := hS_7.symm; have hS_10 := hS_10.symm; subst hr_2 hS_3 hr_6 hS_7 hS_10; exact nl (sn (nr (nr hs)) c_9))
    refine xcV_iW (b := 1) (As := [.int 0, .int 9]) (rest := []) hC hP hS (k_X8_readNumber l X S_10 0 9 hn_11) (cwV 2 hts gX8_readLiking_X8_readNumber rfl rfl rfl hd_X8_readNumber ⟨Nat.le_of_ble_eq_true rfl, Nat.le_of_ble_eq_true rfl⟩) xo_X8 rfl rfl rfl hl.1 (Nat.le_of_ble_eq_true rfl) dX8_readLiking_52 (fun r_12 S_13 hp_r_12 H locs hP hS => ?_)
    obtain ⟨hr_12, hS_13⟩ := hp_r_12
    refine lv_istore_n (lv' := [(3, .int r_12), (2, .int r_6), (1, .int r_2), (0, .ref (X.2.1 1))]) hx hb dX8_readLiking_55 rfl hl (by decide) rfl (fun ls hl => ?_)
    refine lv_aload_n hx hb dX8_readLiking_56 rfl (lv_at hl 3 rfl) ?_
    refine xget (ref := "AbsentPraise$Telling") (T := TX8) (v := .int (S_13 1 3)) hC hP hin_X8 xo_X8 rfl 3 (by decide) (List.mem_of_getElem? (i := 4) rfl) rfl rfl dX8_readLiking_57 ?_
    refine lv_if_ne (tgt := 83) hx hb dX8_readLiking_60 (by decide) (fun c_15 => ?_) (fun c_15 => ?_)
    · exact xret_v hC hP hS hb hr ((by have hr_2 := hr_2.symm; have hS_3 := hS_3.symm; have hr_6 := hr_6.symm; have hS_7 := hS_7.symm; have hS_10 := hS_10.symm; have hr_12 := hr_12.symm; have hS_13 := hS_13.symm; subst hr_2 hS_3 hr_6 hS_7 hS_10 hr_12 hS_13; exact (iN c_9 (iN c_15 rfl)))) dX8_readLiking_83 hlocks
    · refine lv_aload_n hx hb dX8_readLiking_63 rfl (lv_at hl 3 rfl) ?_
      refine xget (ref := "AbsentPraise$Telling") (T := TX8) (v := .ref (X.2.1 3)) hC hP hin_X8 xo_X8 rfl 1 (by decide) (List.mem_of_getElem? (i := 1) rfl) rfl rfl dX8_readLiking_64 ?_
      refine lv_iload_n hx hb dX8_readLiking_67 rfl (lv_at hl 2 rfl) ?_
      refine lv_iload_n hx hb dX8_readLiking_68 rfl (lv_at hl 1 rfl) ?_
      refine lv_iload_n hx hb dX8_readLiking_69 rfl (lv_at hl 0 rfl) ?_
      refine xcV_vW (b := 3) (As := [.int r_2, .int r_6, .int r_12]) (rest := []) hC hP hS (k_X2_addLiking l X S_13 3 r_2 r_6 r_12 (by decide)) (cwV 3 hts gX8_readLiking_X2_addLiking rfl rfl rfl hd_X2_addLiking ⟨Nat.le_of_ble_eq_true rfl, Nat.le_of_ble_eq_true rfl⟩) (xo_H (by decide)) rfl rfl rfl hl.1 (Nat.le_of_ble_eq_true rfl) dX8_readLiking_70 (fun S_16 hS_16 H locs hP hS => ?_)
      refine lv_aload_n hx hb dX8_readLiking_73 rfl (lv_at hl 3 rfl) ?_
      refine lv_dup hx hb dX8_readLiking_74 rfl ?_
      refine xget (ref := "AbsentPraise$Telling") (T := TX8) (v := .int (S_16 1 7)) hC hP hin_X8 xo_X8 rfl 7 (by decide) (List.mem_of_getElem? (i := 5) rfl) rfl rfl dX8_readLiking_75 ?_
      refine lv_iconst (v := 1) hx hb dX8_readLiking_78 (by decide) ?_
      refine lv_iadd hx hb dX8_readLiking_79 ?_
      refine xput (ref := "AbsentPraise$Telling") (T := TX8) (ty := .int) hC hP hS (by decide) hin_X8 tyX8 tyX8_ok nmX8 xo_X8 rfl 7 (by decide) (List.mem_of_getElem? (i := 5) rfl) rfl rfl rfl rfl rfl (Nat.le_of_ble_eq_true rfl) dX8_readLiking_80 rfl (fun S_17 hS_17 H locs hP hS => ?_)
      exact xret_v hC hP hS hb hr ((by have hr_2 := hr_2.symm; have hS_3 := hS_3.symm; have hr_6 := hr_6.symm; have hS_7 := hS_7.symm; have hS_10 := hS_10.symm; have hr_12 := hr_12.symm; have hS_13 := hS_13.symm; have hS_16 := hS_16.symm; have hS_17 := hS_17.symm; subst hr_2 hS_3 hr_6 hS_7 hS_10 hr_12 hS_13 hS_16 hS_17; exact (iN c_9 (ip c_15 rfl)))) dX8_readLiking_83 hlocks
  · refine lv_iconst (v := 4) hx hb dX8_readLiking_36 (by decide) ?_
    refine lv_goto (tgt := 41) hx hb dX8_readLiking_37 (by decide) ?_
    refine lv_aload_n hx hb dX8_readLiking_41 rfl (lv_at hl 2 rfl) ?_
    refine xget (ref := "AbsentPraise$Telling") (T := TX8) (v := .int (S_7 1 6)) hC hP hin_X8 xo_X8 rfl 6 (by decide) (List.mem_of_getElem? (i := 3) rfl) rfl rfl dX8_readLiking_42 ?_
    refine xcV_vW (b := 1) (As := [.int 4, .int (S_7 1 6)]) (rest := []) hC hP hS (k_X8_blame l X S_7 4 (S_7 1 6)) (cwV 2 hts gX8_readLiking_X8_blame rfl rfl rfl hd_X8_blame ⟨Nat.le_of_ble_eq_true rfl, Nat.le_of_ble_eq_true rfl⟩) xo_X8 rfl rfl rfl hl.1 (Nat.le_of_ble_eq_true rfl) dX8_readLiking_45 (fun S_18 hS_18 H locs hP hS => ?_)
    refine lv_aload_n hx hb dX8_readLiking_48 rfl (lv_at hl 2 rfl) ?_
    refine lv_iconst (v := 0) hx hb dX8_readLiking_49 (by decide) ?_
    refine lv_bipush (v := 9) hx hb dX8_readLiking_50 (by decide) ?_
    have hn_19 : s_X8_readNumber S_18 0 9 := (by have hr_2 := hr_2.symm; have hS_3 := hS_3.symm; have hr_6 := hr_6.symm; have hS_7 := hS_7.symm; have hS_18 := hS_18.symm; subst hr_2 hS_3 hr_6 hS_7 hS_18; exact nl (sp (nr (nr hs)) c_9))
    refine xcV_iW (b := 1) (As := [.int 0, .int 9]) (rest := []) hC hP hS (k_X8_readNumber l X S_18 0 9 hn_19) (cwV 2 hts gX8_readLiking_X8_readNumber rfl rfl rfl hd_X8_readNumber ⟨Nat.le_of_ble_eq_true rfl, Nat.le_of_ble_eq_true rfl⟩) xo_X8 rfl rfl rfl hl.1 (Nat.le_of_ble_eq_true rfl) dX8_readLiking_52 (fun r_20 S_21 hp_r_20 H locs hP hS => ?_)
    obtain ⟨hr_20, hS_21⟩ := hp_r_20
    refine lv_istore_n (lv' := [(3, .int r_20), (2, .int r_6), (1, .int r_2), (0, .ref (X.2.1 1))]) hx hb dX8_readLiking_55 rfl hl (by decide) rfl (fun ls hl => ?_)
    refine lv_aload_n hx hb dX8_readLiking_56 rfl (lv_at hl 3 rfl) ?_
    refine xget (ref := "AbsentPraise$Telling") (T := TX8) (v := .int (S_21 1 3)) hC hP hin_X8 xo_X8 rfl 3 (by decide) (List.mem_of_getElem? (i := 4) rfl) rfl rfl dX8_readLiking_57 ?_
    refine lv_if_ne (tgt := 83) hx hb dX8_readLiking_60 (by decide) (fun c_23 => ?_) (fun c_23 => ?_)
    · exact xret_v hC hP hS hb hr ((by have hr_2 := hr_2.symm; have hS_3 := hS_3.symm; have hr_6 := hr_6.symm; have hS_7 := hS_7.symm; have hS_18 := hS_18.symm; have hr_20 := hr_20.symm; have hS_21 := hS_21.symm; subst hr_2 hS_3 hr_6 hS_7 hS_18 hr_20 hS_21; exact (ip c_9 (iN c_23 rfl)))) dX8_readLiking_83 hlocks
    · refine lv_aload_n hx hb dX8_readLiking_63 rfl (lv_at hl 3 rfl) ?_
      refine xget (ref := "AbsentPraise$Telling") (T := TX8) (v := .ref (X.2.1 3)) hC hP hin_X8 xo_X8 rfl 1 (by decide) (List.mem_of_getElem? (i := 1) rfl) rfl rfl dX8_readLiking_64 ?_
      refine lv_iload_n hx hb dX8_readLiking_67 rfl (lv_at hl 2 rfl) ?_
      refine lv_iload_n hx hb dX8_readLiking_68 rfl (lv_at hl 1 rfl) ?_
      refine lv_iload_n hx hb dX8_readLiking_69 rfl (lv_at hl 0 rfl) ?_
      refine xcV_vW (b := 3) (As := [.int r_2, .int r_6, .int r_20]) (rest := []) hC hP hS (k_X2_addLiking l X S_21 3 r_2 r_6 r_20 (by decide)) (cwV 3 hts gX8_readLiking_X2_addLiking rfl rfl rfl hd_X2_addLiking ⟨Nat.le_of_ble_eq_true rfl, Nat.le_of_ble_eq_true rfl⟩) (xo_H (by decide)) rfl rfl rfl hl.1 (Nat.le_of_ble_eq_true rfl) dX8_readLiking_70 (fun S_24 hS_24 H locs hP hS => ?_)
      refine lv_aload_n hx hb dX8_readLiking_73 rfl (lv_at hl 3 rfl) ?_
      refine lv_dup hx hb dX8_readLiking_74 rfl ?_
      refine xget (ref := "AbsentPraise$Telling") (T := TX8) (v := .int (S_24 1 7)) hC hP hin_X8 xo_X8 rfl 7 (by decide) (List.mem_of_getElem? (i := 5) rfl) rfl rfl dX8_readLiking_75 ?_
      refine lv_iconst (v := 1) hx hb dX8_readLiking_78 (by decide) ?_
      refine lv_iadd hx hb dX8_readLiking_79 ?_
      refine xput (ref := "AbsentPraise$Telling") (T := TX8) (ty := .int) hC hP hS (by decide) hin_X8 tyX8 tyX8_ok nmX8 xo_X8 rfl 7 (by decide) (List.mem_of_getElem? (i := 5) rfl) rfl rfl rfl rfl rfl (Nat.le_of_ble_eq_true rfl) dX8_readLiking_80 rfl (fun S_25 hS_25 H locs hP hS => ?_)
      exact xret_v hC hP hS hb hr ((by have hr_2 := hr_2.symm; have hS_3 := hS_3.symm; have hr_6 := hr_6.symm; have hS_7 := hS_7.symm; have hS_18 := hS_18.symm; have hr_20 := hr_20.symm; have hS_21 := hS_21.symm; have hS_24 := hS_24.symm; have hS_25 := hS_25.symm; subst hr_2 hS_3 hr_6 hS_7 hS_18 hr_20 hS_21 hS_24 hS_25; exact (ip c_9 (ip c_23 rfl)))) dX8_readLiking_83 hlocks
theorem hd_X8_readEnd : yX8_readEnd.cls = RX8 ∧ yX8_readEnd.cls ≠ "java/lang/invoke/MethodHandle" ∧ yX8_readEnd.cls ≠ "java/lang/invoke/VarHandle" ∧ (parseMethodDescriptor yX8_readEnd.desc).map (fun d => d.parameters.length) = some 0 := by decide +kernel
set_option maxHeartbeats 4000000 in
set_option maxRecDepth 100000 in
theorem k_X8_readEnd (l : Launch) (X : xX) (S : xS) (hs : s_X8_readEnd S) : Met l yX8_readEnd wsX8_readEnd ({ frames := 2, cells := 0, slots := 0, locals := 40 } : Room) (va_Pc [.ref (X.2.1 1)] (xI X S)) (va_Qv (fun u : xS => u = (f_X8_readEnd S)) (xI X) (xA X)) 0 0 (xA X) := by
  refine Met.ofW (cc := cX8_readEnd) (maxL := 1) (ret := none) (by decide +kernel) rfl ?_
  intro p e s m args below meth c s₁ B hml hv
  obtain ⟨rfl, hP, hK, hN, hJ⟩ := hv
  have hx := B.exec
  have hb := B.bytes
  have hr := B.returns
  have hts := atoms_spec (ws := wsX8_readEnd) B.pre
  have hown : s.vm.findClass RX8 = some m.cls := findClass_of_methodNamed B.named
  have hlocks := B.notSynchronized
  have hC : xC X p m c cX8_readEnd 1 s _ wsX8_readEnd RX8 := ⟨⟨hx, hb, hml, hown, hts⟩, hK, hN, hJ⟩
  have hS : va_S (xA X) s.heap s.heap [] := va_S.rf
  have hin_X8 : ∀ w ∈ u_ws RX8 TX8 8, w ∈ wsX8_readEnd := by decide +kernel
  have hl := lv_entry ([.ref (X.2.1 1)]) (n := 1) (Nat.le_of_ble_eq_true rfl)
  rw [lg_entry_eq]
  generalize (lg_sl ([.ref (X.2.1 1)]) ++ List.replicate (1 - (lg_sl ([.ref (X.2.1 1)])).length) Slot.unset).toArray = ls at hl ⊢
  have hl : lv_has ls 1 [(0, .ref (X.2.1 1))] := hl
  refine lv_aload_n hx hb dX8_readEnd_0 rfl (lv_at hl 0 rfl) ?_
  have hn_1 : s_X8_skipBlanks S := (nl hs)
  refine xcV_vW (b := 1) (As := []) (rest := []) hC hP hS (k_X8_skipBlanks l X S hn_1) (cwV 0 hts gX8_readEnd_X8_skipBlanks rfl rfl rfl hd_X8_skipBlanks ⟨Nat.le_of_ble_eq_true rfl, Nat.le_of_ble_eq_true rfl⟩) xo_X8 rfl rfl rfl hl.1 (Nat.le_of_ble_eq_true rfl) dX8_readEnd_1 (fun S_2 hS_2 H locs hP hS => ?_)
  refine lv_aload_n hx hb dX8_readEnd_4 rfl (lv_at hl 0 rfl) ?_
  refine lv_aload_n hx hb dX8_readEnd_5 rfl (lv_at hl 0 rfl) ?_
  refine xcV_iR (b := 1) (As := []) (rest := [.ref (X.2.1 1)]) hC hP hS (k_X8_letter l X S_2) (cwV 0 hts gX8_readEnd_X8_letter rfl rfl rfl hd_X8_letter ⟨Nat.le_of_ble_eq_true rfl, Nat.le_of_ble_eq_true rfl⟩) xo_X8 rfl rfl rfl hl.1 (Nat.le_of_ble_eq_true rfl) dX8_readEnd_6 (fun r_3 hr_3 H locs hP hS => ?_)
  refine lv_bipush (v := 59) hx hb dX8_readEnd_9 (by decide) ?_
  refine lv_icmp_ne (tgt := 18) hx hb dX8_readEnd_11 (by decide) (fun c_4 => ?_) (fun c_4 => ?_)
  · refine lv_iconst (v := 1) hx hb dX8_readEnd_18 (by decide) ?_
    refine lv_aload_n hx hb dX8_readEnd_19 rfl (lv_at hl 0 rfl) ?_
    refine xget (ref := "AbsentPraise$Telling") (T := TX8) (v := .int (S_2 1 5)) hC hP hin_X8 xo_X8 rfl 5 (by decide) (List.mem_of_getElem? (i := 1) rfl) rfl rfl dX8_readEnd_20 ?_
    refine xcV_vW (b := 1) (As := [.int 1, .int (S_2 1 5)]) (rest := []) hC hP hS (k_X8_blame l X S_2 1 (S_2 1 5)) (cwV 2 hts gX8_readEnd_X8_blame rfl rfl rfl hd_X8_blame ⟨Nat.le_of_ble_eq_true rfl, Nat.le_of_ble_eq_true rfl⟩) xo_X8 rfl rfl rfl hl.1 (Nat.le_of_ble_eq_true rfl) dX8_readEnd_23 (fun S_5 hS_5 H locs hP hS => ?_)
    refine lv_aload_n hx hb dX8_readEnd_26 rfl (lv_at hl 0 rfl) ?_
    refine lv_dup hx hb dX8_readEnd_27 rfl ?_
    refine xget (ref := "AbsentPraise$Telling") (T := TX8) (v := .int (S_5 1 5)) hC hP hin_X8 xo_X8 rfl 5 (by decide) (List.mem_of_getElem? (i := 1) rfl) rfl rfl dX8_readEnd_28 ?_
    refine lv_iconst (v := 1) hx hb dX8_readEnd_31 (by decide) ?_
    refine lv_iadd hx hb dX8_readEnd_32 ?_
    refine xput (ref := "AbsentPraise$Telling") (T := TX8) (ty := .int) hC hP hS (by decide) hin_X8 tyX8 tyX8_ok nmX8 xo_X8 rfl 5 (by decide) (List.mem_of_getElem? (i := 1) rfl) rfl rfl rfl rfl rfl (Nat.le_of_ble_eq_true rfl) dX8_readEnd_33 rfl (fun S_6 hS_6 H locs hP hS => ?_)
    exact xret_v hC hP hS hb hr ((by have hS_2 := hS_2.symm; have hr_3 := hr_3.symm; have hS_5 := hS_5.symm; have hS_6 := hS_6.symm; subst hS_2 hr_3 hS_5 hS_6; exact (iN c_4 rfl))) dX8_readEnd_36 hlocks
  · refine lv_iconst (v := 0) hx hb dX8_readEnd_14 (by decide) ?_
    refine lv_goto (tgt := 19) hx hb dX8_readEnd_15 (by decide) ?_
    refine lv_aload_n hx hb dX8_readEnd_19 rfl (lv_at hl 0 rfl) ?_
    refine xget (ref := "AbsentPraise$Telling") (T := TX8) (v := .int (S_2 1 5)) hC hP hin_X8 xo_X8 rfl 5 (by decide) (List.mem_of_getElem? (i := 1) rfl) rfl rfl dX8_readEnd_20 ?_
    refine xcV_vW (b := 1) (As := [.int 0, .int (S_2 1 5)]) (rest := []) hC hP hS (k_X8_blame l X S_2 0 (S_2 1 5)) (cwV 2 hts gX8_readEnd_X8_blame rfl rfl rfl hd_X8_blame ⟨Nat.le_of_ble_eq_true rfl, Nat.le_of_ble_eq_true rfl⟩) xo_X8 rfl rfl rfl hl.1 (Nat.le_of_ble_eq_true rfl) dX8_readEnd_23 (fun S_7 hS_7 H locs hP hS => ?_)
    refine lv_aload_n hx hb dX8_readEnd_26 rfl (lv_at hl 0 rfl) ?_
    refine lv_dup hx hb dX8_readEnd_27 rfl ?_
    refine xget (ref := "AbsentPraise$Telling") (T := TX8) (v := .int (S_7 1 5)) hC hP hin_X8 xo_X8 rfl 5 (by decide) (List.mem_of_getElem? (i := 1) rfl) rfl rfl dX8_readEnd_28 ?_
    refine lv_iconst (v := 1) hx hb dX8_readEnd_31 (by decide) ?_
    refine lv_iadd hx hb dX8_readEnd_32 ?_
    refine xput (ref := "AbsentPraise$Telling") (T := TX8) (ty := .int) hC hP hS (by decide) hin_X8 tyX8 tyX8_ok nmX8 xo_X8 rfl 5 (by decide) (List.mem_of_getElem? (i := 1) rfl) rfl rfl rfl rfl rfl (Nat.le_of_ble_eq_true rfl) dX8_readEnd_33 rfl (fun S_8 hS_8 H locs hP hS => ?_)
    exact xret_v hC hP hS hb hr ((by have hS_2 := hS_2.symm; have hr_3 := hr_3.symm; have hS_7 := hS_7.symm; have hS_8 := hS_8.symm; subst hS_2 hr_3 hS_7 hS_8; exact (ip c_4 rfl))) dX8_readEnd_36 hlocks
theorem hd_X8_readClause : yX8_readClause.cls = RX8 ∧ yX8_readClause.cls ≠ "java/lang/invoke/MethodHandle" ∧ yX8_readClause.cls ≠ "java/lang/invoke/VarHandle" ∧ (parseMethodDescriptor yX8_readClause.desc).map (fun d => d.parameters.length) = some 0 := by decide +kernel
set_option maxHeartbeats 4000000 in
set_option maxRecDepth 100000 in
theorem k_X8_readClause (l : Launch) (X : xX) (S : xS) (hs : s_X8_readClause S) : Met l yX8_readClause wsX8_readClause ({ frames := 4, cells := 0, slots := 0, locals := 87 } : Room) (va_Pc [.ref (X.2.1 1)] (xI X S)) (va_Qv (fun u : xS => u = (f_X8_readClause S)) (xI X) (xA X)) 0 0 (xA X) := by
  refine Met.ofW (cc := cX8_readClause) (maxL := 2) (ret := none) (by decide +kernel) rfl ?_
  intro p e s m args below meth c s₁ B hml hv
  obtain ⟨rfl, hP, hK, hN, hJ⟩ := hv
  have hx := B.exec
  have hb := B.bytes
  have hr := B.returns
  have hts := atoms_spec (ws := wsX8_readClause) B.pre
  have hown : s.vm.findClass RX8 = some m.cls := findClass_of_methodNamed B.named
  have hlocks := B.notSynchronized
  have hC : xC X p m c cX8_readClause 2 s _ wsX8_readClause RX8 := ⟨⟨hx, hb, hml, hown, hts⟩, hK, hN, hJ⟩
  have hS : va_S (xA X) s.heap s.heap [] := va_S.rf
  have hin_X8 : ∀ w ∈ u_ws RX8 TX8 8, w ∈ wsX8_readClause := by decide +kernel
  have hl := lv_entry ([.ref (X.2.1 1)]) (n := 2) (Nat.le_of_ble_eq_true rfl)
  rw [lg_entry_eq]
  generalize (lg_sl ([.ref (X.2.1 1)]) ++ List.replicate (2 - (lg_sl ([.ref (X.2.1 1)])).length) Slot.unset).toArray = ls at hl ⊢
  have hl : lv_has ls 2 [(0, .ref (X.2.1 1))] := hl
  refine lv_aload_n hx hb dX8_readClause_0 rfl (lv_at hl 0 rfl) ?_
  refine xcV_iR (b := 1) (As := []) (rest := []) hC hP hS (k_X8_letter l X S) (cwV 0 hts gX8_readClause_X8_letter rfl rfl rfl hd_X8_letter ⟨Nat.le_of_ble_eq_true rfl, Nat.le_of_ble_eq_true rfl⟩) xo_X8 rfl rfl rfl hl.1 (Nat.le_of_ble_eq_true rfl) dX8_readClause_1 (fun r_1 hr_1 H locs hP hS => ?_)
  refine lv_istore_n (lv' := [(1, .int r_1), (0, .ref (X.2.1 1))]) hx hb dX8_readClause_4 rfl hl (by decide) rfl (fun ls hl => ?_)
  refine lv_aload_n hx hb dX8_readClause_5 rfl (lv_at hl 1 rfl) ?_
  refine lv_aload_n hx hb dX8_readClause_6 rfl (lv_at hl 1 rfl) ?_
  refine lv_iload_n hx hb dX8_readClause_7 rfl (lv_at hl 0 rfl) ?_
  refine xcV_iR (b := 1) (As := [.int r_1]) (rest := [.ref (X.2.1 1)]) hC hP hS (k_X8_faultOfWord l X S r_1) (cwV 1 hts gX8_readClause_X8_faultOfWord rfl rfl rfl hd_X8_faultOfWord ⟨Nat.le_of_ble_eq_true rfl, Nat.le_of_ble_eq_true rfl⟩) xo_X8 rfl rfl rfl hl.1 (Nat.le_of_ble_eq_true rfl) dX8_readClause_8 (fun r_2 hr_2 H locs hP hS => ?_)
  refine lv_aload_n hx hb dX8_readClause_11 rfl (lv_at hl 1 rfl) ?_
  refine xget (ref := "AbsentPraise$Telling") (T := TX8) (v := .int (S 1 5)) hC hP hin_X8 xo_X8 rfl 5 (by decide) (List.mem_of_getElem? (i := 1) rfl) rfl rfl dX8_readClause_12 ?_
  refine xcV_vW (b := 1) (As := [.int r_2, .int (S 1 5)]) (rest := []) hC hP hS (k_X8_blame l X S r_2 (S 1 5)) (cwV 2 hts gX8_readClause_X8_blame rfl rfl rfl hd_X8_blame ⟨Nat.le_of_ble_eq_true rfl, Nat.le_of_ble_eq_true rfl⟩) xo_X8 rfl rfl rfl hl.1 (Nat.le_of_ble_eq_true rfl) dX8_readClause_15 (fun S_3 hS_3 H locs hP hS => ?_)
  refine lv_aload_n hx hb dX8_readClause_18 rfl (lv_at hl 1 rfl) ?_
  refine xget (ref := "AbsentPraise$Telling") (T := TX8) (v := .int (S_3 1 3)) hC hP hin_X8 xo_X8 rfl 3 (by decide) (List.mem_of_getElem? (i := 2) rfl) rfl rfl dX8_readClause_19 ?_
  refine lv_if_eq (tgt := 26) hx hb dX8_readClause_22 (by decide) (fun c_4 => ?_) (fun c_4 => ?_)
  · refine lv_aload_n hx hb dX8_readClause_26 rfl (lv_at hl 1 rfl) ?_
    refine lv_dup hx hb dX8_readClause_27 rfl ?_
    refine xget (ref := "AbsentPraise$Telling") (T := TX8) (v := .int (S_3 1 5)) hC hP hin_X8 xo_X8 rfl 5 (by decide) (List.mem_of_getElem? (i := 1) rfl) rfl rfl dX8_readClause_28 ?_
    refine lv_iconst (v := 1) hx hb dX8_readClause_31 (by decide) ?_
    refine lv_iadd hx hb dX8_readClause_32 ?_
    refine xput (ref := "AbsentPraise$Telling") (T := TX8) (ty := .int) hC hP hS (by decide) hin_X8 tyX8 tyX8_ok nmX8 xo_X8 rfl 5 (by decide) (List.mem_of_getElem? (i := 1) rfl) rfl rfl rfl rfl rfl (Nat.le_of_ble_eq_true rfl) dX8_readClause_33 rfl (fun S_5 hS_5 H locs hP hS => ?_)
    refine lv_iload_n hx hb dX8_readClause_36 rfl (lv_at hl 0 rfl) ?_
    by_cases c_6 : r_1 = 98
    · refine lv_lookup (off := 50) (tgt := 87) hx hb dX8_readClause_37 (by decide) (by rw [c_6]; rfl) (by decide) ?_
      refine lv_aload_n hx hb dX8_readClause_87 rfl (lv_at hl 1 rfl) ?_
      have hn_7 : s_X8_readBench S_5 := (by have hr_1 := hr_1.symm; have hr_2 := hr_2.symm; have hS_3 := hS_3.symm; have hS_5 := hS_5.symm; subst hr_1 hr_2 hS_3 hS_5; exact nl (sp (sp hs c_4) c_6))
      refine xcV_vW (b := 1) (As := []) (rest := []) hC hP hS (k_X8_readBench l X S_5 hn_7) (cwV 0 hts gX8_readClause_X8_readBench rfl rfl rfl hd_X8_readBench ⟨Nat.le_of_ble_eq_true rfl, Nat.le_of_ble_eq_true rfl⟩) xo_X8 rfl rfl rfl hl.1 (Nat.le_of_ble_eq_true rfl) dX8_readClause_88 (fun S_8 hS_8 H locs hP hS => ?_)
      refine lv_goto (tgt := 112) hx hb dX8_readClause_91 (by decide) ?_
      refine lv_aload_n hx hb dX8_readClause_112 rfl (lv_at hl 1 rfl) ?_
      have hn_9 : s_X8_readEnd S_8 := (by have hr_1 := hr_1.symm; have hr_2 := hr_2.symm; have hS_3 := hS_3.symm; have hS_5 := hS_5.symm; have hS_8 := hS_8.symm; subst hr_1 hr_2 hS_3 hS_5 hS_8; exact nl (nr (sp (sp hs c_4) c_6)))
      refine xcV_vW (b := 1) (As := []) (rest := []) hC hP hS (k_X8_readEnd l X S_8 hn_9) (cwV 0 hts gX8_readClause_X8_readEnd rfl rfl rfl hd_X8_readEnd ⟨Nat.le_of_ble_eq_true rfl, Nat.le_of_ble_eq_true rfl⟩) xo_X8 rfl rfl rfl hl.1 (Nat.le_of_ble_eq_true rfl) dX8_readClause_113 (fun S_10 hS_10 H locs hP hS => ?_)
      exact xret_v hC hP hS hb hr ((by have hr_1 := hr_1.symm; have hr_2 := hr_2.symm; have hS_3 := hS_3.symm; have hS_5 := hS_5.symm; have hS_8 := hS_8.symm; have hS_10 := hS_10.symm; subst hr_1 hr_2 hS_3 hS_5 hS_8 hS_10; exact (ip c_4 (ip c_6 rfl)))) dX8_readClause_116 hlocks
    · by_cases c_11 : r_1 = 103
      · refine lv_lookup (off := 57) (tgt := 94) hx hb dX8_readClause_37 (by decide) (by rw [c_11]; rfl) (by decide) ?_
        refine lv_aload_n hx hb dX8_readClause_94 rfl (lv_at hl 1 rfl) ?_
        have hn_12 : s_X8_readWay S_5 := (by have hr_1 := hr_1.symm; have hr_2 := hr_2.symm; have hS_3 := hS_3.symm; have hS_5 := hS_5.symm; subst hr_1 hr_2 hS_3 hS_5; exact nl (sp (sn (sp hs c_4) c_6) c_11))
        refine xcV_vW (b := 1) (As := []) (rest := []) hC hP hS (k_X8_readWay l X S_5 hn_12) (cwV 0 hts gX8_readClause_X8_readWay rfl rfl rfl hd_X8_readWay ⟨Nat.le_of_ble_eq_true rfl, Nat.le_of_ble_eq_true rfl⟩) xo_X8 rfl rfl rfl hl.1 (Nat.le_of_ble_eq_true rfl) dX8_readClause_95 (fun S_13 hS_13 H locs hP hS => ?_)
        refine lv_goto (tgt := 112) hx hb dX8_readClause_98 (by decide) ?_
        refine lv_aload_n hx hb dX8_readClause_112 rfl (lv_at hl 1 rfl) ?_
        have hn_14 : s_X8_readEnd S_13 := (by have hr_1 := hr_1.symm; have hr_2 := hr_2.symm; have hS_3 := hS_3.symm; have hS_5 := hS_5.symm; have hS_13 := hS_13.symm; subst hr_1 hr_2 hS_3 hS_5 hS_13; exact nl (nr (sp (sn (sp hs c_4) c_6) c_11)))
        refine xcV_vW (b := 1) (As := []) (rest := []) hC hP hS (k_X8_readEnd l X S_13 hn_14) (cwV 0 hts gX8_readClause_X8_readEnd rfl rfl rfl hd_X8_readEnd ⟨Nat.le_of_ble_eq_true rfl, Nat.le_of_ble_eq_true rfl⟩) xo_X8 rfl rfl rfl hl.1 (Nat.le_of_ble_eq_true rfl) dX8_readClause_113 (fun S_15 hS_15 H locs hP hS => ?_)
        exact xret_v hC hP hS hb hr ((by have hr_1 := hr_1.symm; have hr_2 := hr_2.symm; have hS_3 := hS_3.symm; have hS_5 := hS_5.symm; have hS_13 := hS_13.symm; have hS_15 := hS_15.symm; subst hr_1 hr_2 hS_3 hS_5 hS_13 hS_15; exact (ip c_4 (iN c_6 (ip c_11 rfl))))) dX8_readClause_116 hlocks
      · by_cases c_16 : r_1 = 112
        · refine lv_lookup (off := 64) (tgt := 101) hx hb dX8_readClause_37 (by decide) (by rw [c_16]; rfl) (by decide) ?_
          refine lv_aload_n hx hb dX8_readClause_101 rfl (lv_at hl 1 rfl) ?_
          have hn_17 : s_X8_readPerson S_5 := (by have hr_1 := hr_1.symm; have hr_2 := hr_2.symm; have hS_3 := hS_3.symm; have hS_5 := hS_5.symm; subst hr_1 hr_2 hS_3 hS_5; exact nl (sp (sn (sn (sp hs c_4) c_6) c_11) c_16))
          refine xcV_vW (b := 1) (As := []) (rest := []) hC hP hS (k_X8_readPerson l X S_5 hn_17) (cwV 0 hts gX8_readClause_X8_readPerson rfl rfl rfl hd_X8_readPerson ⟨Nat.le_of_ble_eq_true rfl, Nat.le_of_ble_eq_true rfl⟩) xo_X8 rfl rfl rfl hl.1 (Nat.le_of_ble_eq_true rfl) dX8_readClause_102 (fun S_18 hS_18 H locs hP hS => ?_)
          refine lv_goto (tgt := 112) hx hb dX8_readClause_105 (by decide) ?_
          refine lv_aload_n hx hb dX8_readClause_112 rfl (lv_at hl 1 rfl) ?_
          have hn_19 : s_X8_readEnd S_18 := (by have hr_1 := hr_1.symm; have hr_2 := hr_2.symm; have hS_3 := hS_3.symm; have hS_5 := hS_5.symm; have hS_18 := hS_18.symm; subst hr_1 hr_2 hS_3 hS_5 hS_18; exact nl (nr (sp (sn (sn (sp hs c_4) c_6) c_11) c_16)))
          refine xcV_vW (b := 1) (As := []) (rest := []) hC hP hS (k_X8_readEnd l X S_18 hn_19) (cwV 0 hts gX8_readClause_X8_readEnd rfl rfl rfl hd_X8_readEnd ⟨Nat.le_of_ble_eq_true rfl, Nat.le_of_ble_eq_true rfl⟩) xo_X8 rfl rfl rfl hl.1 (Nat.le_of_ble_eq_true rfl) dX8_readClause_113 (fun S_20 hS_20 H locs hP hS => ?_)
          exact xret_v hC hP hS hb hr ((by have hr_1 := hr_1.symm; have hr_2 := hr_2.symm; have hS_3 := hS_3.symm; have hS_5 := hS_5.symm; have hS_18 := hS_18.symm; have hS_20 := hS_20.symm; subst hr_1 hr_2 hS_3 hS_5 hS_18 hS_20; exact (ip c_4 (iN c_6 (iN c_11 (ip c_16 rfl)))))) dX8_readClause_116 hlocks
        · by_cases c_21 : r_1 = 114
          · refine lv_lookup (off := 43) (tgt := 80) hx hb dX8_readClause_37 (by decide) (by rw [c_21]; rfl) (by decide) ?_
            refine lv_aload_n hx hb dX8_readClause_80 rfl (lv_at hl 1 rfl) ?_
            have hn_22 : s_X8_readRooms S_5 := (by have hr_1 := hr_1.symm; have hr_2 := hr_2.symm; have hS_3 := hS_3.symm; have hS_5 := hS_5.symm; subst hr_1 hr_2 hS_3 hS_5; exact nl (sp (sn (sn (sn (sp hs c_4) c_6) c_11) c_16) c_21))
            refine xcV_vW (b := 1) (As := []) (rest := []) hC hP hS (k_X8_readRooms l X S_5 hn_22) (cwV 0 hts gX8_readClause_X8_readRooms rfl rfl rfl hd_X8_readRooms ⟨Nat.le_of_ble_eq_true rfl, Nat.le_of_ble_eq_true rfl⟩) xo_X8 rfl rfl rfl hl.1 (Nat.le_of_ble_eq_true rfl) dX8_readClause_81 (fun S_23 hS_23 H locs hP hS => ?_)
            refine lv_goto (tgt := 112) hx hb dX8_readClause_84 (by decide) ?_
            refine lv_aload_n hx hb dX8_readClause_112 rfl (lv_at hl 1 rfl) ?_
            have hn_24 : s_X8_readEnd S_23 := (by have hr_1 := hr_1.symm; have hr_2 := hr_2.symm; have hS_3 := hS_3.symm; have hS_5 := hS_5.symm; have hS_23 := hS_23.symm; subst hr_1 hr_2 hS_3 hS_5 hS_23; exact nl (nr (sp (sn (sn (sn (sp hs c_4) c_6) c_11) c_16) c_21)))
            refine xcV_vW (b := 1) (As := []) (rest := []) hC hP hS (k_X8_readEnd l X S_23 hn_24) (cwV 0 hts gX8_readClause_X8_readEnd rfl rfl rfl hd_X8_readEnd ⟨Nat.le_of_ble_eq_true rfl, Nat.le_of_ble_eq_true rfl⟩) xo_X8 rfl rfl rfl hl.1 (Nat.le_of_ble_eq_true rfl) dX8_readClause_113 (fun S_25 hS_25 H locs hP hS => ?_)
            exact xret_v hC hP hS hb hr ((by have hr_1 := hr_1.symm; have hr_2 := hr_2.symm; have hS_3 := hS_3.symm; have hS_5 := hS_5.symm; have hS_23 := hS_23.symm; have hS_25 := hS_25.symm; subst hr_1 hr_2 hS_3 hS_5 hS_23 hS_25; exact (ip c_4 (iN c_6 (iN c_11 (iN c_16 (ip c_21 rfl))))))) dX8_readClause_116 hlocks
          · refine lv_lookup (off := 71) (tgt := 108) hx hb dX8_readClause_37 (by decide) (sw_lk4 (ne_toInt (n := 98) (by decide) c_6) (ne_toInt (n := 103) (by decide) c_11) (ne_toInt (n := 112) (by decide) c_16) (ne_toInt (n := 114) (by decide) c_21)) (by decide) ?_
            refine lv_aload_n hx hb dX8_readClause_108 rfl (lv_at hl 1 rfl) ?_
            have hn_26 : s_X8_readLiking S_5 := (by have hr_1 := hr_1.symm; have hr_2 := hr_2.symm; have hS_3 := hS_3.symm; have hS_5 := hS_5.symm; subst hr_1 hr_2 hS_3 hS_5; exact nl (sn (sn (sn (sn (sp hs c_4) c_6) c_11) c_16) c_21))
            refine xcV_vW (b := 1) (As := []) (rest := []) hC hP hS (k_X8_readLiking l X S_5 hn_26) (cwV 0 hts gX8_readClause_X8_readLiking rfl rfl rfl hd_X8_readLiking ⟨Nat.le_of_ble_eq_true rfl, Nat.le_of_ble_eq_true rfl⟩) xo_X8 rfl rfl rfl hl.1 (Nat.le_of_ble_eq_true rfl) dX8_readClause_109 (fun S_27 hS_27 H locs hP hS => ?_)
            refine lv_aload_n hx hb dX8_readClause_112 rfl (lv_at hl 1 rfl) ?_
            have hn_28 : s_X8_readEnd S_27 := (by have hr_1 := hr_1.symm; have hr_2 := hr_2.symm; have hS_3 := hS_3.symm; have hS_5 := hS_5.symm; have hS_27 := hS_27.symm; subst hr_1 hr_2 hS_3 hS_5 hS_27; exact nl (nr (sn (sn (sn (sn (sp hs c_4) c_6) c_11) c_16) c_21)))
            refine xcV_vW (b := 1) (As := []) (rest := []) hC hP hS (k_X8_readEnd l X S_27 hn_28) (cwV 0 hts gX8_readClause_X8_readEnd rfl rfl rfl hd_X8_readEnd ⟨Nat.le_of_ble_eq_true rfl, Nat.le_of_ble_eq_true rfl⟩) xo_X8 rfl rfl rfl hl.1 (Nat.le_of_ble_eq_true rfl) dX8_readClause_113 (fun S_29 hS_29 H locs hP hS => ?_)
            exact xret_v hC hP hS hb hr ((by have hr_1 := hr_1.symm; have hr_2 := hr_2.symm; have hS_3 := hS_3.symm; have hS_5 := hS_5.symm; have hS_27 := hS_27.symm; have hS_29 := hS_29.symm; subst hr_1 hr_2 hS_3 hS_5 hS_27 hS_29; exact (ip c_4 (iN c_6 (iN c_11 (iN c_16 (iN c_21 rfl))))))) dX8_readClause_116 hlocks
  · exact xret_v hC hP hS hb hr ((by have hr_1 := hr_1.symm; have hr_2 := hr_2.symm; have hS_3 := hS_3.symm; subst hr_1 hr_2 hS_3; exact (iN c_4 rfl))) dX8_readClause_25 hlocks
