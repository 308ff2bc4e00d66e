set_option linter.all false
/-! contracts: X10_said, X10_refusalOfHours, X10_hour, X10_go, X10_cough, X10_like -/
theorem hd_X10_said : yX10_said.cls = RX10 ∧ yX10_said.cls ≠ "java/lang/invoke/MethodHandle" ∧ yX10_said.cls ≠ "java/lang/invoke/VarHandle" ∧ (parseMethodDescriptor yX10_said.desc).map (fun d => d.parameters.length) = some 3 := by decide +kernel
set_option maxHeartbeats 4000000 in
set_option maxRecDepth 100000 in
theorem k_X10_said (l : Launch) (X : xX) (S : xS) (p0 : Int32) (p1 : Int32) (p2 : Int32) : Met l yX10_said wsX10_said ({ frames := 4, cells := 0, slots := 0, locals := 92 } : Room) (va_Pc [.ref (X.2.1 0), .int p0, .int p1, .int p2] (xI X S)) (va_Qi (fun (r : Int32) (u : xS) => r = (f_X10_said S p0 p1 p2) ∧ u = S) (xI X) (xA X)) 0 0 (xA X) := by
  refine Met.ofW (cc := cX10_said) (maxL := 4) (ret := (some .int)) (by decide +kernel) rfl ?_
  intro p e s m args below meth c s₁ B hml hv
  obtain ⟨rfl, hP, hK, hN, hJ⟩ := hv
  have hx := B.exec
  have hb := B.bytes
  have hr := B.returns
  have hts := atoms_spec (ws := wsX10_said) B.pre
  have hown : s.vm.findClass RX10 = some m.cls := findClass_of_methodNamed B.named
  have hlocks := B.notSynchronized
  have hC : xC X p m c cX10_said 4 s _ wsX10_said RX10 := ⟨⟨hx, hb, hml, hown, hts⟩, hK, hN, hJ⟩
  have hS : va_S (xA X) s.heap s.heap [] := va_S.rf
  have hin_X10 : ∀ w ∈ u_ws RX10 TX10 10, w ∈ wsX10_said := by decide +kernel
  have hin_X7 : ∀ w ∈ u_ws RX7 TX7 6, w ∈ wsX10_said := by decide +kernel
  have hl := lv_entry ([.ref (X.2.1 0), .int p0, .int p1, .int p2]) (n := 4) (Nat.le_of_ble_eq_true rfl)
  rw [lg_entry_eq]
  generalize (lg_sl ([.ref (X.2.1 0), .int p0, .int p1, .int p2]) ++ List.replicate (4 - (lg_sl ([.ref (X.2.1 0), .int p0, .int p1, .int p2])).length) Slot.unset).toArray = ls at hl ⊢
  have hl : lv_has ls 4 [(0, .ref (X.2.1 0)), (1, .int p0), (2, .int p1), (3, .int p2)] := hl
  refine lv_aload_n hx hb dX10_said_0 rfl (lv_at hl 0 rfl) ?_
  refine xget (ref := "AbsentPraise") (T := TX10) (v := .ref (X.2.1 9)) hC hP hin_X10 xo_X10 rfl 1 (by decide) (List.mem_of_getElem? (i := 1) rfl) rfl rfl dX10_said_1 ?_
  refine lv_iload_n hx hb dX10_said_4 rfl (lv_at hl 1 rfl) ?_
  refine lv_iload_n hx hb dX10_said_5 rfl (lv_at hl 2 rfl) ?_
  refine xcV_iR (b := 9) (As := [.int p0, .int p1]) (rest := []) hC hP hS (k_X2_isPair l X S 9 p0 p1 (by decide)) (cwV 2 hts gX10_said_X2_isPair rfl rfl rfl hd_X2_isPair ⟨Nat.le_of_ble_eq_true rfl, Nat.le_of_ble_eq_true rfl⟩) (xo_H (by decide)) rfl rfl rfl hl.1 (Nat.le_of_ble_eq_true rfl) dX10_said_6 (fun r_1 hp_r_1 H locs hP hS => ?_)
  obtain ⟨hr_1, hzr_1⟩ := hp_r_1
  refine lv_if_ne (tgt := 15) hx hb dX10_said_9 (by decide) (fun c_2 => ?_) (fun c_2 => ?_)
  · refine lv_iload_n hx hb dX10_said_15 rfl (lv_at hl 3 rfl) ?_
    by_cases c_3 : p2 = 0
    · refine lv_lookup (off := 28) (tgt := 44) hx hb dX10_said_16 (by decide) (by rw [c_3]; rfl) (by decide) ?_
      refine lv_aload_n hx hb dX10_said_44 rfl (lv_at hl 0 rfl) ?_
      refine xget (ref := "AbsentPraise") (T := TX10) (v := .ref (X.2.1 15)) hC hP hin_X10 xo_X10 rfl 3 (by decide) (List.mem_of_getElem? (i := 3) rfl) rfl rfl dX10_said_45 ?_
      refine lv_iload_n hx hb dX10_said_48 rfl (lv_at hl 1 rfl) ?_
      refine lv_iload_n hx hb dX10_said_49 rfl (lv_at hl 2 rfl) ?_
      refine xcV_iR (b := 15) (As := [.int p0, .int p1]) (rest := []) hC hP hS (k_X4_saysNow l X S p0 p1) (cwV 2 hts gX10_said_X4_saysNow rfl rfl rfl hd_X4_saysNow ⟨Nat.le_of_ble_eq_true rfl, Nat.le_of_ble_eq_true rfl⟩) xo_X4 rfl rfl rfl hl.1 (Nat.le_of_ble_eq_true rfl) dX10_said_50 (fun r_4 hr_4 H locs hP hS => ?_)
      refine lv_bipush (v := 100) hx hb dX10_said_53 (by decide) ?_
      refine lv_iadd hx hb dX10_said_55 ?_
      exact xret_iR hC hP hS hb hr ((by have hr_1 := hr_1.symm; have hr_4 := hr_4.symm; subst hr_1 hr_4; exact (iN c_2 (ip c_3 rfl)))) dX10_said_56 hlocks
    · by_cases c_5 : p2 = 1
      · refine lv_lookup (off := 41) (tgt := 57) hx hb dX10_said_16 (by decide) (by rw [c_5]; rfl) (by decide) ?_
        refine lv_aload_n hx hb dX10_said_57 rfl (lv_at hl 0 rfl) ?_
        refine xget (ref := "AbsentPraise") (T := TX10) (v := .ref (X.2.1 15)) hC hP hin_X10 xo_X10 rfl 3 (by decide) (List.mem_of_getElem? (i := 3) rfl) rfl rfl dX10_said_58 ?_
        refine lv_aload_n hx hb dX10_said_61 rfl (lv_at hl 0 rfl) ?_
        refine xget (ref := "AbsentPraise") (T := TX10) (v := .ref (X.2.1 32)) hC hP hin_X10 xo_X10 rfl 2 (by decide) (List.mem_of_getElem? (i := 4) rfl) rfl rfl dX10_said_62 ?_
        refine xget (ref := "AbsentPraise$Talk") (T := TX7) (v := .ref (X.2.1 33)) hC hP hin_X7 (xo_T (by decide)) rfl 0 (by decide) (List.mem_of_getElem? (i := 5) rfl) rfl rfl dX10_said_65 ?_
        refine lv_iload_n hx hb dX10_said_68 rfl (lv_at hl 1 rfl) ?_
        refine xcS_iR (As := [.ref (X.2.1 33), .int p0]) (rest := [.ref (X.2.1 15)]) hC hP hS (k_X10_at l X S 33 p0 rfl) (va_cwS 2 hts gX10_said_X10_at rfl rfl rfl hs_X10_at ⟨Nat.le_of_ble_eq_true rfl, Nat.le_of_ble_eq_true rfl⟩) rfl rfl hl.1 (Nat.le_of_ble_eq_true rfl) dX10_said_69 (fun r_6 hr_6 H locs hP hS => ?_)
        refine lv_aload_n hx hb dX10_said_72 rfl (lv_at hl 0 rfl) ?_
        refine xget (ref := "AbsentPraise") (T := TX10) (v := .ref (X.2.1 32)) hC hP hin_X10 xo_X10 rfl 2 (by decide) (List.mem_of_getElem? (i := 4) rfl) rfl rfl dX10_said_73 ?_
        refine xget (ref := "AbsentPraise$Talk") (T := TX7) (v := .ref (X.2.1 33)) hC hP hin_X7 (xo_T (by decide)) rfl 0 (by decide) (List.mem_of_getElem? (i := 5) rfl) rfl rfl dX10_said_76 ?_
        refine lv_iload_n hx hb dX10_said_79 rfl (lv_at hl 2 rfl) ?_
        refine xcS_iR (As := [.ref (X.2.1 33), .int p1]) (rest := [.int r_6, .ref (X.2.1 15)]) hC hP hS (k_X10_at l X S 33 p1 rfl) (va_cwS 2 hts gX10_said_X10_at rfl rfl rfl hs_X10_at ⟨Nat.le_of_ble_eq_true rfl, Nat.le_of_ble_eq_true rfl⟩) rfl rfl hl.1 (Nat.le_of_ble_eq_true rfl) dX10_said_80 (fun r_7 hr_7 H locs hP hS => ?_)
        refine xcV_iR (b := 15) (As := [.int r_6, .int r_7]) (rest := []) hC hP hS (k_X4_reaches l X S r_6 r_7) (cwV 2 hts gX10_said_X4_reaches rfl rfl rfl hd_X4_reaches ⟨Nat.le_of_ble_eq_true rfl, Nat.le_of_ble_eq_true rfl⟩) xo_X4 rfl rfl rfl hl.1 (Nat.le_of_ble_eq_true rfl) dX10_said_83 (fun r_8 hp_r_8 H locs hP hS => ?_)
        obtain ⟨hr_8, hzr_8⟩ := hp_r_8
        refine lv_if_eq (tgt := 93) hx hb dX10_said_86 (by decide) (fun c_9 => ?_) (fun c_9 => ?_)
        · refine lv_iconst (v := 0) hx hb dX10_said_93 (by decide) ?_
          exact xret_iR hC hP hS hb hr ((by have hr_1 := hr_1.symm; have hr_6 := hr_6.symm; have hr_7 := hr_7.symm; have hr_8 := hr_8.symm; subst hr_1 hr_6 hr_7 hr_8; exact (iN c_2 (iN c_3 (ip c_5 (ip c_9 rfl)))))) dX10_said_94 hlocks
        · refine lv_iconst (v := 1) hx hb dX10_said_89 (by decide) ?_
          refine lv_goto (tgt := 94) hx hb dX10_said_90 (by decide) ?_
          exact xret_iR hC hP hS hb hr ((by have hr_1 := hr_1.symm; have hr_6 := hr_6.symm; have hr_7 := hr_7.symm; have hr_8 := hr_8.symm; subst hr_1 hr_6 hr_7 hr_8; exact (iN c_2 (iN c_3 (ip c_5 (iN c_9 rfl)))))) dX10_said_94 hlocks
      · refine lv_lookup (off := 79) (tgt := 95) hx hb dX10_said_16 (by decide) (sw_lk2 (ne_toInt (n := 0) (by decide) c_3) (ne_toInt (n := 1) (by decide) c_5)) (by decide) ?_
        refine lv_ldc (v := (-1000000002)) hx hb hown (hts (.constant RX10 87 (-1000000002)) (List.mem_of_getElem? (i := 6) rfl)) dX10_said_95 ?_
        exact xret_iR hC hP hS hb hr ((by have hr_1 := hr_1.symm; subst hr_1; exact (iN c_2 (iN c_3 (iN c_5 rfl))))) dX10_said_97 hlocks
  · refine lv_ldc (v := (-1000000001)) hx hb hown (hts (.constant RX10 162 (-1000000001)) (List.mem_of_getElem? (i := 2) rfl)) dX10_said_12 ?_
    exact xret_iR hC hP hS hb hr ((by have hr_1 := hr_1.symm; subst hr_1; exact (ip c_2 rfl))) dX10_said_14 hlocks
theorem hd_X10_refusalOfHours : yX10_refusalOfHours.cls = RX10 ∧ yX10_refusalOfHours.cls ≠ "java/lang/invoke/MethodHandle" ∧ yX10_refusalOfHours.cls ≠ "java/lang/invoke/VarHandle" ∧ (parseMethodDescriptor yX10_refusalOfHours.desc).map (fun d => d.parameters.length) = some 1 := by decide +kernel
set_option maxHeartbeats 4000000 in
set_option maxRecDepth 100000 in
theorem k_X10_refusalOfHours (l : Launch) (X : xX) (S : xS) (p0 : Int32) : Met l yX10_refusalOfHours wsX10_refusalOfHours ({ frames := 1, cells := 0, slots := 0, locals := 22 } : Room) (va_Pc [.ref (X.2.1 0), .int p0] (xI X S)) (va_Qi (fun (r : Int32) (u : xS) => r = (f_X10_refusalOfHours S p0) ∧ u = S) (xI X) (xA X)) 0 0 (xA X) := by
  refine Met.ofW (cc := cX10_refusalOfHours) (maxL := 2) (ret := (some .int)) (by decide +kernel) rfl ?_
  intro p e s m args below meth c s₁ B hml hv
  obtain ⟨rfl, hP, hK, hN, hJ⟩ := hv
  have hx := B.exec
  have hb := B.bytes
  have hr := B.returns
  have hts := atoms_spec (ws := wsX10_refusalOfHours) B.pre
  have hown : s.vm.findClass RX10 = some m.cls := findClass_of_methodNamed B.named
  have hlocks := B.notSynchronized
  have hC : xC X p m c cX10_refusalOfHours 2 s _ wsX10_refusalOfHours RX10 := ⟨⟨hx, hb, hml, hown, hts⟩, hK, hN, hJ⟩
  have hS : va_S (xA X) s.heap s.heap [] := va_S.rf
  have hin_X10 : ∀ w ∈ u_ws RX10 TX10 10, w ∈ wsX10_refusalOfHours := by decide +kernel
  have hin_X7 : ∀ w ∈ u_ws RX7 TX7 6, w ∈ wsX10_refusalOfHours := by decide +kernel
  have hl := lv_entry ([.ref (X.2.1 0), .int p0]) (n := 2) (Nat.le_of_ble_eq_true rfl)
  rw [lg_entry_eq]
  generalize (lg_sl ([.ref (X.2.1 0), .int p0]) ++ List.replicate (2 - (lg_sl ([.ref (X.2.1 0), .int p0])).length) Slot.unset).toArray = ls at hl ⊢
  have hl : lv_has ls 2 [(0, .ref (X.2.1 0)), (1, .int p0)] := hl
  refine lv_iload_n hx hb dX10_refusalOfHours_0 rfl (lv_at hl 1 rfl) ?_
  refine lv_iconst (v := 1) hx hb dX10_refusalOfHours_1 (by decide) ?_
  refine lv_bipush (v := 60) hx hb dX10_refusalOfHours_2 (by decide) ?_
  refine xcS_iR (As := [.int p0, .int 1, .int 60]) (rest := []) hC hP hS (k_X10_within l X S p0 1 60) (va_cwS 3 hts gX10_refusalOfHours_X10_within rfl rfl rfl hs_X10_within ⟨Nat.le_of_ble_eq_true rfl, Nat.le_of_ble_eq_true rfl⟩) rfl rfl hl.1 (Nat.le_of_ble_eq_true rfl) dX10_refusalOfHours_4 (fun r_1 hp_r_1 H locs hP hS => ?_)
  obtain ⟨hr_1, hzr_1⟩ := hp_r_1
  refine lv_if_ne (tgt := 13) hx hb dX10_refusalOfHours_7 (by decide) (fun c_2 => ?_) (fun c_2 => ?_)
  · refine lv_aload_n hx hb dX10_refusalOfHours_13 rfl (lv_at hl 0 rfl) ?_
    refine xget (ref := "AbsentPraise") (T := TX10) (v := .ref (X.2.1 9)) hC hP hin_X10 xo_X10 rfl 1 (by decide) (List.mem_of_getElem? (i := 2) rfl) rfl rfl dX10_refusalOfHours_14 ?_
    refine xcV_iR (b := 9) (As := []) (rest := []) hC hP hS (k_X2_isTold l X S 9 (by decide)) (cwV 0 hts gX10_refusalOfHours_X2_isTold rfl rfl rfl hd_X2_isTold ⟨Nat.le_of_ble_eq_true rfl, Nat.le_of_ble_eq_true rfl⟩) (xo_H (by decide)) rfl rfl rfl hl.1 (Nat.le_of_ble_eq_true rfl) dX10_refusalOfHours_17 (fun r_3 hp_r_3 H locs hP hS => ?_)
    obtain ⟨hr_3, hzr_3⟩ := hp_r_3
    refine lv_if_ne (tgt := 26) hx hb dX10_refusalOfHours_20 (by decide) (fun c_4 => ?_) (fun c_4 => ?_)
    · refine lv_aload_n hx hb dX10_refusalOfHours_26 rfl (lv_at hl 0 rfl) ?_
      refine xget (ref := "AbsentPraise") (T := TX10) (v := .ref (X.2.1 32)) hC hP hin_X10 xo_X10 rfl 2 (by decide) (List.mem_of_getElem? (i := 4) rfl) rfl rfl dX10_refusalOfHours_27 ?_
      refine xget (ref := "AbsentPraise$Talk") (T := TX7) (v := .int (S 32 5)) hC hP hin_X7 (xo_T (by decide)) rfl 5 (by decide) (List.mem_of_getElem? (i := 5) rfl) rfl rfl dX10_refusalOfHours_30 ?_
      refine lv_sipush (v := 9000) hx hb dX10_refusalOfHours_33 (by decide) ?_
      refine lv_icmp_le (tgt := 44) hx hb dX10_refusalOfHours_36 (by decide) (fun c_5 => ?_) (fun c_5 => ?_)
      · refine lv_iconst (v := 0) hx hb dX10_refusalOfHours_44 (by decide) ?_
        exact xret_iR hC hP hS hb hr ((by have hr_1 := hr_1.symm; have hr_3 := hr_3.symm; subst hr_1 hr_3; exact (iN c_2 (iN c_4 (ip c_5 rfl))))) dX10_refusalOfHours_45 hlocks
      · refine lv_ldc (v := (-1000000004)) hx hb hown (hts (.constant RX10 92 (-1000000004)) (List.mem_of_getElem? (i := 6) rfl)) dX10_refusalOfHours_39 ?_
        refine lv_goto (tgt := 45) hx hb dX10_refusalOfHours_41 (by decide) ?_
        exact xret_iR hC hP hS hb hr ((by have hr_1 := hr_1.symm; have hr_3 := hr_3.symm; subst hr_1 hr_3; exact (iN c_2 (iN c_4 (iN c_5 rfl))))) dX10_refusalOfHours_45 hlocks
    · refine lv_ldc (v := (-1000000003)) hx hb hown (hts (.constant RX10 227 (-1000000003)) (List.mem_of_getElem? (i := 3) rfl)) dX10_refusalOfHours_23 ?_
      exact xret_iR hC hP hS hb hr ((by have hr_1 := hr_1.symm; have hr_3 := hr_3.symm; subst hr_1 hr_3; exact (iN c_2 (ip c_4 rfl)))) dX10_refusalOfHours_25 hlocks
  · refine lv_ldc (v := (-1000000002)) hx hb hown (hts (.constant RX10 87 (-1000000002)) (List.mem_of_getElem? (i := 1) rfl)) dX10_refusalOfHours_10 ?_
    exact xret_iR hC hP hS hb hr ((by have hr_1 := hr_1.symm; subst hr_1; exact (ip c_2 rfl))) dX10_refusalOfHours_12 hlocks
theorem hd_X10_hour : yX10_hour.cls = RX10 ∧ yX10_hour.cls ≠ "java/lang/invoke/MethodHandle" ∧ yX10_hour.cls ≠ "java/lang/invoke/VarHandle" ∧ (parseMethodDescriptor yX10_hour.desc).map (fun d => d.parameters.length) = some 1 := by decide +kernel
set_option maxHeartbeats 4000000 in
set_option maxRecDepth 100000 in
theorem k_X10_hour (l : Launch) (X : xX) (S : xS) (p0 : Int32) (hs : s_X10_hour S p0) : Met l yX10_hour wsX10_hour ({ frames := 5, cells := 0, slots := 0, locals := 114 } : Room) (va_Pc [.ref (X.2.1 0), .int p0] (xI X S)) (va_Qi (fun (r : Int32) (u : xS) => r = (f_X10_hour S p0).1 ∧ u = (f_X10_hour S p0).2) (xI X) (xA X)) 0 0 (xA X) := by
  refine Met.ofW (cc := cX10_hour) (maxL := 4) (ret := (some .int)) (by decide +kernel) rfl ?_
  intro p e s m args below meth c s₁ B hml hv
  obtain ⟨rfl, hP, hK, hN, hJ⟩ := hv
  have hx := B.exec
  have hb := B.bytes
  have hr := B.returns
  have hts := atoms_spec (ws := wsX10_hour) B.pre
  have hown : s.vm.findClass RX10 = some m.cls := findClass_of_methodNamed B.named
  have hlocks := B.notSynchronized
  have hC : xC X p m c cX10_hour 4 s _ wsX10_hour RX10 := ⟨⟨hx, hb, hml, hown, hts⟩, hK, hN, hJ⟩
  have hS : va_S (xA X) s.heap s.heap [] := va_S.rf
  have hin_X10 : ∀ w ∈ u_ws RX10 TX10 10, w ∈ wsX10_hour := by decide +kernel
  have hin_X7 : ∀ w ∈ u_ws RX7 TX7 6, w ∈ wsX10_hour := by decide +kernel
  have hl := lv_entry ([.ref (X.2.1 0), .int p0]) (n := 4) (Nat.le_of_ble_eq_true rfl)
  rw [lg_entry_eq]
  generalize (lg_sl ([.ref (X.2.1 0), .int p0]) ++ List.replicate (4 - (lg_sl ([.ref (X.2.1 0), .int p0])).length) Slot.unset).toArray = ls at hl ⊢
  have hl : lv_has ls 4 [(0, .ref (X.2.1 0)), (1, .int p0)] := hl
  refine lv_aload_n hx hb dX10_hour_0 rfl (lv_at hl 0 rfl) ?_
  refine lv_iload_n hx hb dX10_hour_1 rfl (lv_at hl 1 rfl) ?_
  refine xcV_iR (b := 0) (As := [.int p0]) (rest := []) hC hP hS (k_X10_refusalOfHours l X S p0) (cwV 1 hts gX10_hour_X10_refusalOfHours rfl rfl rfl hd_X10_refusalOfHours ⟨Nat.le_of_ble_eq_true rfl, Nat.le_of_ble_eq_true rfl⟩) xo_X10 rfl rfl rfl hl.1 (Nat.le_of_ble_eq_true rfl) dX10_hour_2 (fun r_1 hr_1 H locs hP hS => ?_)
  refine lv_istore_n (lv' := [(2, .int r_1), (0, .ref (X.2.1 0)), (1, .int p0)]) hx hb dX10_hour_5 rfl hl (by decide) rfl (fun ls hl => ?_)
  refine lv_iload_n hx hb dX10_hour_6 rfl (lv_at hl 0 rfl) ?_
  refine lv_if_eq (tgt := 12) hx hb dX10_hour_7 (by decide) (fun c_2 => ?_) (fun c_2 => ?_)
  · refine lv_aload_n hx hb dX10_hour_12 rfl (lv_at hl 1 rfl) ?_
    refine xget (ref := "AbsentPraise") (T := TX10) (v := .ref (X.2.1 27)) hC hP hin_X10 xo_X10 rfl 5 (by decide) (List.mem_of_getElem? (i := 1) rfl) rfl rfl dX10_hour_13 ?_
    refine lv_aload_n hx hb dX10_hour_16 rfl (lv_at hl 1 rfl) ?_
    refine xget (ref := "AbsentPraise") (T := TX10) (v := .ref (X.2.1 32)) hC hP hin_X10 xo_X10 rfl 2 (by decide) (List.mem_of_getElem? (i := 2) rfl) rfl rfl dX10_hour_17 ?_
    have hn_3 : s_X6_remember S 32 := (by have hr_1 := hr_1.symm; subst hr_1; exact nl (sp hs c_2))
    refine xcV_vW (b := 27) (As := [.ref (X.2.1 32)]) (rest := []) hC hP hS (k_X6_remember l X S 32 (by decide) hn_3) (cwV 1 hts gX10_hour_X6_remember rfl rfl rfl hd_X6_remember ⟨Nat.le_of_ble_eq_true rfl, Nat.le_of_ble_eq_true rfl⟩) xo_X6 rfl rfl rfl hl.1 (Nat.le_of_ble_eq_true rfl) dX10_hour_20 (fun S_4 hS_4 H locs hP hS => ?_)
    refine lv_iconst (v := 0) hx hb dX10_hour_23 (by decide) ?_
    refine lv_istore_n (lv' := [(3, .int 0), (2, .int r_1), (0, .ref (X.2.1 0)), (1, .int p0)]) hx hb dX10_hour_24 rfl hl (by decide) rfl (fun ls hl => ?_)
    have hLp_25 : ∀ (n : Nat) (T_25 : xS) (x1_25 : Int32) (x3_25 : Int32), s_X10_hour_L25 n T_25 x1_25 x3_25 → (∀ q : xS, q = f_X10_hour_L25 n T_25 x1_25 x3_25 → (∀ (H : Heap) (locs : List Loc), va_P X.1 vwCl (xW X q) H → va_S (xA X) s.heap H locs → ∀ (ls : Array Slot), lv_has ls 4 [(0, .ref (X.2.1 0))] → W p l e ({ frames := 5, cells := 0, slots := 0, locals := 114 } : Room) s m ([.ref (X.2.1 0), .int p0] : List Value).toArray below meth c H locs 0 0 (MQ below (va_Qi (fun (r : Int32) (u : xS) => r = (f_X10_hour S p0).1 ∧ u = (f_X10_hour S p0).2) (xI X) (xA X)) ([.ref (X.2.1 0), .int p0] : List Value).toArray s 0 0 (xA X)) (F0 m 43 ls []))) → ∀ (H : Heap) (locs : List Loc), va_P X.1 vwCl (xW X T_25) H → va_S (xA X) s.heap H locs → ∀ (ls : Array Slot), lv_has ls 4 [(0, .ref (X.2.1 0)), (1, .int x1_25), (3, .int x3_25)] → W p l e ({ frames := 5, cells := 0, slots := 0, locals := 114 } : Room) s m ([.ref (X.2.1 0), .int p0] : List Value).toArray below meth c H locs 0 0 (MQ below (va_Qi (fun (r : Int32) (u : xS) => r = (f_X10_hour S p0).1 ∧ u = (f_X10_hour S p0).2) (xI X) (xA X)) ([.ref (X.2.1 0), .int p0] : List Value).toArray s 0 0 (xA X)) (F0 m 25 ls []) := by
      intro n
      induction n with
      | zero => intro T_25 x1_25 x3_25 hs; exact hs.elim
      | succ n ih_25 =>
        intro T_25 x1_25 x3_25 hs_25 hex_25 H locs hP hS ls hl
        refine lv_iload_n hx hb dX10_hour_25 rfl (lv_at hl 2 rfl) ?_
        refine lv_iload_n hx hb dX10_hour_26 rfl (lv_at hl 1 rfl) ?_
        refine lv_icmp_ge (tgt := 43) hx hb dX10_hour_27 (by decide) (fun c_5 => ?_) (fun c_5 => ?_)
        · have he_6 : f_X10_hour_L25 (n + 1) T_25 x1_25 x3_25 = T_25 := ((ip c_5 rfl))
          exact hex_25 _ he_6.symm _ _ hP hS ls (lv_sub hl [0] rfl)
        · refine lv_aload_n hx hb dX10_hour_30 rfl (lv_at hl 0 rfl) ?_
          refine xget (ref := "AbsentPraise") (T := TX10) (v := .ref (X.2.1 15)) hC hP hin_X10 xo_X10 rfl 3 (by decide) (List.mem_of_getElem? (i := 3) rfl) rfl rfl dX10_hour_31 ?_
          have hn_7 : s_X4_passHour T_25 := (nl (sn hs_25 c_5))
          refine xcV_vW (b := 15) (As := []) (rest := []) hC hP hS (k_X4_passHour l X T_25 hn_7) (cwV 0 hts gX10_hour_X4_passHour rfl rfl rfl hd_X4_passHour ⟨Nat.le_of_ble_eq_true rfl, Nat.le_of_ble_eq_true rfl⟩) xo_X4 rfl rfl rfl hl.1 (Nat.le_of_ble_eq_true rfl) dX10_hour_34 (fun S_8 hS_8 H locs hP hS => ?_)
          refine lv_iinc (v := (x3_25 + 1)) (lv' := [(3, .int (x3_25 + 1)), (0, .ref (X.2.1 0)), (1, .int x1_25)]) hx hb dX10_hour_37 hl (k := 2) rfl rfl (by decide) rfl (fun ls hl => ?_)
          refine lv_goto (tgt := 25) hx hb dX10_hour_40 (by decide) ?_
          have he_9 : f_X10_hour_L25 (n + 1) T_25 x1_25 x3_25 = f_X10_hour_L25 n S_8 x1_25 (x3_25 + 1) := (by have hS_8 := hS_8.symm; subst hS_8; exact (iN c_5 rfl))
          exact ih_25 S_8 x1_25 (x3_25 + 1) (by have hS_8 := hS_8.symm; subst hS_8; exact (nr (sn hs_25 c_5))) (fun q hq => hex_25 q (hq.trans he_9.symm)) _ _ hP hS ls (lv_sub hl [1, 2, 0] rfl)
    refine hLp_25 ((fu 0 p0)) S_4 p0 0 (by have hr_1 := hr_1.symm; have hS_4 := hS_4.symm; subst hr_1 hS_4; exact nl (nr (sp hs c_2))) (fun q_25 hq_25 H locs hP hS ls hl => ?_) _ _ hP hS ls (lv_sub hl [2, 3, 0] rfl)
    refine lv_aload_n hx hb dX10_hour_43 rfl (lv_at hl 0 rfl) ?_
    refine xget (ref := "AbsentPraise") (T := TX10) (v := .ref (X.2.1 32)) hC hP hin_X10 xo_X10 rfl 2 (by decide) (List.mem_of_getElem? (i := 2) rfl) rfl rfl dX10_hour_44 ?_
    refine xget (ref := "AbsentPraise$Talk") (T := TX7) (v := .int (q_25 32 5)) hC hP hin_X7 (xo_T (by decide)) rfl 5 (by decide) (List.mem_of_getElem? (i := 4) rfl) rfl rfl dX10_hour_47 ?_
    exact xret_iW hC hP hS hb hr ((by have hr_1 := hr_1.symm; have hS_4 := hS_4.symm; have hq_25 := hq_25.symm; subst hr_1 hS_4 hq_25; exact (ip c_2 rfl))) dX10_hour_50 hlocks
  · refine lv_iload_n hx hb dX10_hour_10 rfl (lv_at hl 0 rfl) ?_
    exact xret_iW hC hP hS hb hr ((by have hr_1 := hr_1.symm; subst hr_1; exact (iN c_2 rfl))) dX10_hour_11 hlocks
theorem hd_X10_go : yX10_go.cls = RX10 ∧ yX10_go.cls ≠ "java/lang/invoke/MethodHandle" ∧ yX10_go.cls ≠ "java/lang/invoke/VarHandle" ∧ (parseMethodDescriptor yX10_go.desc).map (fun d => d.parameters.length) = some 2 := by decide +kernel
set_option maxHeartbeats 4000000 in
set_option maxRecDepth 100000 in
theorem k_X10_go (l : Launch) (X : xX) (S : xS) (p0 : Int32) (p1 : Int32) (hs : s_X10_go S p0 p1) : Met l yX10_go wsX10_go ({ frames := 4, cells := 0, slots := 0, locals := 104 } : Room) (va_Pc [.ref (X.2.1 0), .int p0, .int p1] (xI X S)) (va_Qi (fun (r : Int32) (u : xS) => r = (f_X10_go S p0 p1).1 ∧ u = (f_X10_go S p0 p1).2) (xI X) (xA X)) 0 0 (xA X) := by
  refine Met.ofW (cc := cX10_go) (maxL := 4) (ret := (some .int)) (by decide +kernel) rfl ?_
  intro p e s m args below meth c s₁ B hml hv
  obtain ⟨rfl, hP, hK, hN, hJ⟩ := hv
  have hx := B.exec
  have hb := B.bytes
  have hr := B.returns
  have hts := atoms_spec (ws := wsX10_go) B.pre
  have hown : s.vm.findClass RX10 = some m.cls := findClass_of_methodNamed B.named
  have hlocks := B.notSynchronized
  have hC : xC X p m c cX10_go 4 s _ wsX10_go RX10 := ⟨⟨hx, hb, hml, hown, hts⟩, hK, hN, hJ⟩
  have hS : va_S (xA X) s.heap s.heap [] := va_S.rf
  have hin_X10 : ∀ w ∈ u_ws RX10 TX10 10, w ∈ wsX10_go := by decide +kernel
  have hin_X7 : ∀ w ∈ u_ws RX7 TX7 6, w ∈ wsX10_go := by decide +kernel
  have hl := lv_entry ([.ref (X.2.1 0), .int p0, .int p1]) (n := 4) (Nat.le_of_ble_eq_true rfl)
  rw [lg_entry_eq]
  generalize (lg_sl ([.ref (X.2.1 0), .int p0, .int p1]) ++ List.replicate (4 - (lg_sl ([.ref (X.2.1 0), .int p0, .int p1])).length) Slot.unset).toArray = ls at hl ⊢
  have hl : lv_has ls 4 [(0, .ref (X.2.1 0)), (1, .int p0), (2, .int p1)] := hl
  refine lv_aload_n hx hb dX10_go_0 rfl (lv_at hl 0 rfl) ?_
  refine xget (ref := "AbsentPraise") (T := TX10) (v := .ref (X.2.1 9)) hC hP hin_X10 xo_X10 rfl 1 (by decide) (List.mem_of_getElem? (i := 1) rfl) rfl rfl dX10_go_1 ?_
  refine lv_iload_n hx hb dX10_go_4 rfl (lv_at hl 1 rfl) ?_
  refine xcV_iR (b := 9) (As := [.int p0]) (rest := []) hC hP hS (k_X2_isPerson l X S 9 p0 (by decide)) (cwV 1 hts gX10_go_X2_isPerson rfl rfl rfl hd_X2_isPerson ⟨Nat.le_of_ble_eq_true rfl, Nat.le_of_ble_eq_true rfl⟩) (xo_H (by decide)) rfl rfl rfl hl.1 (Nat.le_of_ble_eq_true rfl) dX10_go_5 (fun r_1 hp_r_1 H locs hP hS => ?_)
  obtain ⟨hr_1, hzr_1⟩ := hp_r_1
  refine lv_if_eq (tgt := 22) hx hb dX10_go_8 (by decide) (fun c_2 => ?_) (fun c_2 => ?_)
  · refine lv_ldc (v := (-1000000001)) hx hb hown (hts (.constant RX10 162 (-1000000001)) (List.mem_of_getElem? (i := 2) rfl)) dX10_go_22 ?_
    exact xret_iW hC hP hS hb hr ((by have hr_1 := hr_1.symm; subst hr_1; exact (ip c_2 rfl))) dX10_go_24 hlocks
  · refine lv_aload_n hx hb dX10_go_11 rfl (lv_at hl 0 rfl) ?_
    refine xget (ref := "AbsentPraise") (T := TX10) (v := .ref (X.2.1 9)) hC hP hin_X10 xo_X10 rfl 1 (by decide) (List.mem_of_getElem? (i := 1) rfl) rfl rfl dX10_go_12 ?_
    refine lv_iload_n hx hb dX10_go_15 rfl (lv_at hl 2 rfl) ?_
    refine xcV_iR (b := 9) (As := [.int p1]) (rest := []) hC hP hS (k_X2_isRoom l X S 9 p1 (by decide)) (cwV 1 hts gX10_go_X2_isRoom rfl rfl rfl hd_X2_isRoom ⟨Nat.le_of_ble_eq_true rfl, Nat.le_of_ble_eq_true rfl⟩) (xo_H (by decide)) rfl rfl rfl hl.1 (Nat.le_of_ble_eq_true rfl) dX10_go_16 (fun r_3 hp_r_3 H locs hP hS => ?_)
    obtain ⟨hr_3, hzr_3⟩ := hp_r_3
    refine lv_if_ne (tgt := 25) hx hb dX10_go_19 (by decide) (fun c_4 => ?_) (fun c_4 => ?_)
    · refine lv_aload_n hx hb dX10_go_25 rfl (lv_at hl 0 rfl) ?_
      refine xget (ref := "AbsentPraise") (T := TX10) (v := .ref (X.2.1 32)) hC hP hin_X10 xo_X10 rfl 2 (by decide) (List.mem_of_getElem? (i := 3) rfl) rfl rfl dX10_go_26 ?_
      refine xget (ref := "AbsentPraise$Talk") (T := TX7) (v := .ref (X.2.1 33)) hC hP hin_X7 (xo_T (by decide)) rfl 0 (by decide) (List.mem_of_getElem? (i := 4) rfl) rfl rfl dX10_go_29 ?_
      refine lv_iload_n hx hb dX10_go_32 rfl (lv_at hl 1 rfl) ?_
      refine xcS_iR (As := [.ref (X.2.1 33), .int p0]) (rest := []) hC hP hS (k_X10_at l X S 33 p0 rfl) (va_cwS 2 hts gX10_go_X10_at rfl rfl rfl hs_X10_at ⟨Nat.le_of_ble_eq_true rfl, Nat.le_of_ble_eq_true rfl⟩) rfl rfl hl.1 (Nat.le_of_ble_eq_true rfl) dX10_go_33 (fun r_5 hr_5 H locs hP hS => ?_)
      refine lv_istore_n (lv' := [(3, .int r_5), (0, .ref (X.2.1 0)), (1, .int p0), (2, .int p1)]) hx hb dX10_go_36 rfl hl (by decide) rfl (fun ls hl => ?_)
      refine lv_aload_n hx hb dX10_go_37 rfl (lv_at hl 1 rfl) ?_
      refine xget (ref := "AbsentPraise") (T := TX10) (v := .ref (X.2.1 9)) hC hP hin_X10 xo_X10 rfl 1 (by decide) (List.mem_of_getElem? (i := 1) rfl) rfl rfl dX10_go_38 ?_
      refine lv_iload_n hx hb dX10_go_41 rfl (lv_at hl 0 rfl) ?_
      refine lv_iload_n hx hb dX10_go_42 rfl (lv_at hl 3 rfl) ?_
      refine xcV_iR (b := 9) (As := [.int r_5, .int p1]) (rest := []) hC hP hS (k_X2_isWay l X S 9 r_5 p1 (by decide)) (cwV 2 hts gX10_go_X2_isWay rfl rfl rfl hd_X2_isWay ⟨Nat.le_of_ble_eq_true rfl, Nat.le_of_ble_eq_true rfl⟩) (xo_H (by decide)) rfl rfl rfl hl.1 (Nat.le_of_ble_eq_true rfl) dX10_go_43 (fun r_6 hp_r_6 H locs hP hS => ?_)
      obtain ⟨hr_6, hzr_6⟩ := hp_r_6
      refine lv_if_ne (tgt := 52) hx hb dX10_go_46 (by decide) (fun c_7 => ?_) (fun c_7 => ?_)
      · refine lv_aload_n hx hb dX10_go_52 rfl (lv_at hl 1 rfl) ?_
        refine xget (ref := "AbsentPraise") (T := TX10) (v := .ref (X.2.1 27)) hC hP hin_X10 xo_X10 rfl 5 (by decide) (List.mem_of_getElem? (i := 6) rfl) rfl rfl dX10_go_53 ?_
        refine lv_aload_n hx hb dX10_go_56 rfl (lv_at hl 1 rfl) ?_
        refine xget (ref := "AbsentPraise") (T := TX10) (v := .ref (X.2.1 32)) hC hP hin_X10 xo_X10 rfl 2 (by decide) (List.mem_of_getElem? (i := 3) rfl) rfl rfl dX10_go_57 ?_
        have hn_8 : s_X6_remember S 32 := (by have hr_1 := hr_1.symm; have hr_3 := hr_3.symm; have hr_5 := hr_5.symm; have hr_6 := hr_6.symm; subst hr_1 hr_3 hr_5 hr_6; exact nl (sn (sn (sn hs c_2) c_4) c_7))
        refine xcV_vW (b := 27) (As := [.ref (X.2.1 32)]) (rest := []) hC hP hS (k_X6_remember l X S 32 (by decide) hn_8) (cwV 1 hts gX10_go_X6_remember rfl rfl rfl hd_X6_remember ⟨Nat.le_of_ble_eq_true rfl, Nat.le_of_ble_eq_true rfl⟩) xo_X6 rfl rfl rfl hl.1 (Nat.le_of_ble_eq_true rfl) dX10_go_60 (fun S_9 hS_9 H locs hP hS => ?_)
        refine lv_aload_n hx hb dX10_go_63 rfl (lv_at hl 1 rfl) ?_
        refine xget (ref := "AbsentPraise") (T := TX10) (v := .ref (X.2.1 32)) hC hP hin_X10 xo_X10 rfl 2 (by decide) (List.mem_of_getElem? (i := 3) rfl) rfl rfl dX10_go_64 ?_
        refine xget (ref := "AbsentPraise$Talk") (T := TX7) (v := .ref (X.2.1 33)) hC hP hin_X7 (xo_T (by decide)) rfl 0 (by decide) (List.mem_of_getElem? (i := 4) rfl) rfl rfl dX10_go_67 ?_
        refine lv_iload_n hx hb dX10_go_70 rfl (lv_at hl 2 rfl) ?_
        refine lv_iload_n hx hb dX10_go_71 rfl (lv_at hl 3 rfl) ?_
        refine xcS_vW (As := [.ref (X.2.1 33), .int p0, .int p1]) (rest := []) hC hP hS (k_X10_put l X S_9 33 p0 p1 rfl) (va_cwS 3 hts gX10_go_X10_put rfl rfl rfl hs_X10_put ⟨Nat.le_of_ble_eq_true rfl, Nat.le_of_ble_eq_true rfl⟩) rfl rfl hl.1 (Nat.le_of_ble_eq_true rfl) dX10_go_72 (fun S_10 hS_10 H locs hP hS => ?_)
        refine lv_iload_n hx hb dX10_go_75 rfl (lv_at hl 0 rfl) ?_
        exact xret_iW hC hP hS hb hr ((by have hr_1 := hr_1.symm; have hr_3 := hr_3.symm; have hr_5 := hr_5.symm; have hr_6 := hr_6.symm; have hS_9 := hS_9.symm; have hS_10 := hS_10.symm; subst hr_1 hr_3 hr_5 hr_6 hS_9 hS_10; exact (iN c_2 (iN c_4 (iN c_7 rfl))))) dX10_go_76 hlocks
      · refine lv_ldc (v := (-1000000003)) hx hb hown (hts (.constant RX10 227 (-1000000003)) (List.mem_of_getElem? (i := 5) rfl)) dX10_go_49 ?_
        exact xret_iW hC hP hS hb hr ((by have hr_1 := hr_1.symm; have hr_3 := hr_3.symm; have hr_5 := hr_5.symm; have hr_6 := hr_6.symm; subst hr_1 hr_3 hr_5 hr_6; exact (iN c_2 (iN c_4 (ip c_7 rfl))))) dX10_go_51 hlocks
    · refine lv_ldc (v := (-1000000001)) hx hb hown (hts (.constant RX10 162 (-1000000001)) (List.mem_of_getElem? (i := 2) rfl)) dX10_go_22 ?_
      exact xret_iW hC hP hS hb hr ((by have hr_1 := hr_1.symm; have hr_3 := hr_3.symm; subst hr_1 hr_3; exact (iN c_2 (ip c_4 rfl)))) dX10_go_24 hlocks
theorem hd_X10_cough : yX10_cough.cls = RX10 ∧ yX10_cough.cls ≠ "java/lang/invoke/MethodHandle" ∧ yX10_cough.cls ≠ "java/lang/invoke/VarHandle" ∧ (parseMethodDescriptor yX10_cough.desc).map (fun d => d.parameters.length) = some 1 := by decide +kernel
set_option maxHeartbeats 4000000 in
set_option maxRecDepth 100000 in
theorem k_X10_cough (l : Launch) (X : xX) (S : xS) (p0 : Int32) (hs : s_X10_cough S p0) : Met l yX10_cough wsX10_cough ({ frames := 4, cells := 0, slots := 0, locals := 104 } : Room) (va_Pc [.ref (X.2.1 0), .int p0] (xI X S)) (va_Qi (fun (r : Int32) (u : xS) => r = (f_X10_cough S p0).1 ∧ u = (f_X10_cough S p0).2) (xI X) (xA X)) 0 0 (xA X) := by
  refine Met.ofW (cc := cX10_cough) (maxL := 2) (ret := (some .int)) (by decide +kernel) rfl ?_
  intro p e s m args below meth c s₁ B hml hv
  obtain ⟨rfl, hP, hK, hN, hJ⟩ := hv
  have hx := B.exec
  have hb := B.bytes
  have hr := B.returns
  have hts := atoms_spec (ws := wsX10_cough) B.pre
  have hown : s.vm.findClass RX10 = some m.cls := findClass_of_methodNamed B.named
  have hlocks := B.notSynchronized
  have hC : xC X p m c cX10_cough 2 s _ wsX10_cough RX10 := ⟨⟨hx, hb, hml, hown, hts⟩, hK, hN, hJ⟩
  have hS : va_S (xA X) s.heap s.heap [] := va_S.rf
  have hin_X10 : ∀ w ∈ u_ws RX10 TX10 10, w ∈ wsX10_cough := by decide +kernel
  have hin_X7 : ∀ w ∈ u_ws RX7 TX7 6, w ∈ wsX10_cough := by decide +kernel
  have hl := lv_entry ([.ref (X.2.1 0), .int p0]) (n := 2) (Nat.le_of_ble_eq_true rfl)
  rw [lg_entry_eq]
  generalize (lg_sl ([.ref (X.2.1 0), .int p0]) ++ List.replicate (2 - (lg_sl ([.ref (X.2.1 0), .int p0])).length) Slot.unset).toArray = ls at hl ⊢
  have hl : lv_has ls 2 [(0, .ref (X.2.1 0)), (1, .int p0)] := hl
  refine lv_aload_n hx hb dX10_cough_0 rfl (lv_at hl 0 rfl) ?_
  refine xget (ref := "AbsentPraise") (T := TX10) (v := .ref (X.2.1 9)) hC hP hin_X10 xo_X10 rfl 1 (by decide) (List.mem_of_getElem? (i := 1) rfl) rfl rfl dX10_cough_1 ?_
  refine lv_iload_n hx hb dX10_cough_4 rfl (lv_at hl 1 rfl) ?_
  refine xcV_iR (b := 9) (As := [.int p0]) (rest := []) hC hP hS (k_X2_isPerson l X S 9 p0 (by decide)) (cwV 1 hts gX10_cough_X2_isPerson rfl rfl rfl hd_X2_isPerson ⟨Nat.le_of_ble_eq_true rfl, Nat.le_of_ble_eq_true rfl⟩) (xo_H (by decide)) rfl rfl rfl hl.1 (Nat.le_of_ble_eq_true rfl) dX10_cough_5 (fun r_1 hp_r_1 H locs hP hS => ?_)
  obtain ⟨hr_1, hzr_1⟩ := hp_r_1
  refine lv_if_ne (tgt := 14) hx hb dX10_cough_8 (by decide) (fun c_2 => ?_) (fun c_2 => ?_)
  · refine lv_aload_n hx hb dX10_cough_14 rfl (lv_at hl 0 rfl) ?_
    refine xget (ref := "AbsentPraise") (T := TX10) (v := .ref (X.2.1 32)) hC hP hin_X10 xo_X10 rfl 2 (by decide) (List.mem_of_getElem? (i := 3) rfl) rfl rfl dX10_cough_15 ?_
    refine xget (ref := "AbsentPraise$Talk") (T := TX7) (v := .int (S 32 4)) hC hP hin_X7 (xo_T (by decide)) rfl 4 (by decide) (List.mem_of_getElem? (i := 4) rfl) rfl rfl dX10_cough_18 ?_
    refine lv_iload_n hx hb dX10_cough_21 rfl (lv_at hl 1 rfl) ?_
    refine xcS_iR (As := [.int (S 32 4), .int p0]) (rest := []) hC hP hS (k_X10_has l X S (S 32 4) p0) (va_cwS 2 hts gX10_cough_X10_has rfl rfl rfl hs_X10_has ⟨Nat.le_of_ble_eq_true rfl, Nat.le_of_ble_eq_true rfl⟩) rfl rfl hl.1 (Nat.le_of_ble_eq_true rfl) dX10_cough_22 (fun r_3 hp_r_3 H locs hP hS => ?_)
    obtain ⟨hr_3, hzr_3⟩ := hp_r_3
    refine lv_if_eq (tgt := 31) hx hb dX10_cough_25 (by decide) (fun c_4 => ?_) (fun c_4 => ?_)
    · refine lv_aload_n hx hb dX10_cough_31 rfl (lv_at hl 0 rfl) ?_
      refine xget (ref := "AbsentPraise") (T := TX10) (v := .ref (X.2.1 27)) hC hP hin_X10 xo_X10 rfl 5 (by decide) (List.mem_of_getElem? (i := 6) rfl) rfl rfl dX10_cough_32 ?_
      refine lv_aload_n hx hb dX10_cough_35 rfl (lv_at hl 0 rfl) ?_
      refine xget (ref := "AbsentPraise") (T := TX10) (v := .ref (X.2.1 32)) hC hP hin_X10 xo_X10 rfl 2 (by decide) (List.mem_of_getElem? (i := 3) rfl) rfl rfl dX10_cough_36 ?_
      have hn_5 : s_X6_remember S 32 := (by have hr_1 := hr_1.symm; have hr_3 := hr_3.symm; subst hr_1 hr_3; exact nl (sp (sn hs c_2) c_4))
      refine xcV_vW (b := 27) (As := [.ref (X.2.1 32)]) (rest := []) hC hP hS (k_X6_remember l X S 32 (by decide) hn_5) (cwV 1 hts gX10_cough_X6_remember rfl rfl rfl hd_X6_remember ⟨Nat.le_of_ble_eq_true rfl, Nat.le_of_ble_eq_true rfl⟩) xo_X6 rfl rfl rfl hl.1 (Nat.le_of_ble_eq_true rfl) dX10_cough_39 (fun S_6 hS_6 H locs hP hS => ?_)
      refine lv_aload_n hx hb dX10_cough_42 rfl (lv_at hl 0 rfl) ?_
      refine xget (ref := "AbsentPraise") (T := TX10) (v := .ref (X.2.1 32)) hC hP hin_X10 xo_X10 rfl 2 (by decide) (List.mem_of_getElem? (i := 3) rfl) rfl rfl dX10_cough_43 ?_
      refine lv_dup hx hb dX10_cough_46 rfl ?_
      refine xget (ref := "AbsentPraise$Talk") (T := TX7) (v := .int (S_6 32 4)) hC hP hin_X7 (xo_T (by decide)) rfl 4 (by decide) (List.mem_of_getElem? (i := 4) rfl) rfl rfl dX10_cough_47 ?_
      refine lv_iload_n hx hb dX10_cough_50 rfl (lv_at hl 1 rfl) ?_
      refine xcS_iR (As := [.int p0]) (rest := [.int (S_6 32 4), .ref (X.2.1 32)]) hC hP hS (k_X10_bit l X S_6 p0) (va_cwS 1 hts gX10_cough_X10_bit rfl rfl rfl hs_X10_bit ⟨Nat.le_of_ble_eq_true rfl, Nat.le_of_ble_eq_true rfl⟩) rfl rfl hl.1 (Nat.le_of_ble_eq_true rfl) dX10_cough_51 (fun r_7 hr_7 H locs hP hS => ?_)
      refine lv_ior hx hb dX10_cough_54 ?_
      refine xput (ref := "AbsentPraise$Talk") (T := TX7) (ty := .int) hC hP hS (isT_lt (by decide)) hin_X7 tyX7 tyX7_ok nmX7 (xo_T (by decide)) rfl 4 (by decide) (List.mem_of_getElem? (i := 4) rfl) rfl rfl rfl rfl rfl (Nat.le_of_ble_eq_true rfl) dX10_cough_55 (xn_X7_4 (by decide)) (fun S_8 hS_8 H locs hP hS => ?_)
      refine lv_aload_n hx hb dX10_cough_58 rfl (lv_at hl 0 rfl) ?_
      refine xget (ref := "AbsentPraise") (T := TX10) (v := .ref (X.2.1 32)) hC hP hin_X10 xo_X10 rfl 2 (by decide) (List.mem_of_getElem? (i := 3) rfl) rfl rfl dX10_cough_59 ?_
      refine xget (ref := "AbsentPraise$Talk") (T := TX7) (v := .int (S_8 32 4)) hC hP hin_X7 (xo_T (by decide)) rfl 4 (by decide) (List.mem_of_getElem? (i := 4) rfl) rfl rfl dX10_cough_62 ?_
      exact xret_iW hC hP hS hb hr ((by have hr_1 := hr_1.symm; have hr_3 := hr_3.symm; have hS_6 := hS_6.symm; have hr_7 := hr_7.symm; have hS_8 := hS_8.symm; subst hr_1 hr_3 hS_6 hr_7 hS_8; exact (iN c_2 (ip c_4 rfl)))) dX10_cough_65 hlocks
    · refine lv_ldc (v := (-1000000003)) hx hb hown (hts (.constant RX10 227 (-1000000003)) (List.mem_of_getElem? (i := 5) rfl)) dX10_cough_28 ?_
      exact xret_iW hC hP hS hb hr ((by have hr_1 := hr_1.symm; have hr_3 := hr_3.symm; subst hr_1 hr_3; exact (iN c_2 (iN c_4 rfl)))) dX10_cough_30 hlocks
  · refine lv_ldc (v := (-1000000001)) hx hb hown (hts (.constant RX10 162 (-1000000001)) (List.mem_of_getElem? (i := 2) rfl)) dX10_cough_11 ?_
    exact xret_iW hC hP hS hb hr ((by have hr_1 := hr_1.symm; subst hr_1; exact (ip c_2 rfl))) dX10_cough_13 hlocks
theorem hd_X10_like : yX10_like.cls = RX10 ∧ yX10_like.cls ≠ "java/lang/invoke/MethodHandle" ∧ yX10_like.cls ≠ "java/lang/invoke/VarHandle" ∧ (parseMethodDescriptor yX10_like.desc).map (fun d => d.parameters.length) = some 3 := by decide +kernel
set_option maxHeartbeats 4000000 in
set_option maxRecDepth 100000 in
theorem k_X10_like (l : Launch) (X : xX) (S : xS) (p0 : Int32) (p1 : Int32) (p2 : Int32) (hs : s_X10_like S p0 p1 p2) : Met l yX10_like wsX10_like ({ frames := 4, cells := 0, slots := 0, locals := 104 } : Room) (va_Pc [.ref (X.2.1 0), .int p0, .int p1, .int p2] (xI X S)) (va_Qi (fun (r : Int32) (u : xS) => r = (f_X10_like S p0 p1 p2).1 ∧ u = (f_X10_like S p0 p1 p2).2) (xI X) (xA X)) 0 0 (xA X) := by
  refine Met.ofW (cc := cX10_like) (maxL := 5) (ret := (some .int)) (by decide +kernel) rfl ?_
  intro p e s m args below meth c s₁ B hml hv
  obtain ⟨rfl, hP, hK, hN, hJ⟩ := hv
  have hx := B.exec
  have hb := B.bytes
  have hr := B.returns
  have hts := atoms_spec (ws := wsX10_like) B.pre
  have hown : s.vm.findClass RX10 = some m.cls := findClass_of_methodNamed B.named
  have hlocks := B.notSynchronized
  have hC : xC X p m c cX10_like 5 s _ wsX10_like RX10 := ⟨⟨hx, hb, hml, hown, hts⟩, hK, hN, hJ⟩
  have hS : va_S (xA X) s.heap s.heap [] := va_S.rf
  have hin_X10 : ∀ w ∈ u_ws RX10 TX10 10, w ∈ wsX10_like := by decide +kernel
  have hin_X7 : ∀ w ∈ u_ws RX7 TX7 6, w ∈ wsX10_like := by decide +kernel
  have hl := lv_entry ([.ref (X.2.1 0), .int p0, .int p1, .int p2]) (n := 5) (Nat.le_of_ble_eq_true rfl)
  rw [lg_entry_eq]
  generalize (lg_sl ([.ref (X.2.1 0), .int p0, .int p1, .int p2]) ++ List.replicate (5 - (lg_sl ([.ref (X.2.1 0), .int p0, .int p1, .int p2])).length) Slot.unset).toArray = ls at hl ⊢
  have hl : lv_has ls 5 [(0, .ref (X.2.1 0)), (1, .int p0), (2, .int p1), (3, .int p2)] := hl
  refine lv_aload_n hx hb dX10_like_0 rfl (lv_at hl 0 rfl) ?_
  refine xget (ref := "AbsentPraise") (T := TX10) (v := .ref (X.2.1 9)) hC hP hin_X10 xo_X10 rfl 1 (by decide) (List.mem_of_getElem? (i := 1) rfl) rfl rfl dX10_like_1 ?_
  refine lv_iload_n hx hb dX10_like_4 rfl (lv_at hl 1 rfl) ?_
  refine lv_iload_n hx hb dX10_like_5 rfl (lv_at hl 2 rfl) ?_
  refine xcV_iR (b := 9) (As := [.int p0, .int p1]) (rest := []) hC hP hS (k_X2_isPair l X S 9 p0 p1 (by decide)) (cwV 2 hts gX10_like_X2_isPair rfl rfl rfl hd_X2_isPair ⟨Nat.le_of_ble_eq_true rfl, Nat.le_of_ble_eq_true rfl⟩) (xo_H (by decide)) rfl rfl rfl hl.1 (Nat.le_of_ble_eq_true rfl) dX10_like_6 (fun r_1 hp_r_1 H locs hP hS => ?_)
  obtain ⟨hr_1, hzr_1⟩ := hp_r_1
  refine lv_if_ne (tgt := 15) hx hb dX10_like_9 (by decide) (fun c_2 => ?_) (fun c_2 => ?_)
  · refine lv_iload_n hx hb dX10_like_15 rfl (lv_at hl 3 rfl) ?_
    refine lv_iconst (v := 0) hx hb dX10_like_16 (by decide) ?_
    refine lv_bipush (v := 9) hx hb dX10_like_17 (by decide) ?_
    refine xcS_iR (As := [.int p2, .int 0, .int 9]) (rest := []) hC hP hS (k_X10_within l X S p2 0 9) (va_cwS 3 hts gX10_like_X10_within rfl rfl rfl hs_X10_within ⟨Nat.le_of_ble_eq_true rfl, Nat.le_of_ble_eq_true rfl⟩) rfl rfl hl.1 (Nat.le_of_ble_eq_true rfl) dX10_like_19 (fun r_3 hp_r_3 H locs hP hS => ?_)
    obtain ⟨hr_3, hzr_3⟩ := hp_r_3
    refine lv_if_ne (tgt := 28) hx hb dX10_like_22 (by decide) (fun c_4 => ?_) (fun c_4 => ?_)
    · refine lv_aload_n hx hb dX10_like_28 rfl (lv_at hl 0 rfl) ?_
      refine xget (ref := "AbsentPraise") (T := TX10) (v := .ref (X.2.1 27)) hC hP hin_X10 xo_X10 rfl 5 (by decide) (List.mem_of_getElem? (i := 4) rfl) rfl rfl dX10_like_29 ?_
      refine lv_aload_n hx hb dX10_like_32 rfl (lv_at hl 0 rfl) ?_
      refine xget (ref := "AbsentPraise") (T := TX10) (v := .ref (X.2.1 32)) hC hP hin_X10 xo_X10 rfl 2 (by decide) (List.mem_of_getElem? (i := 5) rfl) rfl rfl dX10_like_33 ?_
      have hn_5 : s_X6_remember S 32 := (by have hr_1 := hr_1.symm; have hr_3 := hr_3.symm; subst hr_1 hr_3; exact nl (sn (sn hs c_2) c_4))
      refine xcV_vW (b := 27) (As := [.ref (X.2.1 32)]) (rest := []) hC hP hS (k_X6_remember l X S 32 (by decide) hn_5) (cwV 1 hts gX10_like_X6_remember rfl rfl rfl hd_X6_remember ⟨Nat.le_of_ble_eq_true rfl, Nat.le_of_ble_eq_true rfl⟩) xo_X6 rfl rfl rfl hl.1 (Nat.le_of_ble_eq_true rfl) dX10_like_36 (fun S_6 hS_6 H locs hP hS => ?_)
      refine lv_aload_n hx hb dX10_like_39 rfl (lv_at hl 0 rfl) ?_
      refine xget (ref := "AbsentPraise") (T := TX10) (v := .ref (X.2.1 32)) hC hP hin_X10 xo_X10 rfl 2 (by decide) (List.mem_of_getElem? (i := 5) rfl) rfl rfl dX10_like_40 ?_
      refine xget (ref := "AbsentPraise$Talk") (T := TX7) (v := .ref (X.2.1 36)) hC hP hin_X7 (xo_T (by decide)) rfl 3 (by decide) (List.mem_of_getElem? (i := 6) rfl) rfl rfl dX10_like_43 ?_
      refine lv_iload_n hx hb dX10_like_46 rfl (lv_at hl 1 rfl) ?_
      refine lv_iload_n hx hb dX10_like_47 rfl (lv_at hl 2 rfl) ?_
      refine xcS_iR (As := [.int p0, .int p1]) (rest := [.ref (X.2.1 36)]) hC hP hS (k_X10_pairIndex l X S_6 p0 p1) (va_cwS 2 hts gX10_like_X10_pairIndex rfl rfl rfl hs_X10_pairIndex ⟨Nat.le_of_ble_eq_true rfl, Nat.le_of_ble_eq_true rfl⟩) rfl rfl hl.1 (Nat.le_of_ble_eq_true rfl) dX10_like_48 (fun r_7 hr_7 H locs hP hS => ?_)
      refine xcS_iR (As := [.ref (X.2.1 36), .int r_7]) (rest := []) hC hP hS (k_X10_at l X S_6 36 r_7 rfl) (va_cwS 2 hts gX10_like_X10_at rfl rfl rfl hs_X10_at ⟨Nat.le_of_ble_eq_true rfl, Nat.le_of_ble_eq_true rfl⟩) rfl rfl hl.1 (Nat.le_of_ble_eq_true rfl) dX10_like_51 (fun r_8 hr_8 H locs hP hS => ?_)
      refine lv_istore (lv' := [(4, .int r_8), (0, .ref (X.2.1 0)), (1, .int p0), (2, .int p1), (3, .int p2)]) hx hb dX10_like_54 hl (by decide) rfl (fun ls hl => ?_)
      refine lv_aload_n hx hb dX10_like_56 rfl (lv_at hl 1 rfl) ?_
      refine xget (ref := "AbsentPraise") (T := TX10) (v := .ref (X.2.1 32)) hC hP hin_X10 xo_X10 rfl 2 (by decide) (List.mem_of_getElem? (i := 5) rfl) rfl rfl dX10_like_57 ?_
      refine xget (ref := "AbsentPraise$Talk") (T := TX7) (v := .ref (X.2.1 36)) hC hP hin_X7 (xo_T (by decide)) rfl 3 (by decide) (List.mem_of_getElem? (i := 6) rfl) rfl rfl dX10_like_60 ?_
      refine lv_iload_n hx hb dX10_like_63 rfl (lv_at hl 2 rfl) ?_
      refine lv_iload_n hx hb dX10_like_64 rfl (lv_at hl 3 rfl) ?_
      refine xcS_iR (As := [.int p0, .int p1]) (rest := [.ref (X.2.1 36)]) hC hP hS (k_X10_pairIndex l X S_6 p0 p1) (va_cwS 2 hts gX10_like_X10_pairIndex rfl rfl rfl hs_X10_pairIndex ⟨Nat.le_of_ble_eq_true rfl, Nat.le_of_ble_eq_true rfl⟩) rfl rfl hl.1 (Nat.le_of_ble_eq_true rfl) dX10_like_65 (fun r_9 hr_9 H locs hP hS => ?_)
      refine lv_iload_n hx hb dX10_like_68 rfl (lv_at hl 4 rfl) ?_
      refine xcS_vW (As := [.ref (X.2.1 36), .int r_9, .int p2]) (rest := []) hC hP hS (k_X10_put l X S_6 36 r_9 p2 rfl) (va_cwS 3 hts gX10_like_X10_put rfl rfl rfl hs_X10_put ⟨Nat.le_of_ble_eq_true rfl, Nat.le_of_ble_eq_true rfl⟩) rfl rfl hl.1 (Nat.le_of_ble_eq_true rfl) dX10_like_69 (fun S_10 hS_10 H locs hP hS => ?_)
      refine lv_iload hx hb dX10_like_72 (lv_at hl 0 rfl) ?_
      exact xret_iW hC hP hS hb hr ((by have hr_1 := hr_1.symm; have hr_3 := hr_3.symm; have hS_6 := hS_6.symm; have hr_7 := hr_7.symm; have hr_8 := hr_8.symm; have hr_9 := hr_9.symm; have hS_10 := hS_10.symm; subst hr_1 hr_3 hS_6 hr_7 hr_8 hr_9 hS_10; exact (iN c_2 (iN c_4 rfl)))) dX10_like_74 hlocks
    · refine lv_ldc (v := (-1000000002)) hx hb hown (hts (.constant RX10 87 (-1000000002)) (List.mem_of_getElem? (i := 3) rfl)) dX10_like_25 ?_
      exact xret_iW hC hP hS hb hr ((by have hr_1 := hr_1.symm; have hr_3 := hr_3.symm; subst hr_1 hr_3; exact (iN c_2 (ip c_4 rfl)))) dX10_like_27 hlocks
  · refine lv_ldc (v := (-1000000001)) hx hb hown (hts (.constant RX10 162 (-1000000001)) (List.mem_of_getElem? (i := 2) rfl)) dX10_like_12 ?_
    exact xret_iW hC hP hS hb hr ((by have hr_1 := hr_1.symm; subst hr_1; exact (ip c_2 rfl))) dX10_like_14 hlocks
