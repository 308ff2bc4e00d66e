set_option linter.all false
/-! contracts: X7_copyFrom, X6_remember, X6_recall, X6_forget, X7_begin, X8_add, X8_letter, X8_skipBlanks -/
theorem hd_X7_copyFrom : yX7_copyFrom.cls = RX7 ∧ yX7_copyFrom.cls ≠ "java/lang/invoke/MethodHandle" ∧ yX7_copyFrom.cls ≠ "java/lang/invoke/VarHandle" ∧ (parseMethodDescriptor yX7_copyFrom.desc).map (fun d => d.parameters.length) = some 1 := by decide +kernel
set_option maxHeartbeats 4000000 in
set_option maxRecDepth 100000 in
theorem k_X7_copyFrom (l : Launch) (X : xX) (S : xS) (b : Nat) (k0 : Nat) (hb0 : isT b = true) (hk0 : isT k0 = true) (hs : s_X7_copyFrom S b k0) : Met l yX7_copyFrom wsX7_copyFrom ({ frames := 2, cells := 0, slots := 0, locals := 61 } : Room) (va_Pc [.ref (X.2.1 b), .ref (X.2.1 k0)] (xI X S)) (va_Qv (fun u : xS => u = (f_X7_copyFrom S b k0)) (xI X) (xA X)) 0 0 (xA X) := by
  refine Met.ofW (cc := cX7_copyFrom) (maxL := 2) (ret := none) (by decide +kernel) rfl ?_
  intro p e s m args below meth c s₁ B hml hv
  obtain ⟨rfl, hP, hK, hN, hJ⟩ := hv
  have hx := B.exec
  have hb := B.bytes
  have hr := B.returns
  have hts := atoms_spec (ws := wsX7_copyFrom) B.pre
  have hown : s.vm.findClass RX7 = some m.cls := findClass_of_methodNamed B.named
  have hlocks := B.notSynchronized
  have hC : xC X p m c cX7_copyFrom 2 s _ wsX7_copyFrom RX7 := ⟨⟨hx, hb, hml, hown, hts⟩, hK, hN, hJ⟩
  have hS : va_S (xA X) s.heap s.heap [] := va_S.rf
  have hin_X7 : ∀ w ∈ u_ws RX7 TX7 6, w ∈ wsX7_copyFrom := by decide +kernel
  have hl := lv_entry ([.ref (X.2.1 b), .ref (X.2.1 k0)]) (n := 2) (Nat.le_of_ble_eq_true rfl)
  rw [lg_entry_eq]
  generalize (lg_sl ([.ref (X.2.1 b), .ref (X.2.1 k0)]) ++ List.replicate (2 - (lg_sl ([.ref (X.2.1 b), .ref (X.2.1 k0)])).length) Slot.unset).toArray = ls at hl ⊢
  have hl : lv_has ls 2 [(0, .ref (X.2.1 b)), (1, .ref (X.2.1 k0))] := hl
  refine lv_aload_n hx hb dX7_copyFrom_0 rfl (lv_at hl 1 rfl) ?_
  refine xget (ref := "AbsentPraise$Talk") (T := TX7) (v := .ref (X.2.1 (k0 + 1))) hC hP hin_X7 (xo_T hk0) rfl 0 (by decide) (List.mem_of_getElem? (i := 1) rfl) rfl rfl dX7_copyFrom_1 ?_
  refine lv_aload_n hx hb dX7_copyFrom_4 rfl (lv_at hl 0 rfl) ?_
  refine xget (ref := "AbsentPraise$Talk") (T := TX7) (v := .ref (X.2.1 (b + 1))) hC hP hin_X7 (xo_T hb0) rfl 0 (by decide) (List.mem_of_getElem? (i := 1) rfl) rfl rfl dX7_copyFrom_5 ?_
  have hn_1 : s_X10_copy S (k0 + 1) (b + 1) := (nl hs)
  refine xcSN_vW (As := [.ref (X.2.1 (k0 + 1)), .ref (X.2.1 (b + 1))]) (rest := []) hC hP hS (k_X10_copy l X S (k0 + 1) (b + 1) (isI_T1 hk0) (isI_T1 hb0) hn_1) (va_cnB (host := "AbsentPraise") 2 hts gX7_copyFrom_X10_copy_n29 rfl rfl rfl (xn_9 hN) (hts (.initialized RX10) (List.mem_of_getElem? (i := 8) rfl)) hs_X10_copy ⟨Nat.le_of_ble_eq_true rfl, Nat.le_of_ble_eq_true rfl⟩) (hts (.static yX10_copy) (List.mem_of_getElem? (i := 7) rfl)) rfl rfl hl.1 (Nat.le_of_ble_eq_true rfl) dX7_copyFrom_8 (fun S_2 hS_2 H locs hP hS => ?_)
  refine lv_aload_n hx hb dX7_copyFrom_11 rfl (lv_at hl 1 rfl) ?_
  refine xget (ref := "AbsentPraise$Talk") (T := TX7) (v := .ref (X.2.1 (k0 + 2))) hC hP hin_X7 (xo_T hk0) rfl 1 (by decide) (List.mem_of_getElem? (i := 2) rfl) rfl rfl dX7_copyFrom_12 ?_
  refine lv_aload_n hx hb dX7_copyFrom_15 rfl (lv_at hl 0 rfl) ?_
  refine xget (ref := "AbsentPraise$Talk") (T := TX7) (v := .ref (X.2.1 (b + 2))) hC hP hin_X7 (xo_T hb0) rfl 1 (by decide) (List.mem_of_getElem? (i := 2) rfl) rfl rfl dX7_copyFrom_16 ?_
  have hn_3 : s_X10_copy S_2 (k0 + 2) (b + 2) := (by have hS_2 := hS_2.symm; subst hS_2; exact nl (nr hs))
  refine xcSN_vW (As := [.ref (X.2.1 (k0 + 2)), .ref (X.2.1 (b + 2))]) (rest := []) hC hP hS (k_X10_copy l X S_2 (k0 + 2) (b + 2) (isI_T2 hk0) (isI_T2 hb0) hn_3) (va_cnB (host := "AbsentPraise") 2 hts gX7_copyFrom_X10_copy_n29 rfl rfl rfl (xn_9 hN) (hts (.initialized RX10) (List.mem_of_getElem? (i := 8) rfl)) hs_X10_copy ⟨Nat.le_of_ble_eq_true rfl, Nat.le_of_ble_eq_true rfl⟩) (hts (.static yX10_copy) (List.mem_of_getElem? (i := 7) rfl)) rfl rfl hl.1 (Nat.le_of_ble_eq_true rfl) dX7_copyFrom_19 (fun S_4 hS_4 H locs hP hS => ?_)
  refine lv_aload_n hx hb dX7_copyFrom_22 rfl (lv_at hl 1 rfl) ?_
  refine xget (ref := "AbsentPraise$Talk") (T := TX7) (v := .ref (X.2.1 (k0 + 3))) hC hP hin_X7 (xo_T hk0) rfl 2 (by decide) (List.mem_of_getElem? (i := 3) rfl) rfl rfl dX7_copyFrom_23 ?_
  refine lv_aload_n hx hb dX7_copyFrom_26 rfl (lv_at hl 0 rfl) ?_
  refine xget (ref := "AbsentPraise$Talk") (T := TX7) (v := .ref (X.2.1 (b + 3))) hC hP hin_X7 (xo_T hb0) rfl 2 (by decide) (List.mem_of_getElem? (i := 3) rfl) rfl rfl dX7_copyFrom_27 ?_
  have hn_5 : s_X10_copy S_4 (k0 + 3) (b + 3) := (by have hS_2 := hS_2.symm; have hS_4 := hS_4.symm; subst hS_2 hS_4; exact nl (nr (nr hs)))
  refine xcSN_vW (As := [.ref (X.2.1 (k0 + 3)), .ref (X.2.1 (b + 3))]) (rest := []) hC hP hS (k_X10_copy l X S_4 (k0 + 3) (b + 3) (isI_T3 hk0) (isI_T3 hb0) hn_5) (va_cnB (host := "AbsentPraise") 2 hts gX7_copyFrom_X10_copy_n29 rfl rfl rfl (xn_9 hN) (hts (.initialized RX10) (List.mem_of_getElem? (i := 8) rfl)) hs_X10_copy ⟨Nat.le_of_ble_eq_true rfl, Nat.le_of_ble_eq_true rfl⟩) (hts (.static yX10_copy) (List.mem_of_getElem? (i := 7) rfl)) rfl rfl hl.1 (Nat.le_of_ble_eq_true rfl) dX7_copyFrom_30 (fun S_6 hS_6 H locs hP hS => ?_)
  refine lv_aload_n hx hb dX7_copyFrom_33 rfl (lv_at hl 1 rfl) ?_
  refine xget (ref := "AbsentPraise$Talk") (T := TX7) (v := .ref (X.2.1 (k0 + 4))) hC hP hin_X7 (xo_T hk0) rfl 3 (by decide) (List.mem_of_getElem? (i := 4) rfl) rfl rfl dX7_copyFrom_34 ?_
  refine lv_aload_n hx hb dX7_copyFrom_37 rfl (lv_at hl 0 rfl) ?_
  refine xget (ref := "AbsentPraise$Talk") (T := TX7) (v := .ref (X.2.1 (b + 4))) hC hP hin_X7 (xo_T hb0) rfl 3 (by decide) (List.mem_of_getElem? (i := 4) rfl) rfl rfl dX7_copyFrom_38 ?_
  have hn_7 : s_X10_copy S_6 (k0 + 4) (b + 4) := (by have hS_2 := hS_2.symm; have hS_4 := hS_4.symm; have hS_6 := hS_6.symm; subst hS_2 hS_4 hS_6; exact nl (nr (nr (nr hs))))
  refine xcSN_vW (As := [.ref (X.2.1 (k0 + 4)), .ref (X.2.1 (b + 4))]) (rest := []) hC hP hS (k_X10_copy l X S_6 (k0 + 4) (b + 4) (isI_T4 hk0) (isI_T4 hb0) hn_7) (va_cnB (host := "AbsentPraise") 2 hts gX7_copyFrom_X10_copy_n29 rfl rfl rfl (xn_9 hN) (hts (.initialized RX10) (List.mem_of_getElem? (i := 8) rfl)) hs_X10_copy ⟨Nat.le_of_ble_eq_true rfl, Nat.le_of_ble_eq_true rfl⟩) (hts (.static yX10_copy) (List.mem_of_getElem? (i := 7) rfl)) rfl rfl hl.1 (Nat.le_of_ble_eq_true rfl) dX7_copyFrom_41 (fun S_8 hS_8 H locs hP hS => ?_)
  refine lv_aload_n hx hb dX7_copyFrom_44 rfl (lv_at hl 0 rfl) ?_
  refine lv_aload_n hx hb dX7_copyFrom_45 rfl (lv_at hl 1 rfl) ?_
  refine xget (ref := "AbsentPraise$Talk") (T := TX7) (v := .int (S_8 k0 4)) hC hP hin_X7 (xo_T hk0) rfl 4 (by decide) (List.mem_of_getElem? (i := 5) rfl) rfl rfl dX7_copyFrom_46 ?_
  refine xput (ref := "AbsentPraise$Talk") (T := TX7) (ty := .int) hC hP hS (isT_lt hb0) hin_X7 tyX7 tyX7_ok nmX7 (xo_T hb0) rfl 4 (by decide) (List.mem_of_getElem? (i := 5) rfl) rfl rfl rfl rfl rfl (Nat.le_of_ble_eq_true rfl) dX7_copyFrom_49 (xn_X7_4 hb0) (fun S_9 hS_9 H locs hP hS => ?_)
  refine lv_aload_n hx hb dX7_copyFrom_52 rfl (lv_at hl 0 rfl) ?_
  refine lv_aload_n hx hb dX7_copyFrom_53 rfl (lv_at hl 1 rfl) ?_
  refine xget (ref := "AbsentPraise$Talk") (T := TX7) (v := .int (S_9 k0 5)) hC hP hin_X7 (xo_T hk0) rfl 5 (by decide) (List.mem_of_getElem? (i := 6) rfl) rfl rfl dX7_copyFrom_54 ?_
  refine xput (ref := "AbsentPraise$Talk") (T := TX7) (ty := .int) hC hP hS (isT_lt hb0) hin_X7 tyX7 tyX7_ok nmX7 (xo_T hb0) rfl 5 (by decide) (List.mem_of_getElem? (i := 6) rfl) rfl rfl rfl rfl rfl (Nat.le_of_ble_eq_true rfl) dX7_copyFrom_57 (xn_X7_5 hb0) (fun S_10 hS_10 H locs hP hS => ?_)
  exact xret_v hC hP hS hb hr ((by have hS_2 := hS_2.symm; have hS_4 := hS_4.symm; have hS_6 := hS_6.symm; have hS_8 := hS_8.symm; have hS_9 := hS_9.symm; have hS_10 := hS_10.symm; subst hS_2 hS_4 hS_6 hS_8 hS_9 hS_10; exact rfl)) dX7_copyFrom_60 hlocks
theorem hd_X6_remember : yX6_remember.cls = RX6 ∧ yX6_remember.cls ≠ "java/lang/invoke/MethodHandle" ∧ yX6_remember.cls ≠ "java/lang/invoke/VarHandle" ∧ (parseMethodDescriptor yX6_remember.desc).map (fun d => d.parameters.length) = some 1 := by decide +kernel
set_option maxHeartbeats 4000000 in
set_option maxRecDepth 100000 in
theorem k_X6_remember (l : Launch) (X : xX) (S : xS) (k0 : Nat) (hk0 : isT k0 = true) (hs : s_X6_remember S k0) : Met l yX6_remember wsX6_remember ({ frames := 3, cells := 0, slots := 0, locals := 82 } : Room) (va_Pc [.ref (X.2.1 27), .ref (X.2.1 k0)] (xI X S)) (va_Qv (fun u : xS => u = (f_X6_remember S k0)) (xI X) (xA X)) 0 0 (xA X) := by
  refine Met.ofW (cc := cX6_remember) (maxL := 3) (ret := none) (by decide +kernel) rfl ?_
  intro p e s m args below meth c s₁ B hml hv
  obtain ⟨rfl, hP, hK, hN, hJ⟩ := hv
  have hx := B.exec
  have hb := B.bytes
  have hr := B.returns
  have hts := atoms_spec (ws := wsX6_remember) B.pre
  have hown : s.vm.findClass RX6 = some m.cls := findClass_of_methodNamed B.named
  have hlocks := B.notSynchronized
  have hC : xC X p m c cX6_remember 3 s _ wsX6_remember RX6 := ⟨⟨hx, hb, hml, hown, hts⟩, hK, hN, hJ⟩
  have hS : va_S (xA X) s.heap s.heap [] := va_S.rf
  have hin_X6 : ∀ w ∈ u_ws RX6 TX6 3, w ∈ wsX6_remember := by decide +kernel
  have hl := lv_entry ([.ref (X.2.1 27), .ref (X.2.1 k0)]) (n := 3) (Nat.le_of_ble_eq_true rfl)
  rw [lg_entry_eq]
  generalize (lg_sl ([.ref (X.2.1 27), .ref (X.2.1 k0)]) ++ List.replicate (3 - (lg_sl ([.ref (X.2.1 27), .ref (X.2.1 k0)])).length) Slot.unset).toArray = ls at hl ⊢
  have hl : lv_has ls 3 [(0, .ref (X.2.1 27)), (1, .ref (X.2.1 k0))] := hl
  refine lv_aload_n hx hb dX6_remember_0 rfl (lv_at hl 0 rfl) ?_
  refine lv_aload_n hx hb dX6_remember_1 rfl (lv_at hl 0 rfl) ?_
  refine xget (ref := "AbsentPraise$Past") (T := TX6) (v := .int (S 27 1)) hC hP hin_X6 xo_X6 rfl 1 (by decide) (List.mem_of_getElem? (i := 1) rfl) rfl rfl dX6_remember_2 ?_
  refine xcV_qR (b := 27) (As := [.int (S 27 1)]) (rest := []) hC hP hS (k_X6_slotAt l X S (S 27 1)) (cwV 1 hts gX6_remember_X6_slotAt rfl rfl rfl hd_X6_slotAt ⟨Nat.le_of_ble_eq_true rfl, Nat.le_of_ble_eq_true rfl⟩) xo_X6 rfl rfl rfl hl.1 (Nat.le_of_ble_eq_true rfl) dX6_remember_5 (fun r_1 hr_1 H locs hP hS => ?_)
  rcases hq_2 : f_X6_slotAt S (S 27 1) with _ | t_3
  · rw [hq_2] at hr_1
    subst hr_1
    refine W.eq (g2 := F0 m 8 ls (.null :: [])) rfl ?_
    refine lv_astore_nN (lv' := [(2, .null), (0, .ref (X.2.1 27)), (1, .ref (X.2.1 k0))]) hx hb dX6_remember_8 rfl hl (by decide) rfl (fun ls hl => ?_)
    refine lv_aload_nN hx hb dX6_remember_9 rfl (lv_at hl 0 rfl) ?_
    refine lv_ifnonnullN hx hb dX6_remember_10 ?_
    exact xret_v hC hP hS hb hr (((oe_n hq_2 rfl))) dX6_remember_13 hlocks
  · rw [hq_2] at hr_1
    subst hr_1
    refine W.eq (g2 := F0 m 8 ls (.ref (X.2.1 t_3) :: [])) rfl ?_
    have hk_4 : isT t_3 = true := kd_X6_slotAt hq_2
    refine lv_astore_n (lv' := [(2, .ref (X.2.1 t_3)), (0, .ref (X.2.1 27)), (1, .ref (X.2.1 k0))]) hx hb dX6_remember_8 rfl hl (by decide) rfl (fun ls hl => ?_)
    refine lv_aload_n hx hb dX6_remember_9 rfl (lv_at hl 0 rfl) ?_
    refine lv_ifnonnull (tgt := 14) hx hb dX6_remember_10 (by decide) ?_
    refine lv_aload_n hx hb dX6_remember_14 rfl (lv_at hl 0 rfl) ?_
    refine lv_aload_n hx hb dX6_remember_15 rfl (lv_at hl 2 rfl) ?_
    have hn_5 : s_X7_copyFrom S t_3 k0 := (nl ((nr hs) t_3 hq_2))
    refine xcV_vW (b := t_3) (As := [.ref (X.2.1 k0)]) (rest := []) hC hP hS (k_X7_copyFrom l X S t_3 k0 hk_4 hk0 hn_5) (cwV 1 hts gX6_remember_X7_copyFrom rfl rfl rfl hd_X7_copyFrom ⟨Nat.le_of_ble_eq_true rfl, Nat.le_of_ble_eq_true rfl⟩) (xo_T hk_4) rfl rfl rfl hl.1 (Nat.le_of_ble_eq_true rfl) dX6_remember_16 (fun S_6 hS_6 H locs hP hS => ?_)
    refine lv_aload_n hx hb dX6_remember_19 rfl (lv_at hl 1 rfl) ?_
    refine lv_aload_n hx hb dX6_remember_20 rfl (lv_at hl 1 rfl) ?_
    refine xget (ref := "AbsentPraise$Past") (T := TX6) (v := .int (S_6 27 1)) hC hP hin_X6 xo_X6 rfl 1 (by decide) (List.mem_of_getElem? (i := 1) rfl) rfl rfl dX6_remember_21 ?_
    refine lv_iconst (v := 1) hx hb dX6_remember_24 (by decide) ?_
    refine lv_iadd hx hb dX6_remember_25 ?_
    refine lv_bipush (v := 16) hx hb dX6_remember_26 (by decide) ?_
    refine lv_irem hx hb dX6_remember_28 (by decide) ?_
    refine xput (ref := "AbsentPraise$Past") (T := TX6) (ty := .int) hC hP hS (by decide) hin_X6 tyX6 tyX6_ok nmX6 xo_X6 rfl 1 (by decide) (List.mem_of_getElem? (i := 1) rfl) rfl rfl rfl rfl rfl (Nat.le_of_ble_eq_true rfl) dX6_remember_29 rfl (fun S_7 hS_7 H locs hP hS => ?_)
    refine lv_aload_n hx hb dX6_remember_32 rfl (lv_at hl 1 rfl) ?_
    refine lv_aload_n hx hb dX6_remember_33 rfl (lv_at hl 1 rfl) ?_
    refine xget (ref := "AbsentPraise$Past") (T := TX6) (v := .int (S_7 27 2)) hC hP hin_X6 xo_X6 rfl 2 (by decide) (List.mem_of_getElem? (i := 2) rfl) rfl rfl dX6_remember_34 ?_
    refine lv_iconst (v := 1) hx hb dX6_remember_37 (by decide) ?_
    refine lv_iadd hx hb dX6_remember_38 ?_
    refine lv_bipush (v := 16) hx hb dX6_remember_39 (by decide) ?_
    refine va_mmin hx hb (hml.trans hl.1.symm) hown (hts _ (List.mem_of_getElem? (i := 3) rfl)) (hts _ (List.mem_of_getElem? (i := 4) rfl)) (hts _ (List.mem_of_getElem? (i := 5) rfl)) (hts _ (List.mem_of_getElem? (i := 6) rfl)) (Nat.le_of_ble_eq_true rfl) (Nat.le_of_ble_eq_true rfl) (Nat.zero_le _) (Nat.zero_le _) dX6_remember_41 ?_
    obtain ⟨r_8, hr_8⟩ : ∃ z : Int32, z = (if 16 < ((S_7 27 2) + 1) then 16 else ((S_7 27 2) + 1)) := ⟨_, rfl⟩
    rw [← hr_8]
    refine xput (ref := "AbsentPraise$Past") (T := TX6) (ty := .int) hC hP hS (by decide) hin_X6 tyX6 tyX6_ok nmX6 xo_X6 rfl 2 (by decide) (List.mem_of_getElem? (i := 2) rfl) rfl rfl rfl rfl rfl (Nat.le_of_ble_eq_true rfl) dX6_remember_44 rfl (fun S_9 hS_9 H locs hP hS => ?_)
    exact xret_v hC hP hS hb hr ((by have hS_6 := hS_6.symm; have hS_7 := hS_7.symm; have hr_8 := hr_8.symm; have hS_9 := hS_9.symm; subst hS_6 hS_7 hr_8 hS_9; exact (oe_s hq_2 rfl))) dX6_remember_47 hlocks
theorem hd_X6_recall : yX6_recall.cls = RX6 ∧ yX6_recall.cls ≠ "java/lang/invoke/MethodHandle" ∧ yX6_recall.cls ≠ "java/lang/invoke/VarHandle" ∧ (parseMethodDescriptor yX6_recall.desc).map (fun d => d.parameters.length) = some 1 := by decide +kernel
set_option maxHeartbeats 4000000 in
set_option maxRecDepth 100000 in
theorem k_X6_recall (l : Launch) (X : xX) (S : xS) (k0 : Nat) (hk0 : isT k0 = true) (hs : s_X6_recall S k0) : Met l yX6_recall wsX6_recall ({ frames := 3, cells := 0, slots := 0, locals := 82 } : Room) (va_Pc [.ref (X.2.1 27), .ref (X.2.1 k0)] (xI X S)) (va_Qi (fun (r : Int32) (u : xS) => r = (f_X6_recall S k0).1 ∧ u = (f_X6_recall S k0).2 ∧ (r = 0 ∨ r = 1)) (xI X) (xA X)) 0 0 (xA X) := by
  refine Met.ofW (cc := cX6_recall) (maxL := 4) (ret := (some .boolean)) (by decide +kernel) rfl ?_
  intro p e s m args below meth c s₁ B hml hv
  obtain ⟨rfl, hP, hK, hN, hJ⟩ := hv
  have hx := B.exec
  have hb := B.bytes
  have hr := B.returns
  have hts := atoms_spec (ws := wsX6_recall) B.pre
  have hown : s.vm.findClass RX6 = some m.cls := findClass_of_methodNamed B.named
  have hlocks := B.notSynchronized
  have hC : xC X p m c cX6_recall 4 s _ wsX6_recall RX6 := ⟨⟨hx, hb, hml, hown, hts⟩, hK, hN, hJ⟩
  have hS : va_S (xA X) s.heap s.heap [] := va_S.rf
  have hin_X6 : ∀ w ∈ u_ws RX6 TX6 3, w ∈ wsX6_recall := by decide +kernel
  have hl := lv_entry ([.ref (X.2.1 27), .ref (X.2.1 k0)]) (n := 4) (Nat.le_of_ble_eq_true rfl)
  rw [lg_entry_eq]
  generalize (lg_sl ([.ref (X.2.1 27), .ref (X.2.1 k0)]) ++ List.replicate (4 - (lg_sl ([.ref (X.2.1 27), .ref (X.2.1 k0)])).length) Slot.unset).toArray = ls at hl ⊢
  have hl : lv_has ls 4 [(0, .ref (X.2.1 27)), (1, .ref (X.2.1 k0))] := hl
  refine lv_aload_n hx hb dX6_recall_0 rfl (lv_at hl 0 rfl) ?_
  refine xget (ref := "AbsentPraise$Past") (T := TX6) (v := .int (S 27 1)) hC hP hin_X6 xo_X6 rfl 1 (by decide) (List.mem_of_getElem? (i := 1) rfl) rfl rfl dX6_recall_1 ?_
  refine lv_bipush (v := 16) hx hb dX6_recall_4 (by decide) ?_
  refine lv_iadd hx hb dX6_recall_6 ?_
  refine lv_iconst (v := 1) hx hb dX6_recall_7 (by decide) ?_
  refine lv_isub hx hb dX6_recall_8 ?_
  refine lv_bipush (v := 16) hx hb dX6_recall_9 (by decide) ?_
  refine lv_irem hx hb dX6_recall_11 (by decide) ?_
  refine lv_istore_n (lv' := [(2, .int ((((S 27 1) + 16) - 1) - (((S 27 1) + 16) - 1) / 16 * 16)), (0, .ref (X.2.1 27)), (1, .ref (X.2.1 k0))]) hx hb dX6_recall_12 rfl hl (by decide) rfl (fun ls hl => ?_)
  refine lv_aload_n hx hb dX6_recall_13 rfl (lv_at hl 1 rfl) ?_
  refine lv_iload_n hx hb dX6_recall_14 rfl (lv_at hl 0 rfl) ?_
  refine xcV_qR (b := 27) (As := [.int ((((S 27 1) + 16) - 1) - (((S 27 1) + 16) - 1) / 16 * 16)]) (rest := []) hC hP hS (k_X6_slotAt l X S ((((S 27 1) + 16) - 1) - (((S 27 1) + 16) - 1) / 16 * 16)) (cwV 1 hts gX6_recall_X6_slotAt rfl rfl rfl hd_X6_slotAt ⟨Nat.le_of_ble_eq_true rfl, Nat.le_of_ble_eq_true rfl⟩) xo_X6 rfl rfl rfl hl.1 (Nat.le_of_ble_eq_true rfl) dX6_recall_15 (fun r_1 hr_1 H locs hP hS => ?_)
  rcases hq_2 : f_X6_slotAt S ((((S 27 1) + 16) - 1) - (((S 27 1) + 16) - 1) / 16 * 16) with _ | t_3
  · rw [hq_2] at hr_1
    subst hr_1
    refine W.eq (g2 := F0 m 18 ls (.null :: [])) rfl ?_
    refine lv_astore_nN (lv' := [(3, .null), (2, .int ((((S 27 1) + 16) - 1) - (((S 27 1) + 16) - 1) / 16 * 16)), (0, .ref (X.2.1 27)), (1, .ref (X.2.1 k0))]) hx hb dX6_recall_18 rfl hl (by decide) rfl (fun ls hl => ?_)
    refine lv_aload_n hx hb dX6_recall_19 rfl (lv_at hl 2 rfl) ?_
    refine xget (ref := "AbsentPraise$Past") (T := TX6) (v := .int (S 27 2)) hC hP hin_X6 xo_X6 rfl 2 (by decide) (List.mem_of_getElem? (i := 2) rfl) rfl rfl dX6_recall_20 ?_
    refine lv_if_le (tgt := 30) hx hb dX6_recall_23 (by decide) (fun c_4 => ?_) (fun c_4 => ?_)
    · refine lv_iconst (v := 0) hx hb dX6_recall_30 (by decide) ?_
      exact xret_zW hC hP hS hb hr (.inl rfl) (((oe_n hq_2 (ip c_4 rfl)))) dX6_recall_31 hlocks
    · refine lv_aload_nN hx hb dX6_recall_26 rfl (lv_at hl 0 rfl) ?_
      refine lv_ifnonnullN hx hb dX6_recall_27 ?_
      refine lv_iconst (v := 0) hx hb dX6_recall_30 (by decide) ?_
      exact xret_zW hC hP hS hb hr (.inl rfl) (((oe_n hq_2 (iN c_4 rfl)))) dX6_recall_31 hlocks
  · rw [hq_2] at hr_1
    subst hr_1
    refine W.eq (g2 := F0 m 18 ls (.ref (X.2.1 t_3) :: [])) rfl ?_
    have hk_5 : isT t_3 = true := kd_X6_slotAt hq_2
    refine lv_astore_n (lv' := [(3, .ref (X.2.1 t_3)), (2, .int ((((S 27 1) + 16) - 1) - (((S 27 1) + 16) - 1) / 16 * 16)), (0, .ref (X.2.1 27)), (1, .ref (X.2.1 k0))]) hx hb dX6_recall_18 rfl hl (by decide) rfl (fun ls hl => ?_)
    refine lv_aload_n hx hb dX6_recall_19 rfl (lv_at hl 2 rfl) ?_
    refine xget (ref := "AbsentPraise$Past") (T := TX6) (v := .int (S 27 2)) hC hP hin_X6 xo_X6 rfl 2 (by decide) (List.mem_of_getElem? (i := 2) rfl) rfl rfl dX6_recall_20 ?_
    refine lv_if_le (tgt := 30) hx hb dX6_recall_23 (by decide) (fun c_6 => ?_) (fun c_6 => ?_)
    · refine lv_iconst (v := 0) hx hb dX6_recall_30 (by decide) ?_
      exact xret_zW hC hP hS hb hr (.inl rfl) (((oe_s hq_2 (ip c_6 rfl)))) dX6_recall_31 hlocks
    · refine lv_aload_n hx hb dX6_recall_26 rfl (lv_at hl 0 rfl) ?_
      refine lv_ifnonnull (tgt := 32) hx hb dX6_recall_27 (by decide) ?_
      refine lv_aload_n hx hb dX6_recall_32 rfl (lv_at hl 3 rfl) ?_
      refine lv_aload_n hx hb dX6_recall_33 rfl (lv_at hl 0 rfl) ?_
      have hn_7 : s_X7_copyFrom S k0 t_3 := (nl (sn ((nr hs) t_3 hq_2) c_6))
      refine xcV_vW (b := k0) (As := [.ref (X.2.1 t_3)]) (rest := []) hC hP hS (k_X7_copyFrom l X S k0 t_3 hk0 hk_5 hn_7) (cwV 1 hts gX6_recall_X7_copyFrom rfl rfl rfl hd_X7_copyFrom ⟨Nat.le_of_ble_eq_true rfl, Nat.le_of_ble_eq_true rfl⟩) (xo_T hk0) rfl rfl rfl hl.1 (Nat.le_of_ble_eq_true rfl) dX6_recall_34 (fun S_8 hS_8 H locs hP hS => ?_)
      refine lv_aload_n hx hb dX6_recall_37 rfl (lv_at hl 2 rfl) ?_
      refine lv_iload_n hx hb dX6_recall_38 rfl (lv_at hl 1 rfl) ?_
      refine xput (ref := "AbsentPraise$Past") (T := TX6) (ty := .int) hC hP hS (by decide) hin_X6 tyX6 tyX6_ok nmX6 xo_X6 rfl 1 (by decide) (List.mem_of_getElem? (i := 1) rfl) rfl rfl rfl rfl rfl (Nat.le_of_ble_eq_true rfl) dX6_recall_39 rfl (fun S_9 hS_9 H locs hP hS => ?_)
      refine lv_aload_n hx hb dX6_recall_42 rfl (lv_at hl 2 rfl) ?_
      refine lv_dup hx hb dX6_recall_43 rfl ?_
      refine xget (ref := "AbsentPraise$Past") (T := TX6) (v := .int (S_9 27 2)) hC hP hin_X6 xo_X6 rfl 2 (by decide) (List.mem_of_getElem? (i := 2) rfl) rfl rfl dX6_recall_44 ?_
      refine lv_iconst (v := 1) hx hb dX6_recall_47 (by decide) ?_
      refine lv_isub hx hb dX6_recall_48 ?_
      refine xput (ref := "AbsentPraise$Past") (T := TX6) (ty := .int) hC hP hS (by decide) hin_X6 tyX6 tyX6_ok nmX6 xo_X6 rfl 2 (by decide) (List.mem_of_getElem? (i := 2) rfl) rfl rfl rfl rfl rfl (Nat.le_of_ble_eq_true rfl) dX6_recall_49 rfl (fun S_10 hS_10 H locs hP hS => ?_)
      refine lv_iconst (v := 1) hx hb dX6_recall_52 (by decide) ?_
      exact xret_zW hC hP hS hb hr (.inr rfl) ((by have hS_8 := hS_8.symm; have hS_9 := hS_9.symm; have hS_10 := hS_10.symm; subst hS_8 hS_9 hS_10; exact (oe_s hq_2 (iN c_6 rfl)))) dX6_recall_53 hlocks
theorem hd_X6_forget : yX6_forget.cls = RX6 ∧ yX6_forget.cls ≠ "java/lang/invoke/MethodHandle" ∧ yX6_forget.cls ≠ "java/lang/invoke/VarHandle" ∧ (parseMethodDescriptor yX6_forget.desc).map (fun d => d.parameters.length) = some 0 := by decide +kernel
set_option maxHeartbeats 4000000 in
set_option maxRecDepth 100000 in
theorem k_X6_forget (l : Launch) (X : xX) (S : xS) : Met l yX6_forget wsX6_forget ({ frames := 0, cells := 0, slots := 0, locals := 0 } : Room) (va_Pc [.ref (X.2.1 27)] (xI X S)) (va_Qv (fun u : xS => u = (f_X6_forget S)) (xI X) (xA X)) 0 0 (xA X) := by
  refine Met.ofW (cc := cX6_forget) (maxL := 1) (ret := none) (by decide +kernel) rfl ?_
  intro p e s m args below meth c s₁ B hml hv
  obtain ⟨rfl, hP, hK, hN, hJ⟩ := hv
  have hx := B.exec
  have hb := B.bytes
  have hr := B.returns
  have hts := atoms_spec (ws := wsX6_forget) B.pre
  have hown : s.vm.findClass RX6 = some m.cls := findClass_of_methodNamed B.named
  have hlocks := B.notSynchronized
  have hC : xC X p m c cX6_forget 1 s _ wsX6_forget RX6 := ⟨⟨hx, hb, hml, hown, hts⟩, hK, hN, hJ⟩
  have hS : va_S (xA X) s.heap s.heap [] := va_S.rf
  have hin_X6 : ∀ w ∈ u_ws RX6 TX6 3, w ∈ wsX6_forget := by decide +kernel
  have hl := lv_entry ([.ref (X.2.1 27)]) (n := 1) (Nat.le_of_ble_eq_true rfl)
  rw [lg_entry_eq]
  generalize (lg_sl ([.ref (X.2.1 27)]) ++ List.replicate (1 - (lg_sl ([.ref (X.2.1 27)])).length) Slot.unset).toArray = ls at hl ⊢
  have hl : lv_has ls 1 [(0, .ref (X.2.1 27))] := hl
  refine lv_aload_n hx hb dX6_forget_0 rfl (lv_at hl 0 rfl) ?_
  refine lv_iconst (v := 0) hx hb dX6_forget_1 (by decide) ?_
  refine xput (ref := "AbsentPraise$Past") (T := TX6) (ty := .int) hC hP hS (by decide) hin_X6 tyX6 tyX6_ok nmX6 xo_X6 rfl 2 (by decide) (List.mem_of_getElem? (i := 1) rfl) rfl rfl rfl rfl rfl (Nat.le_of_ble_eq_true rfl) dX6_forget_2 rfl (fun S_1 hS_1 H locs hP hS => ?_)
  exact xret_v hC hP hS hb hr ((by have hS_1 := hS_1.symm; subst hS_1; exact rfl)) dX6_forget_5 hlocks
theorem hd_X7_begin : yX7_begin.cls = RX7 ∧ yX7_begin.cls ≠ "java/lang/invoke/MethodHandle" ∧ yX7_begin.cls ≠ "java/lang/invoke/VarHandle" ∧ (parseMethodDescriptor yX7_begin.desc).map (fun d => d.parameters.length) = some 1 := by decide +kernel
set_option maxHeartbeats 4000000 in
set_option maxRecDepth 100000 in
theorem k_X7_begin (l : Launch) (X : xX) (S : xS) (b : Nat) (k0 : Nat) (hb0 : isT b = true) (hk0 : isH k0 = true) (hs : s_X7_begin S b k0) : Met l yX7_begin wsX7_begin ({ frames := 2, cells := 0, slots := 0, locals := 61 } : Room) (va_Pc [.ref (X.2.1 b), .ref (X.2.1 k0)] (xI X S)) (va_Qv (fun u : xS => u = (f_X7_begin S b k0)) (xI X) (xA X)) 0 0 (xA X) := by
  refine Met.ofW (cc := cX7_begin) (maxL := 2) (ret := none) (by decide +kernel) rfl ?_
  intro p e s m args below meth c s₁ B hml hv
  obtain ⟨rfl, hP, hK, hN, hJ⟩ := hv
  have hx := B.exec
  have hb := B.bytes
  have hr := B.returns
  have hts := atoms_spec (ws := wsX7_begin) B.pre
  have hown : s.vm.findClass RX7 = some m.cls := findClass_of_methodNamed B.named
  have hlocks := B.notSynchronized
  have hC : xC X p m c cX7_begin 2 s _ wsX7_begin RX7 := ⟨⟨hx, hb, hml, hown, hts⟩, hK, hN, hJ⟩
  have hS : va_S (xA X) s.heap s.heap [] := va_S.rf
  have hin_X2 : ∀ w ∈ u_ws RX2 TX2 10, w ∈ wsX7_begin := by decide +kernel
  have hin_X7 : ∀ w ∈ u_ws RX7 TX7 6, w ∈ wsX7_begin := by decide +kernel
  have hl := lv_entry ([.ref (X.2.1 b), .ref (X.2.1 k0)]) (n := 2) (Nat.le_of_ble_eq_true rfl)
  rw [lg_entry_eq]
  generalize (lg_sl ([.ref (X.2.1 b), .ref (X.2.1 k0)]) ++ List.replicate (2 - (lg_sl ([.ref (X.2.1 b), .ref (X.2.1 k0)])).length) Slot.unset).toArray = ls at hl ⊢
  have hl : lv_has ls 2 [(0, .ref (X.2.1 b)), (1, .ref (X.2.1 k0))] := hl
  refine lv_aload_n hx hb dX7_begin_0 rfl (lv_at hl 1 rfl) ?_
  refine xget (ref := "AbsentPraise$Hill") (T := TX2) (v := .ref (X.2.1 (k0 + 4))) hC hP hin_X2 (xo_H hk0) rfl 3 (by decide) (List.mem_of_getElem? (i := 1) rfl) rfl rfl dX7_begin_1 ?_
  refine lv_aload_n hx hb dX7_begin_4 rfl (lv_at hl 0 rfl) ?_
  refine xget (ref := "AbsentPraise$Talk") (T := TX7) (v := .ref (X.2.1 (b + 1))) hC hP hin_X7 (xo_T hb0) rfl 0 (by decide) (List.mem_of_getElem? (i := 2) rfl) rfl rfl dX7_begin_5 ?_
  have hn_1 : s_X10_copy S (k0 + 4) (b + 1) := (nl hs)
  refine xcSN_vW (As := [.ref (X.2.1 (k0 + 4)), .ref (X.2.1 (b + 1))]) (rest := []) hC hP hS (k_X10_copy l X S (k0 + 4) (b + 1) (isI_H4 hk0) (isI_T1 hb0) hn_1) (va_cnB (host := "AbsentPraise") 2 hts gX7_begin_X10_copy_n29 rfl rfl rfl (xn_9 hN) (hts (.initialized RX10) (List.mem_of_getElem? (i := 10) rfl)) hs_X10_copy ⟨Nat.le_of_ble_eq_true rfl, Nat.le_of_ble_eq_true rfl⟩) (hts (.static yX10_copy) (List.mem_of_getElem? (i := 9) rfl)) rfl rfl hl.1 (Nat.le_of_ble_eq_true rfl) dX7_begin_8 (fun S_2 hS_2 H locs hP hS => ?_)
  refine lv_aload_n hx hb dX7_begin_11 rfl (lv_at hl 0 rfl) ?_
  refine xget (ref := "AbsentPraise$Talk") (T := TX7) (v := .ref (X.2.1 (b + 2))) hC hP hin_X7 (xo_T hb0) rfl 1 (by decide) (List.mem_of_getElem? (i := 3) rfl) rfl rfl dX7_begin_12 ?_
  refine lv_iconst (v := 0) hx hb dX7_begin_15 (by decide) ?_
  have hn_3 : s_J7_fill_53178 S_2 (b + 2) 0 := (by have hS_2 := hS_2.symm; subst hS_2; exact nl (nr hs))
  refine xcS_vW (As := [.ref (X.2.1 (b + 2)), .int 0]) (rest := []) hC hP hS (k_J7_fill_53178 l X S_2 (b + 2) 0 (isI_T2 hb0) hn_3) (va_cwS 2 hts gX7_begin_J7_fill_53178 rfl rfl rfl hs_J7_fill_53178 ⟨Nat.le_of_ble_eq_true rfl, Nat.le_of_ble_eq_true rfl⟩) rfl rfl hl.1 (Nat.le_of_ble_eq_true rfl) dX7_begin_16 (fun S_4 hS_4 H locs hP hS => ?_)
  refine lv_aload_n hx hb dX7_begin_19 rfl (lv_at hl 0 rfl) ?_
  refine xget (ref := "AbsentPraise$Talk") (T := TX7) (v := .ref (X.2.1 (b + 3))) hC hP hin_X7 (xo_T hb0) rfl 2 (by decide) (List.mem_of_getElem? (i := 4) rfl) rfl rfl dX7_begin_20 ?_
  refine lv_iconst (v := 0) hx hb dX7_begin_23 (by decide) ?_
  have hn_5 : s_J7_fill_53178 S_4 (b + 3) 0 := (by have hS_2 := hS_2.symm; have hS_4 := hS_4.symm; subst hS_2 hS_4; exact nl (nr (nr hs)))
  refine xcS_vW (As := [.ref (X.2.1 (b + 3)), .int 0]) (rest := []) hC hP hS (k_J7_fill_53178 l X S_4 (b + 3) 0 (isI_T3 hb0) hn_5) (va_cwS 2 hts gX7_begin_J7_fill_53178 rfl rfl rfl hs_J7_fill_53178 ⟨Nat.le_of_ble_eq_true rfl, Nat.le_of_ble_eq_true rfl⟩) rfl rfl hl.1 (Nat.le_of_ble_eq_true rfl) dX7_begin_24 (fun S_6 hS_6 H locs hP hS => ?_)
  refine lv_aload_n hx hb dX7_begin_27 rfl (lv_at hl 1 rfl) ?_
  refine xget (ref := "AbsentPraise$Hill") (T := TX2) (v := .ref (X.2.1 (k0 + 5))) hC hP hin_X2 (xo_H hk0) rfl 4 (by decide) (List.mem_of_getElem? (i := 5) rfl) rfl rfl dX7_begin_28 ?_
  refine lv_aload_n hx hb dX7_begin_31 rfl (lv_at hl 0 rfl) ?_
  refine xget (ref := "AbsentPraise$Talk") (T := TX7) (v := .ref (X.2.1 (b + 4))) hC hP hin_X7 (xo_T hb0) rfl 3 (by decide) (List.mem_of_getElem? (i := 6) rfl) rfl rfl dX7_begin_32 ?_
  have hn_7 : s_X10_copy S_6 (k0 + 5) (b + 4) := (by have hS_2 := hS_2.symm; have hS_4 := hS_4.symm; have hS_6 := hS_6.symm; subst hS_2 hS_4 hS_6; exact nl (nr (nr (nr hs))))
  refine xcSN_vW (As := [.ref (X.2.1 (k0 + 5)), .ref (X.2.1 (b + 4))]) (rest := []) hC hP hS (k_X10_copy l X S_6 (k0 + 5) (b + 4) (isI_H5 hk0) (isI_T4 hb0) hn_7) (va_cnB (host := "AbsentPraise") 2 hts gX7_begin_X10_copy_n29 rfl rfl rfl (xn_9 hN) (hts (.initialized RX10) (List.mem_of_getElem? (i := 10) rfl)) hs_X10_copy ⟨Nat.le_of_ble_eq_true rfl, Nat.le_of_ble_eq_true rfl⟩) (hts (.static yX10_copy) (List.mem_of_getElem? (i := 9) rfl)) rfl rfl hl.1 (Nat.le_of_ble_eq_true rfl) dX7_begin_35 (fun S_8 hS_8 H locs hP hS => ?_)
  refine lv_aload_n hx hb dX7_begin_38 rfl (lv_at hl 0 rfl) ?_
  refine lv_iconst (v := 0) hx hb dX7_begin_39 (by decide) ?_
  refine xput (ref := "AbsentPraise$Talk") (T := TX7) (ty := .int) hC hP hS (isT_lt hb0) hin_X7 tyX7 tyX7_ok nmX7 (xo_T hb0) rfl 4 (by decide) (List.mem_of_getElem? (i := 7) rfl) rfl rfl rfl rfl rfl (Nat.le_of_ble_eq_true rfl) dX7_begin_40 (xn_X7_4 hb0) (fun S_9 hS_9 H locs hP hS => ?_)
  refine lv_aload_n hx hb dX7_begin_43 rfl (lv_at hl 0 rfl) ?_
  refine lv_iconst (v := 0) hx hb dX7_begin_44 (by decide) ?_
  refine xput (ref := "AbsentPraise$Talk") (T := TX7) (ty := .int) hC hP hS (isT_lt hb0) hin_X7 tyX7 tyX7_ok nmX7 (xo_T hb0) rfl 5 (by decide) (List.mem_of_getElem? (i := 8) rfl) rfl rfl rfl rfl rfl (Nat.le_of_ble_eq_true rfl) dX7_begin_45 (xn_X7_5 hb0) (fun S_10 hS_10 H locs hP hS => ?_)
  exact xret_v hC hP hS hb hr ((by have hS_2 := hS_2.symm; have hS_4 := hS_4.symm; have hS_6 := hS_6.symm; have hS_8 := hS_8.symm; have hS_9 := hS_9.symm; have hS_10 := hS_10.symm; subst hS_2 hS_4 hS_6 hS_8 hS_9 hS_10; exact rfl)) dX7_begin_48 hlocks
theorem hd_X8_add : yX8_add.cls = RX8 ∧ yX8_add.cls ≠ "java/lang/invoke/MethodHandle" ∧ yX8_add.cls ≠ "java/lang/invoke/VarHandle" ∧ (parseMethodDescriptor yX8_add.desc).map (fun d => d.parameters.length) = some 1 := by decide +kernel
set_option maxHeartbeats 4000000 in
set_option maxRecDepth 100000 in
theorem k_X8_add (l : Launch) (X : xX) (S : xS) (p0 : Int32) : Met l yX8_add wsX8_add ({ frames := 1, cells := 0, slots := 0, locals := 22 } : Room) (va_Pc [.ref (X.2.1 1), .int p0] (xI X S)) (va_Qi (fun (r : Int32) (u : xS) => r = (f_X8_add S p0).1 ∧ u = (f_X8_add S p0).2) (xI X) (xA X)) 0 0 (xA X) := by
  refine Met.ofW (cc := cX8_add) (maxL := 2) (ret := (some .int)) (by decide +kernel) rfl ?_
  intro p e s m args below meth c s₁ B hml hv
  obtain ⟨rfl, hP, hK, hN, hJ⟩ := hv
  have hx := B.exec
  have hb := B.bytes
  have hr := B.returns
  have hts := atoms_spec (ws := wsX8_add) B.pre
  have hown : s.vm.findClass RX8 = some m.cls := findClass_of_methodNamed B.named
  have hlocks := B.notSynchronized
  have hC : xC X p m c cX8_add 2 s _ wsX8_add RX8 := ⟨⟨hx, hb, hml, hown, hts⟩, hK, hN, hJ⟩
  have hS : va_S (xA X) s.heap s.heap [] := va_S.rf
  have hin_X8 : ∀ w ∈ u_ws RX8 TX8 8, w ∈ wsX8_add := by decide +kernel
  have hl := lv_entry ([.ref (X.2.1 1), .int p0]) (n := 2) (Nat.le_of_ble_eq_true rfl)
  rw [lg_entry_eq]
  generalize (lg_sl ([.ref (X.2.1 1), .int p0]) ++ List.replicate (2 - (lg_sl ([.ref (X.2.1 1), .int p0])).length) Slot.unset).toArray = ls at hl ⊢
  have hl : lv_has ls 2 [(0, .ref (X.2.1 1)), (1, .int p0)] := hl
  refine lv_aload_n hx hb dX8_add_0 rfl (lv_at hl 0 rfl) ?_
  refine xget (ref := "AbsentPraise$Telling") (T := TX8) (v := .ref (X.2.1 2)) hC hP hin_X8 xo_X8 rfl 0 (by decide) (List.mem_of_getElem? (i := 1) rfl) rfl rfl dX8_add_1 ?_
  refine lv_aload_n hx hb dX8_add_4 rfl (lv_at hl 0 rfl) ?_
  refine xget (ref := "AbsentPraise$Telling") (T := TX8) (v := .int (S 1 2)) hC hP hin_X8 xo_X8 rfl 2 (by decide) (List.mem_of_getElem? (i := 2) rfl) rfl rfl dX8_add_5 ?_
  refine lv_iload_n hx hb dX8_add_8 rfl (lv_at hl 1 rfl) ?_
  refine xcSN_vW (As := [.ref (X.2.1 2), .int (S 1 2), .int p0]) (rest := []) hC hP hS (k_X10_put l X S 2 (S 1 2) p0 rfl) (va_cnB (host := "AbsentPraise") 3 hts gX8_add_X10_put_n29 rfl rfl rfl (xn_0 hN) (hts (.initialized RX10) (List.mem_of_getElem? (i := 4) rfl)) hs_X10_put ⟨Nat.le_of_ble_eq_true rfl, Nat.le_of_ble_eq_true rfl⟩) (hts (.static yX10_put) (List.mem_of_getElem? (i := 3) rfl)) rfl rfl hl.1 (Nat.le_of_ble_eq_true rfl) dX8_add_9 (fun S_1 hS_1 H locs hP hS => ?_)
  refine lv_aload_n hx hb dX8_add_12 rfl (lv_at hl 0 rfl) ?_
  refine lv_dup hx hb dX8_add_13 rfl ?_
  refine xget (ref := "AbsentPraise$Telling") (T := TX8) (v := .int (S_1 1 2)) hC hP hin_X8 xo_X8 rfl 2 (by decide) (List.mem_of_getElem? (i := 2) rfl) rfl rfl dX8_add_14 ?_
  refine lv_iconst (v := 1) hx hb dX8_add_17 (by decide) ?_
  refine lv_iadd hx hb dX8_add_18 ?_
  refine xput (ref := "AbsentPraise$Telling") (T := TX8) (ty := .int) hC hP hS (by decide) hin_X8 tyX8 tyX8_ok nmX8 xo_X8 rfl 2 (by decide) (List.mem_of_getElem? (i := 2) rfl) rfl rfl rfl rfl rfl (Nat.le_of_ble_eq_true rfl) dX8_add_19 rfl (fun S_2 hS_2 H locs hP hS => ?_)
  refine lv_aload_n hx hb dX8_add_22 rfl (lv_at hl 0 rfl) ?_
  refine xget (ref := "AbsentPraise$Telling") (T := TX8) (v := .int (S_2 1 2)) hC hP hin_X8 xo_X8 rfl 2 (by decide) (List.mem_of_getElem? (i := 2) rfl) rfl rfl dX8_add_23 ?_
  exact xret_iW hC hP hS hb hr ((by have hS_1 := hS_1.symm; have hS_2 := hS_2.symm; subst hS_1 hS_2; exact rfl)) dX8_add_26 hlocks
theorem hd_X8_letter : yX8_letter.cls = RX8 ∧ yX8_letter.cls ≠ "java/lang/invoke/MethodHandle" ∧ yX8_letter.cls ≠ "java/lang/invoke/VarHandle" ∧ (parseMethodDescriptor yX8_letter.desc).map (fun d => d.parameters.length) = some 0 := by decide +kernel
set_option maxHeartbeats 4000000 in
set_option maxRecDepth 100000 in
theorem k_X8_letter (l : Launch) (X : xX) (S : xS) : Met l yX8_letter wsX8_letter ({ frames := 0, cells := 0, slots := 0, locals := 0 } : Room) (va_Pc [.ref (X.2.1 1)] (xI X S)) (va_Qi (fun (r : Int32) (u : xS) => r = (f_X8_letter S) ∧ u = S) (xI X) (xA X)) 0 0 (xA X) := by
  refine Met.ofW (cc := cX8_letter) (maxL := 1) (ret := (some .int)) (by decide +kernel) rfl ?_
  intro p e s m args below meth c s₁ B hml hv
  obtain ⟨rfl, hP, hK, hN, hJ⟩ := hv
  have hx := B.exec
  have hb := B.bytes
  have hr := B.returns
  have hts := atoms_spec (ws := wsX8_letter) B.pre
  have hown : s.vm.findClass RX8 = some m.cls := findClass_of_methodNamed B.named
  have hlocks := B.notSynchronized
  have hC : xC X p m c cX8_letter 1 s _ wsX8_letter RX8 := ⟨⟨hx, hb, hml, hown, hts⟩, hK, hN, hJ⟩
  have hS : va_S (xA X) s.heap s.heap [] := va_S.rf
  have hin_X8 : ∀ w ∈ u_ws RX8 TX8 8, w ∈ wsX8_letter := by decide +kernel
  have hl := lv_entry ([.ref (X.2.1 1)]) (n := 1) (Nat.le_of_ble_eq_true rfl)
  rw [lg_entry_eq]
  generalize (lg_sl ([.ref (X.2.1 1)]) ++ List.replicate (1 - (lg_sl ([.ref (X.2.1 1)])).length) Slot.unset).toArray = ls at hl ⊢
  have hl : lv_has ls 1 [(0, .ref (X.2.1 1))] := hl
  refine lv_aload_n hx hb dX8_letter_0 rfl (lv_at hl 0 rfl) ?_
  refine xget (ref := "AbsentPraise$Telling") (T := TX8) (v := .int (S 1 5)) hC hP hin_X8 xo_X8 rfl 5 (by decide) (List.mem_of_getElem? (i := 1) rfl) rfl rfl dX8_letter_1 ?_
  refine lv_if_lt (tgt := 42) hx hb dX8_letter_4 (by decide) (fun c_1 => ?_) (fun c_1 => ?_)
  · refine lv_iconst (v := (-1)) hx hb dX8_letter_42 (by decide) ?_
    exact xret_iR hC hP hS hb hr (((ip c_1 rfl))) dX8_letter_43 hlocks
  · refine lv_aload_n hx hb dX8_letter_7 rfl (lv_at hl 0 rfl) ?_
    refine xget (ref := "AbsentPraise$Telling") (T := TX8) (v := .int (S 1 5)) hC hP hin_X8 xo_X8 rfl 5 (by decide) (List.mem_of_getElem? (i := 1) rfl) rfl rfl dX8_letter_8 ?_
    refine lv_aload_n hx hb dX8_letter_11 rfl (lv_at hl 0 rfl) ?_
    refine xget (ref := "AbsentPraise$Telling") (T := TX8) (v := .int (S 1 2)) hC hP hin_X8 xo_X8 rfl 2 (by decide) (List.mem_of_getElem? (i := 2) rfl) rfl rfl dX8_letter_12 ?_
    refine lv_icmp_ge (tgt := 42) hx hb dX8_letter_15 (by decide) (fun c_2 => ?_) (fun c_2 => ?_)
    · refine lv_iconst (v := (-1)) hx hb dX8_letter_42 (by decide) ?_
      exact xret_iR hC hP hS hb hr (((iN c_1 (ip c_2 rfl)))) dX8_letter_43 hlocks
    · refine lv_aload_n hx hb dX8_letter_18 rfl (lv_at hl 0 rfl) ?_
      refine xget (ref := "AbsentPraise$Telling") (T := TX8) (v := .int (S 1 5)) hC hP hin_X8 xo_X8 rfl 5 (by decide) (List.mem_of_getElem? (i := 1) rfl) rfl rfl dX8_letter_19 ?_
      refine lv_aload_n hx hb dX8_letter_22 rfl (lv_at hl 0 rfl) ?_
      refine xget (ref := "AbsentPraise$Telling") (T := TX8) (v := .ref (X.2.1 2)) hC hP hin_X8 xo_X8 rfl 0 (by decide) (List.mem_of_getElem? (i := 3) rfl) rfl rfl dX8_letter_23 ?_
      refine xalen hC hP rfl dX8_letter_26 ?_
      refine lv_icmp_ge (tgt := 42) hx hb dX8_letter_27 (by decide) (fun c_3 => ?_) (fun c_3 => ?_)
      · refine lv_iconst (v := (-1)) hx hb dX8_letter_42 (by decide) ?_
        exact xret_iR hC hP hS hb hr (((iN c_1 (iN c_2 (ip c_3 rfl))))) dX8_letter_43 hlocks
      · refine lv_aload_n hx hb dX8_letter_30 rfl (lv_at hl 0 rfl) ?_
        refine xget (ref := "AbsentPraise$Telling") (T := TX8) (v := .ref (X.2.1 2)) hC hP hin_X8 xo_X8 rfl 0 (by decide) (List.mem_of_getElem? (i := 3) rfl) rfl rfl dX8_letter_31 ?_
        refine lv_aload_n hx hb dX8_letter_34 rfl (lv_at hl 0 rfl) ?_
        refine xget (ref := "AbsentPraise$Telling") (T := TX8) (v := .int (S 1 5)) hC hP hin_X8 xo_X8 rfl 5 (by decide) (List.mem_of_getElem? (i := 1) rfl) rfl rfl dX8_letter_35 ?_
        refine xiald hC hP rfl (vp_of (by decide) c_1 c_3) dX8_letter_38 ?_
        refine lv_goto (tgt := 43) hx hb dX8_letter_39 (by decide) ?_
        exact xret_iR hC hP hS hb hr (((iN c_1 (iN c_2 (iN c_3 rfl))))) dX8_letter_43 hlocks
theorem hd_X8_skipBlanks : yX8_skipBlanks.cls = RX8 ∧ yX8_skipBlanks.cls ≠ "java/lang/invoke/MethodHandle" ∧ yX8_skipBlanks.cls ≠ "java/lang/invoke/VarHandle" ∧ (parseMethodDescriptor yX8_skipBlanks.desc).map (fun d => d.parameters.length) = some 0 := by decide +kernel
set_option maxHeartbeats 4000000 in
set_option maxRecDepth 100000 in
theorem k_X8_skipBlanks (l : Launch) (X : xX) (S : xS) (hs : s_X8_skipBlanks S) : Met l yX8_skipBlanks wsX8_skipBlanks ({ frames := 1, cells := 0, slots := 0, locals := 20 } : Room) (va_Pc [.ref (X.2.1 1)] (xI X S)) (va_Qv (fun u : xS => u = (f_X8_skipBlanks S)) (xI X) (xA X)) 0 0 (xA X) := by
  refine Met.ofW (cc := cX8_skipBlanks) (maxL := 1) (ret := none) (by decide +kernel) rfl ?_
  intro p e s m args below meth c s₁ B hml hv
  obtain ⟨rfl, hP, hK, hN, hJ⟩ := hv
  have hx := B.exec
  have hb := B.bytes
  have hr := B.returns
  have hts := atoms_spec (ws := wsX8_skipBlanks) B.pre
  have hown : s.vm.findClass RX8 = some m.cls := findClass_of_methodNamed B.named
  have hlocks := B.notSynchronized
  have hC : xC X p m c cX8_skipBlanks 1 s _ wsX8_skipBlanks RX8 := ⟨⟨hx, hb, hml, hown, hts⟩, hK, hN, hJ⟩
  have hS : va_S (xA X) s.heap s.heap [] := va_S.rf
  have hin_X8 : ∀ w ∈ u_ws RX8 TX8 8, w ∈ wsX8_skipBlanks := by decide +kernel
  have hl := lv_entry ([.ref (X.2.1 1)]) (n := 1) (Nat.le_of_ble_eq_true rfl)
  rw [lg_entry_eq]
  generalize (lg_sl ([.ref (X.2.1 1)]) ++ List.replicate (1 - (lg_sl ([.ref (X.2.1 1)])).length) Slot.unset).toArray = ls at hl ⊢
  have hl : lv_has ls 1 [(0, .ref (X.2.1 1))] := hl
  have hLp_0 : ∀ (n : Nat) (T_0 : xS), s_X8_skipBlanks_L0 n T_0 → (∀ q : xS, q = f_X8_skipBlanks_L0 n T_0 → (∀ (H : Heap) (locs : List Loc), va_P X.1 vwCl (xW X q) H → va_S (xA X) s.heap H locs → ∀ (ls : Array Slot), lv_has ls 1 [] → W p l e ({ frames := 1, cells := 0, slots := 0, locals := 20 } : Room) s m ([.ref (X.2.1 1)] : List Value).toArray below meth c H locs 0 0 (MQ below (va_Qv (fun u : xS => u = (f_X8_skipBlanks S)) (xI X) (xA X)) ([.ref (X.2.1 1)] : List Value).toArray s 0 0 (xA X)) (F0 m 33 ls []))) → ∀ (H : Heap) (locs : List Loc), va_P X.1 vwCl (xW X T_0) H → va_S (xA X) s.heap H locs → ∀ (ls : Array Slot), lv_has ls 1 [(0, .ref (X.2.1 1))] → W p l e ({ frames := 1, cells := 0, slots := 0, locals := 20 } : Room) s m ([.ref (X.2.1 1)] : List Value).toArray below meth c H locs 0 0 (MQ below (va_Qv (fun u : xS => u = (f_X8_skipBlanks S)) (xI X) (xA X)) ([.ref (X.2.1 1)] : List Value).toArray s 0 0 (xA X)) (F0 m 0 ls []) := by
    intro n
    induction n with
    | zero => intro T_0 hs; exact hs.elim
    | succ n ih_0 =>
      intro T_0 hs_0 hex_0 H locs hP hS ls hl
      refine lv_aload_n hx hb dX8_skipBlanks_0 rfl (lv_at hl 0 rfl) ?_
      refine xget (ref := "AbsentPraise$Telling") (T := TX8) (v := .int (T_0 1 5)) hC hP hin_X8 xo_X8 rfl 5 (by decide) (List.mem_of_getElem? (i := 1) rfl) rfl rfl dX8_skipBlanks_1 ?_
      refine lv_aload_n hx hb dX8_skipBlanks_4 rfl (lv_at hl 0 rfl) ?_
      refine xget (ref := "AbsentPraise$Telling") (T := TX8) (v := .int (T_0 1 2)) hC hP hin_X8 xo_X8 rfl 2 (by decide) (List.mem_of_getElem? (i := 2) rfl) rfl rfl dX8_skipBlanks_5 ?_
      refine lv_icmp_ge (tgt := 33) hx hb dX8_skipBlanks_8 (by decide) (fun c_1 => ?_) (fun c_1 => ?_)
      · have he_2 : f_X8_skipBlanks_L0 (n + 1) T_0 = T_0 := ((ip c_1 rfl))
        exact hex_0 _ he_2.symm _ _ hP hS ls (lv_sub hl [] rfl)
      · refine lv_aload_n hx hb dX8_skipBlanks_11 rfl (lv_at hl 0 rfl) ?_
        refine xcV_iR (b := 1) (As := []) (rest := []) hC hP hS (k_X8_letter l X T_0) (cwV 0 hts gX8_skipBlanks_X8_letter rfl rfl rfl hd_X8_letter ⟨Nat.le_of_ble_eq_true rfl, Nat.le_of_ble_eq_true rfl⟩) xo_X8 rfl rfl rfl hl.1 (Nat.le_of_ble_eq_true rfl) dX8_skipBlanks_12 (fun r_3 hr_3 H locs hP hS => ?_)
        refine lv_bipush (v := 32) hx hb dX8_skipBlanks_15 (by decide) ?_
        refine lv_icmp_ne (tgt := 33) hx hb dX8_skipBlanks_17 (by decide) (fun c_4 => ?_) (fun c_4 => ?_)
        · have he_5 : f_X8_skipBlanks_L0 (n + 1) T_0 = T_0 := (by have hr_3 := hr_3.symm; subst hr_3; exact (iN c_1 (iN c_4 rfl)))
          exact hex_0 _ he_5.symm _ _ hP hS ls (lv_sub hl [] rfl)
        · refine lv_aload_n hx hb dX8_skipBlanks_20 rfl (lv_at hl 0 rfl) ?_
          refine lv_dup hx hb dX8_skipBlanks_21 rfl ?_
          refine xget (ref := "AbsentPraise$Telling") (T := TX8) (v := .int (T_0 1 5)) hC hP hin_X8 xo_X8 rfl 5 (by decide) (List.mem_of_getElem? (i := 1) rfl) rfl rfl dX8_skipBlanks_22 ?_
          refine lv_iconst (v := 1) hx hb dX8_skipBlanks_25 (by decide) ?_
          refine lv_iadd hx hb dX8_skipBlanks_26 ?_
          refine xput (ref := "AbsentPraise$Telling") (T := TX8) (ty := .int) hC hP hS (by decide) hin_X8 tyX8 tyX8_ok nmX8 xo_X8 rfl 5 (by decide) (List.mem_of_getElem? (i := 1) rfl) rfl rfl rfl rfl rfl (Nat.le_of_ble_eq_true rfl) dX8_skipBlanks_27 rfl (fun S_6 hS_6 H locs hP hS => ?_)
          refine lv_goto (tgt := 0) hx hb dX8_skipBlanks_30 (by decide) ?_
          have he_7 : f_X8_skipBlanks_L0 (n + 1) T_0 = f_X8_skipBlanks_L0 n S_6 := (by have hr_3 := hr_3.symm; have hS_6 := hS_6.symm; subst hr_3 hS_6; exact (iN c_1 (ip c_4 rfl)))
          exact ih_0 S_6 (by have hr_3 := hr_3.symm; have hS_6 := hS_6.symm; subst hr_3 hS_6; exact (sp (sn hs_0 c_1) c_4)) (fun q hq => hex_0 q (hq.trans he_7.symm)) _ _ hP hS ls (lv_sub hl [0] rfl)
  refine hLp_0 ((fu (S 1 5) (S 1 2))) S (nl hs) (fun q_0 hq_0 H locs hP hS ls hl => ?_) _ _ hP hS ls (lv_sub hl [0] rfl)
  exact xret_v hC hP hS hb hr ((by have hq_0 := hq_0.symm; subst hq_0; exact rfl)) dX8_skipBlanks_33 hlocks
