set_option linter.all false
/-! contracts: X10_drawDeed, X10_drift, X10_undo, X10_warm, X10_bestRoom, X10_route -/
theorem hd_X10_drawDeed : yX10_drawDeed.cls = RX10 ∧ yX10_drawDeed.cls ≠ "java/lang/invoke/MethodHandle" ∧ yX10_drawDeed.cls ≠ "java/lang/invoke/VarHandle" ∧ (parseMethodDescriptor yX10_drawDeed.desc).map (fun d => d.parameters.length) = some 0 := by decide +kernel
set_option maxHeartbeats 4000000 in
set_option maxRecDepth 100000 in
theorem k_X10_drawDeed (l : Launch) (X : xX) (S : xS) : Met l yX10_drawDeed wsX10_drawDeed ({ frames := 2, cells := 0, slots := 0, locals := 43 } : Room) (va_Pc [.ref (X.2.1 0)] (xI X S)) (va_Qv (fun u : xS => u = (f_X10_drawDeed S)) (xI X) (xA X)) 0 0 (xA X) := by
  refine Met.ofW (cc := cX10_drawDeed) (maxL := 6) (ret := none) (by decide +kernel) rfl ?_
  intro p e s m args below meth c s₁ B hml hv
  obtain ⟨rfl, hP, hK, hN, hJ⟩ := hv
  have hx := B.exec
  have hb := B.bytes
  have hr := B.returns
  have hts := atoms_spec (ws := wsX10_drawDeed) B.pre
  have hown : s.vm.findClass RX10 = some m.cls := findClass_of_methodNamed B.named
  have hlocks := B.notSynchronized
  have hC : xC X p m c cX10_drawDeed 6 s _ wsX10_drawDeed RX10 := ⟨⟨hx, hb, hml, hown, hts⟩, hK, hN, hJ⟩
  have hS : va_S (xA X) s.heap s.heap [] := va_S.rf
  have hin_X10 : ∀ w ∈ u_ws RX10 TX10 10, w ∈ wsX10_drawDeed := by decide +kernel
  have hin_X2 : ∀ w ∈ u_ws RX2 TX2 10, w ∈ wsX10_drawDeed := by decide +kernel
  have hin_X7 : ∀ w ∈ u_ws RX7 TX7 6, w ∈ wsX10_drawDeed := by decide +kernel
  have hl := lv_entry ([.ref (X.2.1 0)]) (n := 6) (Nat.le_of_ble_eq_true rfl)
  rw [lg_entry_eq]
  generalize (lg_sl ([.ref (X.2.1 0)]) ++ List.replicate (6 - (lg_sl ([.ref (X.2.1 0)])).length) Slot.unset).toArray = ls at hl ⊢
  have hl : lv_has ls 6 [(0, .ref (X.2.1 0))] := hl
  refine lv_aload_n hx hb dX10_drawDeed_0 rfl (lv_at hl 0 rfl) ?_
  refine xget (ref := "AbsentPraise") (T := TX10) (v := .ref (X.2.1 9)) hC hP hin_X10 xo_X10 rfl 1 (by decide) (List.mem_of_getElem? (i := 1) rfl) rfl rfl dX10_drawDeed_1 ?_
  refine xget (ref := "AbsentPraise$Hill") (T := TX2) (v := .int (S 9 9)) hC hP hin_X2 (xo_H (by decide)) rfl 9 (by decide) (List.mem_of_getElem? (i := 2) rfl) rfl rfl dX10_drawDeed_4 ?_
  refine lv_if_gt (tgt := 11) hx hb dX10_drawDeed_7 (by decide) (fun c_1 => ?_) (fun c_1 => ?_)
  · refine lv_aload_n hx hb dX10_drawDeed_11 rfl (lv_at hl 0 rfl) ?_
    refine xget (ref := "AbsentPraise") (T := TX10) (v := .ref (X.2.1 26)) hC hP hin_X10 xo_X10 rfl 8 (by decide) (List.mem_of_getElem? (i := 3) rfl) rfl rfl dX10_drawDeed_12 ?_
    refine lv_iconst (v := 4) hx hb dX10_drawDeed_15 (by decide) ?_
    refine xcV_iW (b := 26) (As := [.int 4]) (rest := []) hC hP hS (k_X1_next l X S 4) (cwV 1 hts gX10_drawDeed_X1_next rfl rfl rfl hd_X1_next ⟨Nat.le_of_ble_eq_true rfl, Nat.le_of_ble_eq_true rfl⟩) xo_X1 rfl rfl rfl hl.1 (Nat.le_of_ble_eq_true rfl) dX10_drawDeed_16 (fun r_2 S_3 hp_r_2 H locs hP hS => ?_)
    obtain ⟨hr_2, hS_3⟩ := hp_r_2
    refine lv_istore_n (lv' := [(1, .int r_2), (0, .ref (X.2.1 0))]) hx hb dX10_drawDeed_19 rfl hl (by decide) rfl (fun ls hl => ?_)
    refine lv_aload_n hx hb dX10_drawDeed_20 rfl (lv_at hl 1 rfl) ?_
    refine xget (ref := "AbsentPraise") (T := TX10) (v := .ref (X.2.1 26)) hC hP hin_X10 xo_X10 rfl 8 (by decide) (List.mem_of_getElem? (i := 3) rfl) rfl rfl dX10_drawDeed_21 ?_
    refine lv_aload_n hx hb dX10_drawDeed_24 rfl (lv_at hl 1 rfl) ?_
    refine xget (ref := "AbsentPraise") (T := TX10) (v := .ref (X.2.1 9)) hC hP hin_X10 xo_X10 rfl 1 (by decide) (List.mem_of_getElem? (i := 1) rfl) rfl rfl dX10_drawDeed_25 ?_
    refine xget (ref := "AbsentPraise$Hill") (T := TX2) (v := .int (S_3 9 9)) hC hP hin_X2 (xo_H (by decide)) rfl 9 (by decide) (List.mem_of_getElem? (i := 2) rfl) rfl rfl dX10_drawDeed_28 ?_
    refine xcV_iW (b := 26) (As := [.int (S_3 9 9)]) (rest := []) hC hP hS (k_X1_next l X S_3 (S_3 9 9)) (cwV 1 hts gX10_drawDeed_X1_next rfl rfl rfl hd_X1_next ⟨Nat.le_of_ble_eq_true rfl, Nat.le_of_ble_eq_true rfl⟩) xo_X1 rfl rfl rfl hl.1 (Nat.le_of_ble_eq_true rfl) dX10_drawDeed_31 (fun r_5 S_6 hp_r_5 H locs hP hS => ?_)
    obtain ⟨hr_5, hS_6⟩ := hp_r_5
    refine lv_istore_n (lv' := [(2, .int r_5), (1, .int r_2), (0, .ref (X.2.1 0))]) hx hb dX10_drawDeed_34 rfl hl (by decide) rfl (fun ls hl => ?_)
    refine lv_iload_n hx hb dX10_drawDeed_35 rfl (lv_at hl 1 rfl) ?_
    by_cases c_8 : r_2 = 0
    · refine lv_tableIn (off := 28) (tgt := 64) hx hb dX10_drawDeed_36 (by rw [c_8]; decide) (by rw [c_8]; decide) (by rw [c_8]; rfl) (by decide) ?_
      refine lv_aload_n hx hb dX10_drawDeed_64 rfl (lv_at hl 2 rfl) ?_
      refine xget (ref := "AbsentPraise") (T := TX10) (v := .ref (X.2.1 26)) hC hP hin_X10 xo_X10 rfl 8 (by decide) (List.mem_of_getElem? (i := 3) rfl) rfl rfl dX10_drawDeed_65 ?_
      refine lv_aload_n hx hb dX10_drawDeed_68 rfl (lv_at hl 2 rfl) ?_
      refine xget (ref := "AbsentPraise") (T := TX10) (v := .ref (X.2.1 9)) hC hP hin_X10 xo_X10 rfl 1 (by decide) (List.mem_of_getElem? (i := 1) rfl) rfl rfl dX10_drawDeed_69 ?_
      refine xget (ref := "AbsentPraise$Hill") (T := TX2) (v := .int (S_6 9 5)) hC hP hin_X2 (xo_H (by decide)) rfl 5 (by decide) (List.mem_of_getElem? (i := 4) rfl) rfl rfl dX10_drawDeed_72 ?_
      refine xcV_iW (b := 26) (As := [.int (S_6 9 5)]) (rest := []) hC hP hS (k_X1_next l X S_6 (S_6 9 5)) (cwV 1 hts gX10_drawDeed_X1_next rfl rfl rfl hd_X1_next ⟨Nat.le_of_ble_eq_true rfl, Nat.le_of_ble_eq_true rfl⟩) xo_X1 rfl rfl rfl hl.1 (Nat.le_of_ble_eq_true rfl) dX10_drawDeed_75 (fun r_9 S_10 hp_r_9 H locs hP hS => ?_)
      obtain ⟨hr_9, hS_10⟩ := hp_r_9
      refine lv_istore_n (lv' := [(3, .int r_9), (2, .int r_5), (1, .int r_2), (0, .ref (X.2.1 0))]) hx hb dX10_drawDeed_78 rfl hl (by decide) rfl (fun ls hl => ?_)
      refine lv_aload_n hx hb dX10_drawDeed_79 rfl (lv_at hl 3 rfl) ?_
      refine xget (ref := "AbsentPraise") (T := TX10) (v := .ref (X.2.1 9)) hC hP hin_X10 xo_X10 rfl 1 (by decide) (List.mem_of_getElem? (i := 1) rfl) rfl rfl dX10_drawDeed_80 ?_
      refine lv_aload_n hx hb dX10_drawDeed_83 rfl (lv_at hl 3 rfl) ?_
      refine xget (ref := "AbsentPraise") (T := TX10) (v := .ref (X.2.1 32)) hC hP hin_X10 xo_X10 rfl 2 (by decide) (List.mem_of_getElem? (i := 5) rfl) rfl rfl dX10_drawDeed_84 ?_
      refine xget (ref := "AbsentPraise$Talk") (T := TX7) (v := .ref (X.2.1 33)) hC hP hin_X7 (xo_T (by decide)) rfl 0 (by decide) (List.mem_of_getElem? (i := 6) rfl) rfl rfl dX10_drawDeed_87 ?_
      refine lv_iload_n hx hb dX10_drawDeed_90 rfl (lv_at hl 1 rfl) ?_
      refine xcS_iR (As := [.ref (X.2.1 33), .int r_5]) (rest := [.ref (X.2.1 9)]) hC hP hS (k_X10_at l X S_10 33 r_5 rfl) (va_cwS 2 hts gX10_drawDeed_X10_at rfl rfl rfl hs_X10_at ⟨Nat.le_of_ble_eq_true rfl, Nat.le_of_ble_eq_true rfl⟩) rfl rfl hl.1 (Nat.le_of_ble_eq_true rfl) dX10_drawDeed_91 (fun r_12 hr_12 H locs hP hS => ?_)
      refine lv_iload_n hx hb dX10_drawDeed_94 rfl (lv_at hl 0 rfl) ?_
      refine xcV_iR (b := 9) (As := [.int r_12, .int r_9]) (rest := []) hC hP hS (k_X2_isWay l X S_10 9 r_12 r_9 (by decide)) (cwV 2 hts gX10_drawDeed_X2_isWay rfl rfl rfl hd_X2_isWay ⟨Nat.le_of_ble_eq_true rfl, Nat.le_of_ble_eq_true rfl⟩) (xo_H (by decide)) rfl rfl rfl hl.1 (Nat.le_of_ble_eq_true rfl) dX10_drawDeed_95 (fun r_13 hp_r_13 H locs hP hS => ?_)
      obtain ⟨hr_13, hzr_13⟩ := hp_r_13
      refine lv_if_eq (tgt := 189) hx hb dX10_drawDeed_98 (by decide) (fun c_14 => ?_) (fun c_14 => ?_)
      · exact xret_v hC hP hS hb hr ((by have hr_2 := hr_2.symm; have hS_3 := hS_3.symm; have hr_5 := hr_5.symm; have hS_6 := hS_6.symm; have hr_9 := hr_9.symm; have hS_10 := hS_10.symm; have hr_12 := hr_12.symm; have hr_13 := hr_13.symm; subst hr_2 hS_3 hr_5 hS_6 hr_9 hS_10 hr_12 hr_13; exact (ip c_1 (ip c_8 (ip c_14 rfl))))) dX10_drawDeed_189 hlocks
      · refine lv_aload_n hx hb dX10_drawDeed_101 rfl (lv_at hl 3 rfl) ?_
        refine xget (ref := "AbsentPraise") (T := TX10) (v := .ref (X.2.1 32)) hC hP hin_X10 xo_X10 rfl 2 (by decide) (List.mem_of_getElem? (i := 5) rfl) rfl rfl dX10_drawDeed_102 ?_
        refine xget (ref := "AbsentPraise$Talk") (T := TX7) (v := .ref (X.2.1 33)) hC hP hin_X7 (xo_T (by decide)) rfl 0 (by decide) (List.mem_of_getElem? (i := 6) rfl) rfl rfl dX10_drawDeed_105 ?_
        refine lv_iload_n hx hb dX10_drawDeed_108 rfl (lv_at hl 1 rfl) ?_
        refine lv_iload_n hx hb dX10_drawDeed_109 rfl (lv_at hl 0 rfl) ?_
        refine xcS_vW (As := [.ref (X.2.1 33), .int r_5, .int r_9]) (rest := []) hC hP hS (k_X10_put l X S_10 33 r_5 r_9 rfl) (va_cwS 3 hts gX10_drawDeed_X10_put rfl rfl rfl hs_X10_put ⟨Nat.le_of_ble_eq_true rfl, Nat.le_of_ble_eq_true rfl⟩) rfl rfl hl.1 (Nat.le_of_ble_eq_true rfl) dX10_drawDeed_110 (fun S_15 hS_15 H locs hP hS => ?_)
        refine lv_goto (tgt := 189) hx hb dX10_drawDeed_113 (by decide) ?_
        exact xret_v hC hP hS hb hr ((by have hr_2 := hr_2.symm; have hS_3 := hS_3.symm; have hr_5 := hr_5.symm; have hS_6 := hS_6.symm; have hr_9 := hr_9.symm; have hS_10 := hS_10.symm; have hr_12 := hr_12.symm; have hr_13 := hr_13.symm; have hS_15 := hS_15.symm; subst hr_2 hS_3 hr_5 hS_6 hr_9 hS_10 hr_12 hr_13 hS_15; exact (ip c_1 (ip c_8 (iN c_14 rfl))))) dX10_drawDeed_189 hlocks
    · by_cases c_16 : r_2 = 1
      · refine lv_tableIn (off := 80) (tgt := 116) hx hb dX10_drawDeed_36 (by rw [c_16]; decide) (by rw [c_16]; decide) (by rw [c_16]; rfl) (by decide) ?_
        refine lv_aload_n hx hb dX10_drawDeed_116 rfl (lv_at hl 2 rfl) ?_
        refine xget (ref := "AbsentPraise") (T := TX10) (v := .ref (X.2.1 32)) hC hP hin_X10 xo_X10 rfl 2 (by decide) (List.mem_of_getElem? (i := 5) rfl) rfl rfl dX10_drawDeed_117 ?_
        refine lv_dup hx hb dX10_drawDeed_120 rfl ?_
        refine xget (ref := "AbsentPraise$Talk") (T := TX7) (v := .int (S_6 32 4)) hC hP hin_X7 (xo_T (by decide)) rfl 4 (by decide) (List.mem_of_getElem? (i := 7) rfl) rfl rfl dX10_drawDeed_121 ?_
        refine lv_iload_n hx hb dX10_drawDeed_124 rfl (lv_at hl 0 rfl) ?_
        refine xcS_iR (As := [.int r_5]) (rest := [.int (S_6 32 4), .ref (X.2.1 32)]) hC hP hS (k_X10_bit l X S_6 r_5) (va_cwS 1 hts gX10_drawDeed_X10_bit rfl rfl rfl hs_X10_bit ⟨Nat.le_of_ble_eq_true rfl, Nat.le_of_ble_eq_true rfl⟩) rfl rfl hl.1 (Nat.le_of_ble_eq_true rfl) dX10_drawDeed_125 (fun r_17 hr_17 H locs hP hS => ?_)
        refine lv_ior hx hb dX10_drawDeed_128 ?_
        refine xput (ref := "AbsentPraise$Talk") (T := TX7) (ty := .int) hC hP hS (isT_lt (by decide)) hin_X7 tyX7 tyX7_ok nmX7 (xo_T (by decide)) rfl 4 (by decide) (List.mem_of_getElem? (i := 7) rfl) rfl rfl rfl rfl rfl (Nat.le_of_ble_eq_true rfl) dX10_drawDeed_129 (xn_X7_4 (by decide)) (fun S_18 hS_18 H locs hP hS => ?_)
        refine lv_goto (tgt := 189) hx hb dX10_drawDeed_132 (by decide) ?_
        exact xret_v hC hP hS hb hr ((by have hr_2 := hr_2.symm; have hS_3 := hS_3.symm; have hr_5 := hr_5.symm; have hS_6 := hS_6.symm; have hr_17 := hr_17.symm; have hS_18 := hS_18.symm; subst hr_2 hS_3 hr_5 hS_6 hr_17 hS_18; exact (ip c_1 (iN c_8 (ip c_16 rfl))))) dX10_drawDeed_189 hlocks
      · by_cases c_19 : r_2 = 2
        · refine lv_tableIn (off := 99) (tgt := 135) hx hb dX10_drawDeed_36 (by rw [c_19]; decide) (by rw [c_19]; decide) (by rw [c_19]; rfl) (by decide) ?_
          refine lv_aload_n hx hb dX10_drawDeed_135 rfl (lv_at hl 2 rfl) ?_
          refine xget (ref := "AbsentPraise") (T := TX10) (v := .ref (X.2.1 26)) hC hP hin_X10 xo_X10 rfl 8 (by decide) (List.mem_of_getElem? (i := 3) rfl) rfl rfl dX10_drawDeed_136 ?_
          refine lv_aload_n hx hb dX10_drawDeed_139 rfl (lv_at hl 2 rfl) ?_
          refine xget (ref := "AbsentPraise") (T := TX10) (v := .ref (X.2.1 9)) hC hP hin_X10 xo_X10 rfl 1 (by decide) (List.mem_of_getElem? (i := 1) rfl) rfl rfl dX10_drawDeed_140 ?_
          refine xget (ref := "AbsentPraise$Hill") (T := TX2) (v := .int (S_6 9 9)) hC hP hin_X2 (xo_H (by decide)) rfl 9 (by decide) (List.mem_of_getElem? (i := 2) rfl) rfl rfl dX10_drawDeed_143 ?_
          refine xcV_iW (b := 26) (As := [.int (S_6 9 9)]) (rest := []) hC hP hS (k_X1_next l X S_6 (S_6 9 9)) (cwV 1 hts gX10_drawDeed_X1_next rfl rfl rfl hd_X1_next ⟨Nat.le_of_ble_eq_true rfl, Nat.le_of_ble_eq_true rfl⟩) xo_X1 rfl rfl rfl hl.1 (Nat.le_of_ble_eq_true rfl) dX10_drawDeed_146 (fun r_20 S_21 hp_r_20 H locs hP hS => ?_)
          obtain ⟨hr_20, hS_21⟩ := hp_r_20
          refine lv_istore (lv' := [(4, .int r_20), (2, .int r_5), (1, .int r_2), (0, .ref (X.2.1 0))]) hx hb dX10_drawDeed_149 hl (by decide) rfl (fun ls hl => ?_)
          refine lv_aload_n hx hb dX10_drawDeed_151 rfl (lv_at hl 3 rfl) ?_
          refine xget (ref := "AbsentPraise") (T := TX10) (v := .ref (X.2.1 26)) hC hP hin_X10 xo_X10 rfl 8 (by decide) (List.mem_of_getElem? (i := 3) rfl) rfl rfl dX10_drawDeed_152 ?_
          refine lv_bipush (v := 10) hx hb dX10_drawDeed_155 (by decide) ?_
          refine xcV_iW (b := 26) (As := [.int 10]) (rest := []) hC hP hS (k_X1_next l X S_21 10) (cwV 1 hts gX10_drawDeed_X1_next rfl rfl rfl hd_X1_next ⟨Nat.le_of_ble_eq_true rfl, Nat.le_of_ble_eq_true rfl⟩) xo_X1 rfl rfl rfl hl.1 (Nat.le_of_ble_eq_true rfl) dX10_drawDeed_157 (fun r_23 S_24 hp_r_23 H locs hP hS => ?_)
          obtain ⟨hr_23, hS_24⟩ := hp_r_23
          refine lv_istore (lv' := [(5, .int r_23), (4, .int r_20), (2, .int r_5), (1, .int r_2), (0, .ref (X.2.1 0))]) hx hb dX10_drawDeed_160 hl (by decide) rfl (fun ls hl => ?_)
          refine lv_iload hx hb dX10_drawDeed_162 (lv_at hl 1 rfl) ?_
          refine lv_iload_n hx hb dX10_drawDeed_164 rfl (lv_at hl 2 rfl) ?_
          refine lv_icmp_eq (tgt := 189) hx hb dX10_drawDeed_165 (by decide) (fun c_26 => ?_) (fun c_26 => ?_)
          · exact xret_v hC hP hS hb hr ((by have hr_2 := hr_2.symm; have hS_3 := hS_3.symm; have hr_5 := hr_5.symm; have hS_6 := hS_6.symm; have hr_20 := hr_20.symm; have hS_21 := hS_21.symm; have hr_23 := hr_23.symm; have hS_24 := hS_24.symm; subst hr_2 hS_3 hr_5 hS_6 hr_20 hS_21 hr_23 hS_24; exact (ip c_1 (iN c_8 (iN c_16 (ip c_19 (ip c_26 rfl))))))) dX10_drawDeed_189 hlocks
          · refine lv_aload_n hx hb dX10_drawDeed_168 rfl (lv_at hl 4 rfl) ?_
            refine xget (ref := "AbsentPraise") (T := TX10) (v := .ref (X.2.1 32)) hC hP hin_X10 xo_X10 rfl 2 (by decide) (List.mem_of_getElem? (i := 5) rfl) rfl rfl dX10_drawDeed_169 ?_
            refine xget (ref := "AbsentPraise$Talk") (T := TX7) (v := .ref (X.2.1 36)) hC hP hin_X7 (xo_T (by decide)) rfl 3 (by decide) (List.mem_of_getElem? (i := 8) rfl) rfl rfl dX10_drawDeed_172 ?_
            refine lv_iload_n hx hb dX10_drawDeed_175 rfl (lv_at hl 2 rfl) ?_
            refine lv_iload hx hb dX10_drawDeed_176 (lv_at hl 1 rfl) ?_
            refine xcS_iR (As := [.int r_5, .int r_20]) (rest := [.ref (X.2.1 36)]) hC hP hS (k_X10_pairIndex l X S_24 r_5 r_20) (va_cwS 2 hts gX10_drawDeed_X10_pairIndex rfl rfl rfl hs_X10_pairIndex ⟨Nat.le_of_ble_eq_true rfl, Nat.le_of_ble_eq_true rfl⟩) rfl rfl hl.1 (Nat.le_of_ble_eq_true rfl) dX10_drawDeed_178 (fun r_27 hr_27 H locs hP hS => ?_)
            refine lv_iload hx hb dX10_drawDeed_181 (lv_at hl 0 rfl) ?_
            refine xcS_vW (As := [.ref (X.2.1 36), .int r_27, .int r_23]) (rest := []) hC hP hS (k_X10_put l X S_24 36 r_27 r_23 rfl) (va_cwS 3 hts gX10_drawDeed_X10_put rfl rfl rfl hs_X10_put ⟨Nat.le_of_ble_eq_true rfl, Nat.le_of_ble_eq_true rfl⟩) rfl rfl hl.1 (Nat.le_of_ble_eq_true rfl) dX10_drawDeed_183 (fun S_28 hS_28 H locs hP hS => ?_)
            refine lv_goto (tgt := 189) hx hb dX10_drawDeed_186 (by decide) ?_
            exact xret_v hC hP hS hb hr ((by have hr_2 := hr_2.symm; have hS_3 := hS_3.symm; have hr_5 := hr_5.symm; have hS_6 := hS_6.symm; have hr_20 := hr_20.symm; have hS_21 := hS_21.symm; have hr_23 := hr_23.symm; have hS_24 := hS_24.symm; have hr_27 := hr_27.symm; have hS_28 := hS_28.symm; subst hr_2 hS_3 hr_5 hS_6 hr_20 hS_21 hr_23 hS_24 hr_27 hS_28; exact (ip c_1 (iN c_8 (iN c_16 (ip c_19 (iN c_26 rfl))))))) dX10_drawDeed_189 hlocks
        · refine lv_tableOut (tgt := 189) hx hb dX10_drawDeed_36 (sw_out3 c_8 c_16 c_19) (by decide) ?_
          exact xret_v hC hP hS hb hr ((by have hr_2 := hr_2.symm; have hS_3 := hS_3.symm; have hr_5 := hr_5.symm; have hS_6 := hS_6.symm; subst hr_2 hS_3 hr_5 hS_6; exact (ip c_1 (iN c_8 (iN c_16 (iN c_19 rfl)))))) dX10_drawDeed_189 hlocks
  · exact xret_v hC hP hS hb hr (((iN c_1 rfl))) dX10_drawDeed_10 hlocks
theorem hd_X10_drift : yX10_drift.cls = RX10 ∧ yX10_drift.cls ≠ "java/lang/invoke/MethodHandle" ∧ yX10_drift.cls ≠ "java/lang/invoke/VarHandle" ∧ (parseMethodDescriptor yX10_drift.desc).map (fun d => d.parameters.length) = some 1 := by decide +kernel
set_option maxHeartbeats 4000000 in
set_option maxRecDepth 100000 in
theorem k_X10_drift (l : Launch) (X : xX) (S : xS) (p0 : Int32) (hs : s_X10_drift S p0) : Met l yX10_drift wsX10_drift ({ frames := 5, cells := 0, slots := 0, locals := 114 } : Room) (va_Pc [.ref (X.2.1 0), .int p0] (xI X S)) (va_Qi (fun (r : Int32) (u : xS) => r = (f_X10_drift S p0).1 ∧ u = (f_X10_drift S p0).2) (xI X) (xA X)) 0 0 (xA X) := by
  refine Met.ofW (cc := cX10_drift) (maxL := 4) (ret := (some .int)) (by decide +kernel) rfl ?_
  intro p e s m args below meth c s₁ B hml hv
  obtain ⟨rfl, hP, hK, hN, hJ⟩ := hv
  have hx := B.exec
  have hb := B.bytes
  have hr := B.returns
  have hts := atoms_spec (ws := wsX10_drift) B.pre
  have hown : s.vm.findClass RX10 = some m.cls := findClass_of_methodNamed B.named
  have hlocks := B.notSynchronized
  have hC : xC X p m c cX10_drift 4 s _ wsX10_drift RX10 := ⟨⟨hx, hb, hml, hown, hts⟩, hK, hN, hJ⟩
  have hS : va_S (xA X) s.heap s.heap [] := va_S.rf
  have hin_X10 : ∀ w ∈ u_ws RX10 TX10 10, w ∈ wsX10_drift := by decide +kernel
  have hin_X7 : ∀ w ∈ u_ws RX7 TX7 6, w ∈ wsX10_drift := by decide +kernel
  have hl := lv_entry ([.ref (X.2.1 0), .int p0]) (n := 4) (Nat.le_of_ble_eq_true rfl)
  rw [lg_entry_eq]
  generalize (lg_sl ([.ref (X.2.1 0), .int p0]) ++ List.replicate (4 - (lg_sl ([.ref (X.2.1 0), .int p0])).length) Slot.unset).toArray = ls at hl ⊢
  have hl : lv_has ls 4 [(0, .ref (X.2.1 0)), (1, .int p0)] := hl
  refine lv_aload_n hx hb dX10_drift_0 rfl (lv_at hl 0 rfl) ?_
  refine lv_iload_n hx hb dX10_drift_1 rfl (lv_at hl 1 rfl) ?_
  refine xcV_iR (b := 0) (As := [.int p0]) (rest := []) hC hP hS (k_X10_refusalOfHours l X S p0) (cwV 1 hts gX10_drift_X10_refusalOfHours rfl rfl rfl hd_X10_refusalOfHours ⟨Nat.le_of_ble_eq_true rfl, Nat.le_of_ble_eq_true rfl⟩) xo_X10 rfl rfl rfl hl.1 (Nat.le_of_ble_eq_true rfl) dX10_drift_2 (fun r_1 hr_1 H locs hP hS => ?_)
  refine lv_istore_n (lv' := [(2, .int r_1), (0, .ref (X.2.1 0)), (1, .int p0)]) hx hb dX10_drift_5 rfl hl (by decide) rfl (fun ls hl => ?_)
  refine lv_iload_n hx hb dX10_drift_6 rfl (lv_at hl 0 rfl) ?_
  refine lv_if_eq (tgt := 12) hx hb dX10_drift_7 (by decide) (fun c_2 => ?_) (fun c_2 => ?_)
  · refine lv_aload_n hx hb dX10_drift_12 rfl (lv_at hl 1 rfl) ?_
    refine xget (ref := "AbsentPraise") (T := TX10) (v := .ref (X.2.1 27)) hC hP hin_X10 xo_X10 rfl 5 (by decide) (List.mem_of_getElem? (i := 1) rfl) rfl rfl dX10_drift_13 ?_
    refine lv_aload_n hx hb dX10_drift_16 rfl (lv_at hl 1 rfl) ?_
    refine xget (ref := "AbsentPraise") (T := TX10) (v := .ref (X.2.1 32)) hC hP hin_X10 xo_X10 rfl 2 (by decide) (List.mem_of_getElem? (i := 2) rfl) rfl rfl dX10_drift_17 ?_
    have hn_3 : s_X6_remember S 32 := (by have hr_1 := hr_1.symm; subst hr_1; exact nl (sp hs c_2))
    refine xcV_vW (b := 27) (As := [.ref (X.2.1 32)]) (rest := []) hC hP hS (k_X6_remember l X S 32 (by decide) hn_3) (cwV 1 hts gX10_drift_X6_remember rfl rfl rfl hd_X6_remember ⟨Nat.le_of_ble_eq_true rfl, Nat.le_of_ble_eq_true rfl⟩) xo_X6 rfl rfl rfl hl.1 (Nat.le_of_ble_eq_true rfl) dX10_drift_20 (fun S_4 hS_4 H locs hP hS => ?_)
    refine lv_iconst (v := 0) hx hb dX10_drift_23 (by decide) ?_
    refine lv_istore_n (lv' := [(3, .int 0), (2, .int r_1), (0, .ref (X.2.1 0)), (1, .int p0)]) hx hb dX10_drift_24 rfl hl (by decide) rfl (fun ls hl => ?_)
    have hLp_25 : ∀ (n : Nat) (T_25 : xS) (x1_25 : Int32) (x3_25 : Int32), s_X10_drift_L25 n T_25 x1_25 x3_25 → (∀ q : xS, q = f_X10_drift_L25 n T_25 x1_25 x3_25 → (∀ (H : Heap) (locs : List Loc), va_P X.1 vwCl (xW X q) H → va_S (xA X) s.heap H locs → ∀ (ls : Array Slot), lv_has ls 4 [(0, .ref (X.2.1 0))] → W p l e ({ frames := 5, cells := 0, slots := 0, locals := 114 } : Room) s m ([.ref (X.2.1 0), .int p0] : List Value).toArray below meth c H locs 0 0 (MQ below (va_Qi (fun (r : Int32) (u : xS) => r = (f_X10_drift S p0).1 ∧ u = (f_X10_drift S p0).2) (xI X) (xA X)) ([.ref (X.2.1 0), .int p0] : List Value).toArray s 0 0 (xA X)) (F0 m 47 ls []))) → ∀ (H : Heap) (locs : List Loc), va_P X.1 vwCl (xW X T_25) H → va_S (xA X) s.heap H locs → ∀ (ls : Array Slot), lv_has ls 4 [(0, .ref (X.2.1 0)), (1, .int x1_25), (3, .int x3_25)] → W p l e ({ frames := 5, cells := 0, slots := 0, locals := 114 } : Room) s m ([.ref (X.2.1 0), .int p0] : List Value).toArray below meth c H locs 0 0 (MQ below (va_Qi (fun (r : Int32) (u : xS) => r = (f_X10_drift S p0).1 ∧ u = (f_X10_drift S p0).2) (xI X) (xA X)) ([.ref (X.2.1 0), .int p0] : List Value).toArray s 0 0 (xA X)) (F0 m 25 ls []) := by
      intro n
      induction n with
      | zero => intro T_25 x1_25 x3_25 hs; exact hs.elim
      | succ n ih_25 =>
        intro T_25 x1_25 x3_25 hs_25 hex_25 H locs hP hS ls hl
        refine lv_iload_n hx hb dX10_drift_25 rfl (lv_at hl 2 rfl) ?_
        refine lv_iload_n hx hb dX10_drift_26 rfl (lv_at hl 1 rfl) ?_
        refine lv_icmp_ge (tgt := 47) hx hb dX10_drift_27 (by decide) (fun c_5 => ?_) (fun c_5 => ?_)
        · have he_6 : f_X10_drift_L25 (n + 1) T_25 x1_25 x3_25 = T_25 := ((ip c_5 rfl))
          exact hex_25 _ he_6.symm _ _ hP hS ls (lv_sub hl [0] rfl)
        · refine lv_aload_n hx hb dX10_drift_30 rfl (lv_at hl 0 rfl) ?_
          refine xcV_vW (b := 0) (As := []) (rest := []) hC hP hS (k_X10_drawDeed l X T_25) (cwV 0 hts gX10_drift_X10_drawDeed rfl rfl rfl hd_X10_drawDeed ⟨Nat.le_of_ble_eq_true rfl, Nat.le_of_ble_eq_true rfl⟩) xo_X10 rfl rfl rfl hl.1 (Nat.le_of_ble_eq_true rfl) dX10_drift_31 (fun S_7 hS_7 H locs hP hS => ?_)
          refine lv_aload_n hx hb dX10_drift_34 rfl (lv_at hl 0 rfl) ?_
          refine xget (ref := "AbsentPraise") (T := TX10) (v := .ref (X.2.1 15)) hC hP hin_X10 xo_X10 rfl 3 (by decide) (List.mem_of_getElem? (i := 3) rfl) rfl rfl dX10_drift_35 ?_
          have hn_8 : s_X4_passHour S_7 := (by have hS_7 := hS_7.symm; subst hS_7; exact nl (sn hs_25 c_5))
          refine xcV_vW (b := 15) (As := []) (rest := []) hC hP hS (k_X4_passHour l X S_7 hn_8) (cwV 0 hts gX10_drift_X4_passHour rfl rfl rfl hd_X4_passHour ⟨Nat.le_of_ble_eq_true rfl, Nat.le_of_ble_eq_true rfl⟩) xo_X4 rfl rfl rfl hl.1 (Nat.le_of_ble_eq_true rfl) dX10_drift_38 (fun S_9 hS_9 H locs hP hS => ?_)
          refine lv_iinc (v := (x3_25 + 1)) (lv' := [(3, .int (x3_25 + 1)), (0, .ref (X.2.1 0)), (1, .int x1_25)]) hx hb dX10_drift_41 hl (k := 2) rfl rfl (by decide) rfl (fun ls hl => ?_)
          refine lv_goto (tgt := 25) hx hb dX10_drift_44 (by decide) ?_
          have he_10 : f_X10_drift_L25 (n + 1) T_25 x1_25 x3_25 = f_X10_drift_L25 n S_9 x1_25 (x3_25 + 1) := (by have hS_7 := hS_7.symm; have hS_9 := hS_9.symm; subst hS_7 hS_9; exact (iN c_5 rfl))
          exact ih_25 S_9 x1_25 (x3_25 + 1) (by have hS_7 := hS_7.symm; have hS_9 := hS_9.symm; subst hS_7 hS_9; exact (nr (sn hs_25 c_5))) (fun q hq => hex_25 q (hq.trans he_10.symm)) _ _ hP hS ls (lv_sub hl [1, 2, 0] rfl)
    refine hLp_25 ((fu 0 p0)) S_4 p0 0 (by have hr_1 := hr_1.symm; have hS_4 := hS_4.symm; subst hr_1 hS_4; exact nl (nr (sp hs c_2))) (fun q_25 hq_25 H locs hP hS ls hl => ?_) _ _ hP hS ls (lv_sub hl [2, 3, 0] rfl)
    refine lv_aload_n hx hb dX10_drift_47 rfl (lv_at hl 0 rfl) ?_
    refine xget (ref := "AbsentPraise") (T := TX10) (v := .ref (X.2.1 32)) hC hP hin_X10 xo_X10 rfl 2 (by decide) (List.mem_of_getElem? (i := 2) rfl) rfl rfl dX10_drift_48 ?_
    refine xget (ref := "AbsentPraise$Talk") (T := TX7) (v := .int (q_25 32 5)) hC hP hin_X7 (xo_T (by decide)) rfl 5 (by decide) (List.mem_of_getElem? (i := 4) rfl) rfl rfl dX10_drift_51 ?_
    exact xret_iW hC hP hS hb hr ((by have hr_1 := hr_1.symm; have hS_4 := hS_4.symm; have hq_25 := hq_25.symm; subst hr_1 hS_4 hq_25; exact (ip c_2 rfl))) dX10_drift_54 hlocks
  · refine lv_iload_n hx hb dX10_drift_10 rfl (lv_at hl 0 rfl) ?_
    exact xret_iW hC hP hS hb hr ((by have hr_1 := hr_1.symm; subst hr_1; exact (iN c_2 rfl))) dX10_drift_11 hlocks
theorem hd_X10_undo : yX10_undo.cls = RX10 ∧ yX10_undo.cls ≠ "java/lang/invoke/MethodHandle" ∧ yX10_undo.cls ≠ "java/lang/invoke/VarHandle" ∧ (parseMethodDescriptor yX10_undo.desc).map (fun d => d.parameters.length) = some 0 := by decide +kernel
set_option maxHeartbeats 4000000 in
set_option maxRecDepth 100000 in
theorem k_X10_undo (l : Launch) (X : xX) (S : xS) (hs : s_X10_undo S) : Met l yX10_undo wsX10_undo ({ frames := 4, cells := 0, slots := 0, locals := 105 } : Room) (va_Pc [.ref (X.2.1 0)] (xI X S)) (va_Qi (fun (r : Int32) (u : xS) => r = (f_X10_undo S).1 ∧ u = (f_X10_undo S).2) (xI X) (xA X)) 0 0 (xA X) := by
  refine Met.ofW (cc := cX10_undo) (maxL := 1) (ret := (some .int)) (by decide +kernel) rfl ?_
  intro p e s m args below meth c s₁ B hml hv
  obtain ⟨rfl, hP, hK, hN, hJ⟩ := hv
  have hx := B.exec
  have hb := B.bytes
  have hr := B.returns
  have hts := atoms_spec (ws := wsX10_undo) B.pre
  have hown : s.vm.findClass RX10 = some m.cls := findClass_of_methodNamed B.named
  have hlocks := B.notSynchronized
  have hC : xC X p m c cX10_undo 1 s _ wsX10_undo RX10 := ⟨⟨hx, hb, hml, hown, hts⟩, hK, hN, hJ⟩
  have hS : va_S (xA X) s.heap s.heap [] := va_S.rf
  have hin_X10 : ∀ w ∈ u_ws RX10 TX10 10, w ∈ wsX10_undo := by decide +kernel
  have hin_X6 : ∀ w ∈ u_ws RX6 TX6 3, w ∈ wsX10_undo := by decide +kernel
  have hl := lv_entry ([.ref (X.2.1 0)]) (n := 1) (Nat.le_of_ble_eq_true rfl)
  rw [lg_entry_eq]
  generalize (lg_sl ([.ref (X.2.1 0)]) ++ List.replicate (1 - (lg_sl ([.ref (X.2.1 0)])).length) Slot.unset).toArray = ls at hl ⊢
  have hl : lv_has ls 1 [(0, .ref (X.2.1 0))] := hl
  refine lv_aload_n hx hb dX10_undo_0 rfl (lv_at hl 0 rfl) ?_
  refine xget (ref := "AbsentPraise") (T := TX10) (v := .ref (X.2.1 27)) hC hP hin_X10 xo_X10 rfl 5 (by decide) (List.mem_of_getElem? (i := 1) rfl) rfl rfl dX10_undo_1 ?_
  refine lv_aload_n hx hb dX10_undo_4 rfl (lv_at hl 0 rfl) ?_
  refine xget (ref := "AbsentPraise") (T := TX10) (v := .ref (X.2.1 32)) hC hP hin_X10 xo_X10 rfl 2 (by decide) (List.mem_of_getElem? (i := 2) rfl) rfl rfl dX10_undo_5 ?_
  have hn_1 : s_X6_recall S 32 := (nl hs)
  refine xcV_iW (b := 27) (As := [.ref (X.2.1 32)]) (rest := []) hC hP hS (k_X6_recall l X S 32 (by decide) hn_1) (cwV 1 hts gX10_undo_X6_recall rfl rfl rfl hd_X6_recall ⟨Nat.le_of_ble_eq_true rfl, Nat.le_of_ble_eq_true rfl⟩) xo_X6 rfl rfl rfl hl.1 (Nat.le_of_ble_eq_true rfl) dX10_undo_8 (fun r_2 S_3 hp_r_2 H locs hP hS => ?_)
  obtain ⟨hr_2, hS_3, hzr_2⟩ := hp_r_2
  refine lv_if_eq (tgt := 24) hx hb dX10_undo_11 (by decide) (fun c_5 => ?_) (fun c_5 => ?_)
  · refine lv_ldc (v := (-1000000003)) hx hb hown (hts (.constant RX10 227 (-1000000003)) (List.mem_of_getElem? (i := 4) rfl)) dX10_undo_24 ?_
    exact xret_iW hC hP hS hb hr ((by have hr_2 := hr_2.symm; have hS_3 := hS_3.symm; subst hr_2 hS_3; exact (ip c_5 rfl))) dX10_undo_26 hlocks
  · refine lv_aload_n hx hb dX10_undo_14 rfl (lv_at hl 0 rfl) ?_
    refine xget (ref := "AbsentPraise") (T := TX10) (v := .ref (X.2.1 27)) hC hP hin_X10 xo_X10 rfl 5 (by decide) (List.mem_of_getElem? (i := 1) rfl) rfl rfl dX10_undo_15 ?_
    refine xget (ref := "AbsentPraise$Past") (T := TX6) (v := .int (S_3 27 2)) hC hP hin_X6 xo_X6 rfl 2 (by decide) (List.mem_of_getElem? (i := 3) rfl) rfl rfl dX10_undo_18 ?_
    refine lv_goto (tgt := 26) hx hb dX10_undo_21 (by decide) ?_
    exact xret_iW hC hP hS hb hr ((by have hr_2 := hr_2.symm; have hS_3 := hS_3.symm; subst hr_2 hS_3; exact (iN c_5 rfl))) dX10_undo_26 hlocks
theorem hd_X10_warm : yX10_warm.cls = RX10 ∧ yX10_warm.cls ≠ "java/lang/invoke/MethodHandle" ∧ yX10_warm.cls ≠ "java/lang/invoke/VarHandle" ∧ (parseMethodDescriptor yX10_warm.desc).map (fun d => d.parameters.length) = some 2 := by decide +kernel
set_option maxHeartbeats 4000000 in
set_option maxRecDepth 100000 in
theorem k_X10_warm (l : Launch) (X : xX) (S : xS) (p0 : Int32) (p1 : Int32) (hs : s_X10_warm S p0 p1) : Met l yX10_warm wsX10_warm ({ frames := 5, cells := 0, slots := 0, locals := 120 } : Room) (va_Pc [.ref (X.2.1 0), .int p0, .int p1] (xI X S)) (va_Qi (fun (r : Int32) (u : xS) => r = (f_X10_warm S p0 p1) ∧ u = S) (xI X) (xA X)) 0 0 (xA X) := by
  refine Met.ofW (cc := cX10_warm) (maxL := 3) (ret := (some .int)) (by decide +kernel) rfl ?_
  intro p e s m args below meth c s₁ B hml hv
  obtain ⟨rfl, hP, hK, hN, hJ⟩ := hv
  have hx := B.exec
  have hb := B.bytes
  have hr := B.returns
  have hts := atoms_spec (ws := wsX10_warm) B.pre
  have hown : s.vm.findClass RX10 = some m.cls := findClass_of_methodNamed B.named
  have hlocks := B.notSynchronized
  have hC : xC X p m c cX10_warm 3 s _ wsX10_warm RX10 := ⟨⟨hx, hb, hml, hown, hts⟩, hK, hN, hJ⟩
  have hS : va_S (xA X) s.heap s.heap [] := va_S.rf
  have hin_X10 : ∀ w ∈ u_ws RX10 TX10 10, w ∈ wsX10_warm := by decide +kernel
  have hin_X7 : ∀ w ∈ u_ws RX7 TX7 6, w ∈ wsX10_warm := by decide +kernel
  have hl := lv_entry ([.ref (X.2.1 0), .int p0, .int p1]) (n := 3) (Nat.le_of_ble_eq_true rfl)
  rw [lg_entry_eq]
  generalize (lg_sl ([.ref (X.2.1 0), .int p0, .int p1]) ++ List.replicate (3 - (lg_sl ([.ref (X.2.1 0), .int p0, .int p1])).length) Slot.unset).toArray = ls at hl ⊢
  have hl : lv_has ls 3 [(0, .ref (X.2.1 0)), (1, .int p0), (2, .int p1)] := hl
  refine lv_aload_n hx hb dX10_warm_0 rfl (lv_at hl 0 rfl) ?_
  refine xget (ref := "AbsentPraise") (T := TX10) (v := .ref (X.2.1 9)) hC hP hin_X10 xo_X10 rfl 1 (by decide) (List.mem_of_getElem? (i := 1) rfl) rfl rfl dX10_warm_1 ?_
  refine lv_iload_n hx hb dX10_warm_4 rfl (lv_at hl 1 rfl) ?_
  refine xcV_iR (b := 9) (As := [.int p0]) (rest := []) hC hP hS (k_X2_isPerson l X S 9 p0 (by decide)) (cwV 1 hts gX10_warm_X2_isPerson rfl rfl rfl hd_X2_isPerson ⟨Nat.le_of_ble_eq_true rfl, Nat.le_of_ble_eq_true rfl⟩) (xo_H (by decide)) rfl rfl rfl hl.1 (Nat.le_of_ble_eq_true rfl) dX10_warm_5 (fun r_1 hp_r_1 H locs hP hS => ?_)
  obtain ⟨hr_1, hzr_1⟩ := hp_r_1
  refine lv_if_ne (tgt := 14) hx hb dX10_warm_8 (by decide) (fun c_2 => ?_) (fun c_2 => ?_)
  · refine lv_iload_n hx hb dX10_warm_14 rfl (lv_at hl 2 rfl) ?_
    refine lv_iconst (v := 0) hx hb dX10_warm_15 (by decide) ?_
    refine lv_bipush (v := 100) hx hb dX10_warm_16 (by decide) ?_
    refine xcS_iR (As := [.int p1, .int 0, .int 100]) (rest := []) hC hP hS (k_X10_within l X S p1 0 100) (va_cwS 3 hts gX10_warm_X10_within rfl rfl rfl hs_X10_within ⟨Nat.le_of_ble_eq_true rfl, Nat.le_of_ble_eq_true rfl⟩) rfl rfl hl.1 (Nat.le_of_ble_eq_true rfl) dX10_warm_18 (fun r_3 hp_r_3 H locs hP hS => ?_)
    obtain ⟨hr_3, hzr_3⟩ := hp_r_3
    refine lv_if_ne (tgt := 27) hx hb dX10_warm_21 (by decide) (fun c_4 => ?_) (fun c_4 => ?_)
    · refine lv_aload_n hx hb dX10_warm_27 rfl (lv_at hl 0 rfl) ?_
      refine xget (ref := "AbsentPraise") (T := TX10) (v := .ref (X.2.1 16)) hC hP hin_X10 xo_X10 rfl 4 (by decide) (List.mem_of_getElem? (i := 4) rfl) rfl rfl dX10_warm_28 ?_
      refine lv_iload_n hx hb dX10_warm_31 rfl (lv_at hl 1 rfl) ?_
      refine lv_aload_n hx hb dX10_warm_32 rfl (lv_at hl 0 rfl) ?_
      refine xget (ref := "AbsentPraise") (T := TX10) (v := .ref (X.2.1 32)) hC hP hin_X10 xo_X10 rfl 2 (by decide) (List.mem_of_getElem? (i := 5) rfl) rfl rfl dX10_warm_33 ?_
      refine xget (ref := "AbsentPraise$Talk") (T := TX7) (v := .ref (X.2.1 33)) hC hP hin_X7 (xo_T (by decide)) rfl 0 (by decide) (List.mem_of_getElem? (i := 6) rfl) rfl rfl dX10_warm_36 ?_
      refine lv_iload_n hx hb dX10_warm_39 rfl (lv_at hl 1 rfl) ?_
      refine xcS_iR (As := [.ref (X.2.1 33), .int p0]) (rest := [.int p0, .ref (X.2.1 16)]) hC hP hS (k_X10_at l X S 33 p0 rfl) (va_cwS 2 hts gX10_warm_X10_at rfl rfl rfl hs_X10_at ⟨Nat.le_of_ble_eq_true rfl, Nat.le_of_ble_eq_true rfl⟩) rfl rfl hl.1 (Nat.le_of_ble_eq_true rfl) dX10_warm_40 (fun r_5 hr_5 H locs hP hS => ?_)
      refine lv_iload_n hx hb dX10_warm_43 rfl (lv_at hl 2 rfl) ?_
      have hn_6 : s_X9_warmBehind S p0 r_5 p1 := (by have hr_1 := hr_1.symm; have hr_3 := hr_3.symm; have hr_5 := hr_5.symm; subst hr_1 hr_3 hr_5; exact nl (sn (sn hs c_2) c_4))
      refine xcV_iR (b := 16) (As := [.int p0, .int r_5, .int p1]) (rest := []) hC hP hS (k_X9_warmBehind l X S p0 r_5 p1 hn_6) (cwV 3 hts gX10_warm_X9_warmBehind rfl rfl rfl hd_X9_warmBehind ⟨Nat.le_of_ble_eq_true rfl, Nat.le_of_ble_eq_true rfl⟩) xo_X9 rfl rfl rfl hl.1 (Nat.le_of_ble_eq_true rfl) dX10_warm_44 (fun r_7 hr_7 H locs hP hS => ?_)
      refine lv_sipush (v := 10000) hx hb dX10_warm_47 (by decide) ?_
      refine lv_iadd hx hb dX10_warm_50 ?_
      exact xret_iR hC hP hS hb hr ((by have hr_1 := hr_1.symm; have hr_3 := hr_3.symm; have hr_5 := hr_5.symm; have hr_7 := hr_7.symm; subst hr_1 hr_3 hr_5 hr_7; exact (iN c_2 (iN c_4 rfl)))) dX10_warm_51 hlocks
    · refine lv_ldc (v := (-1000000002)) hx hb hown (hts (.constant RX10 87 (-1000000002)) (List.mem_of_getElem? (i := 3) rfl)) dX10_warm_24 ?_
      exact xret_iR hC hP hS hb hr ((by have hr_1 := hr_1.symm; have hr_3 := hr_3.symm; subst hr_1 hr_3; exact (iN c_2 (ip c_4 rfl)))) dX10_warm_26 hlocks
  · refine lv_ldc (v := (-1000000001)) hx hb hown (hts (.constant RX10 162 (-1000000001)) (List.mem_of_getElem? (i := 2) rfl)) dX10_warm_11 ?_
    exact xret_iR hC hP hS hb hr ((by have hr_1 := hr_1.symm; subst hr_1; exact (ip c_2 rfl))) dX10_warm_13 hlocks
theorem hd_X10_bestRoom : yX10_bestRoom.cls = RX10 ∧ yX10_bestRoom.cls ≠ "java/lang/invoke/MethodHandle" ∧ yX10_bestRoom.cls ≠ "java/lang/invoke/VarHandle" ∧ (parseMethodDescriptor yX10_bestRoom.desc).map (fun d => d.parameters.length) = some 3 := by decide +kernel
set_option maxHeartbeats 4000000 in
set_option maxRecDepth 100000 in
theorem k_X10_bestRoom (l : Launch) (X : xX) (S : xS) (p0 : Int32) (p1 : Int32) (p2 : Int32) (hs : s_X10_bestRoom S p0 p1 p2) : Met l yX10_bestRoom wsX10_bestRoom ({ frames := 6, cells := 0, slots := 0, locals := 146 } : Room) (va_Pc [.ref (X.2.1 0), .int p0, .int p1, .int p2] (xI X S)) (va_Qi (fun (r : Int32) (u : xS) => r = (f_X10_bestRoom S p0 p1 p2) ∧ u = S) (xI X) (xA X)) 0 0 (xA X) := by
  refine Met.ofW (cc := cX10_bestRoom) (maxL := 5) (ret := (some .int)) (by decide +kernel) rfl ?_
  intro p e s m args below meth c s₁ B hml hv
  obtain ⟨rfl, hP, hK, hN, hJ⟩ := hv
  have hx := B.exec
  have hb := B.bytes
  have hr := B.returns
  have hts := atoms_spec (ws := wsX10_bestRoom) B.pre
  have hown : s.vm.findClass RX10 = some m.cls := findClass_of_methodNamed B.named
  have hlocks := B.notSynchronized
  have hC : xC X p m c cX10_bestRoom 5 s _ wsX10_bestRoom RX10 := ⟨⟨hx, hb, hml, hown, hts⟩, hK, hN, hJ⟩
  have hS : va_S (xA X) s.heap s.heap [] := va_S.rf
  have hin_X10 : ∀ w ∈ u_ws RX10 TX10 10, w ∈ wsX10_bestRoom := by decide +kernel
  have hl := lv_entry ([.ref (X.2.1 0), .int p0, .int p1, .int p2]) (n := 5) (Nat.le_of_ble_eq_true rfl)
  rw [lg_entry_eq]
  generalize (lg_sl ([.ref (X.2.1 0), .int p0, .int p1, .int p2]) ++ List.replicate (5 - (lg_sl ([.ref (X.2.1 0), .int p0, .int p1, .int p2])).length) Slot.unset).toArray = ls at hl ⊢
  have hl : lv_has ls 5 [(0, .ref (X.2.1 0)), (1, .int p0), (2, .int p1), (3, .int p2)] := hl
  refine lv_aload_n hx hb dX10_bestRoom_0 rfl (lv_at hl 0 rfl) ?_
  refine xget (ref := "AbsentPraise") (T := TX10) (v := .ref (X.2.1 9)) hC hP hin_X10 xo_X10 rfl 1 (by decide) (List.mem_of_getElem? (i := 1) rfl) rfl rfl dX10_bestRoom_1 ?_
  refine lv_iload_n hx hb dX10_bestRoom_4 rfl (lv_at hl 1 rfl) ?_
  refine xcV_iR (b := 9) (As := [.int p0]) (rest := []) hC hP hS (k_X2_isPerson l X S 9 p0 (by decide)) (cwV 1 hts gX10_bestRoom_X2_isPerson rfl rfl rfl hd_X2_isPerson ⟨Nat.le_of_ble_eq_true rfl, Nat.le_of_ble_eq_true rfl⟩) (xo_H (by decide)) rfl rfl rfl hl.1 (Nat.le_of_ble_eq_true rfl) dX10_bestRoom_5 (fun r_1 hp_r_1 H locs hP hS => ?_)
  obtain ⟨hr_1, hzr_1⟩ := hp_r_1
  refine lv_if_ne (tgt := 14) hx hb dX10_bestRoom_8 (by decide) (fun c_2 => ?_) (fun c_2 => ?_)
  · refine lv_iload_n hx hb dX10_bestRoom_14 rfl (lv_at hl 2 rfl) ?_
    refine lv_iconst (v := 1) hx hb dX10_bestRoom_15 (by decide) ?_
    refine lv_bipush (v := 30) hx hb dX10_bestRoom_16 (by decide) ?_
    refine xcS_iR (As := [.int p1, .int 1, .int 30]) (rest := []) hC hP hS (k_X10_within l X S p1 1 30) (va_cwS 3 hts gX10_bestRoom_X10_within rfl rfl rfl hs_X10_within ⟨Nat.le_of_ble_eq_true rfl, Nat.le_of_ble_eq_true rfl⟩) rfl rfl hl.1 (Nat.le_of_ble_eq_true rfl) dX10_bestRoom_18 (fun r_3 hp_r_3 H locs hP hS => ?_)
    obtain ⟨hr_3, hzr_3⟩ := hp_r_3
    refine lv_if_eq (tgt := 33) hx hb dX10_bestRoom_21 (by decide) (fun c_4 => ?_) (fun c_4 => ?_)
    · refine lv_ldc (v := (-1000000002)) hx hb hown (hts (.constant RX10 87 (-1000000002)) (List.mem_of_getElem? (i := 3) rfl)) dX10_bestRoom_33 ?_
      exact xret_iR hC hP hS hb hr ((by have hr_1 := hr_1.symm; have hr_3 := hr_3.symm; subst hr_1 hr_3; exact (iN c_2 (ip c_4 rfl)))) dX10_bestRoom_35 hlocks
    · refine lv_iload_n hx hb dX10_bestRoom_24 rfl (lv_at hl 3 rfl) ?_
      refine lv_iconst (v := 0) hx hb dX10_bestRoom_25 (by decide) ?_
      refine lv_iconst (v := 1) hx hb dX10_bestRoom_26 (by decide) ?_
      refine xcS_iR (As := [.int p2, .int 0, .int 1]) (rest := []) hC hP hS (k_X10_within l X S p2 0 1) (va_cwS 3 hts gX10_bestRoom_X10_within rfl rfl rfl hs_X10_within ⟨Nat.le_of_ble_eq_true rfl, Nat.le_of_ble_eq_true rfl⟩) rfl rfl hl.1 (Nat.le_of_ble_eq_true rfl) dX10_bestRoom_27 (fun r_5 hp_r_5 H locs hP hS => ?_)
      obtain ⟨hr_5, hzr_5⟩ := hp_r_5
      refine lv_if_ne (tgt := 36) hx hb dX10_bestRoom_30 (by decide) (fun c_6 => ?_) (fun c_6 => ?_)
      · refine lv_aload_n hx hb dX10_bestRoom_36 rfl (lv_at hl 0 rfl) ?_
        refine xget (ref := "AbsentPraise") (T := TX10) (v := .ref (X.2.1 16)) hC hP hin_X10 xo_X10 rfl 4 (by decide) (List.mem_of_getElem? (i := 4) rfl) rfl rfl dX10_bestRoom_37 ?_
        refine lv_iload_n hx hb dX10_bestRoom_40 rfl (lv_at hl 1 rfl) ?_
        refine lv_iload_n hx hb dX10_bestRoom_41 rfl (lv_at hl 2 rfl) ?_
        have hn_7 : s_X9_warmestRoom S p0 p1 := (by have hr_1 := hr_1.symm; have hr_3 := hr_3.symm; have hr_5 := hr_5.symm; subst hr_1 hr_3 hr_5; exact nl (sn (sn (sn hs c_2) c_4) c_6))
        refine xcV_iR (b := 16) (As := [.int p0, .int p1]) (rest := []) hC hP hS (k_X9_warmestRoom l X S p0 p1 hn_7) (cwV 2 hts gX10_bestRoom_X9_warmestRoom rfl rfl rfl hd_X9_warmestRoom ⟨Nat.le_of_ble_eq_true rfl, Nat.le_of_ble_eq_true rfl⟩) xo_X9 rfl rfl rfl hl.1 (Nat.le_of_ble_eq_true rfl) dX10_bestRoom_42 (fun r_8 hr_8 H locs hP hS => ?_)
        refine lv_istore (lv' := [(4, .int r_8), (0, .ref (X.2.1 0)), (1, .int p0), (2, .int p1), (3, .int p2)]) hx hb dX10_bestRoom_45 hl (by decide) rfl (fun ls hl => ?_)
        refine lv_iload_n hx hb dX10_bestRoom_47 rfl (lv_at hl 4 rfl) ?_
        refine lv_if_ne (tgt := 56) hx hb dX10_bestRoom_48 (by decide) (fun c_9 => ?_) (fun c_9 => ?_)
        · refine lv_aload_n hx hb dX10_bestRoom_56 rfl (lv_at hl 1 rfl) ?_
          refine xget (ref := "AbsentPraise") (T := TX10) (v := .ref (X.2.1 16)) hC hP hin_X10 xo_X10 rfl 4 (by decide) (List.mem_of_getElem? (i := 4) rfl) rfl rfl dX10_bestRoom_57 ?_
          refine lv_iload_n hx hb dX10_bestRoom_60 rfl (lv_at hl 2 rfl) ?_
          refine lv_iload hx hb dX10_bestRoom_61 (lv_at hl 0 rfl) ?_
          refine lv_iload_n hx hb dX10_bestRoom_63 rfl (lv_at hl 3 rfl) ?_
          have hn_10 : s_X9_warmBehind S p0 r_8 p1 := (by have hr_1 := hr_1.symm; have hr_3 := hr_3.symm; have hr_5 := hr_5.symm; have hr_8 := hr_8.symm; subst hr_1 hr_3 hr_5 hr_8; exact nl (sn (nr (sn (sn (sn hs c_2) c_4) c_6)) c_9))
          refine xcV_iR (b := 16) (As := [.int p0, .int r_8, .int p1]) (rest := []) hC hP hS (k_X9_warmBehind l X S p0 r_8 p1 hn_10) (cwV 3 hts gX10_bestRoom_X9_warmBehind rfl rfl rfl hd_X9_warmBehind ⟨Nat.le_of_ble_eq_true rfl, Nat.le_of_ble_eq_true rfl⟩) xo_X9 rfl rfl rfl hl.1 (Nat.le_of_ble_eq_true rfl) dX10_bestRoom_64 (fun r_11 hr_11 H locs hP hS => ?_)
          refine lv_sipush (v := 10000) hx hb dX10_bestRoom_67 (by decide) ?_
          refine lv_iadd hx hb dX10_bestRoom_70 ?_
          exact xret_iR hC hP hS hb hr ((by have hr_1 := hr_1.symm; have hr_3 := hr_3.symm; have hr_5 := hr_5.symm; have hr_8 := hr_8.symm; have hr_11 := hr_11.symm; subst hr_1 hr_3 hr_5 hr_8 hr_11; exact (iN c_2 (iN c_4 (iN c_6 (iN c_9 rfl)))))) dX10_bestRoom_71 hlocks
        · refine lv_iload hx hb dX10_bestRoom_51 (lv_at hl 0 rfl) ?_
          refine lv_goto (tgt := 71) hx hb dX10_bestRoom_53 (by decide) ?_
          exact xret_iR hC hP hS hb hr ((by have hr_1 := hr_1.symm; have hr_3 := hr_3.symm; have hr_5 := hr_5.symm; have hr_8 := hr_8.symm; subst hr_1 hr_3 hr_5 hr_8; exact (iN c_2 (iN c_4 (iN c_6 (ip c_9 rfl)))))) dX10_bestRoom_71 hlocks
      · refine lv_ldc (v := (-1000000002)) hx hb hown (hts (.constant RX10 87 (-1000000002)) (List.mem_of_getElem? (i := 3) rfl)) dX10_bestRoom_33 ?_
        exact xret_iR hC hP hS hb hr ((by have hr_1 := hr_1.symm; have hr_3 := hr_3.symm; have hr_5 := hr_5.symm; subst hr_1 hr_3 hr_5; exact (iN c_2 (iN c_4 (ip c_6 rfl))))) dX10_bestRoom_35 hlocks
  · refine lv_ldc (v := (-1000000001)) hx hb hown (hts (.constant RX10 162 (-1000000001)) (List.mem_of_getElem? (i := 2) rfl)) dX10_bestRoom_11 ?_
    exact xret_iR hC hP hS hb hr ((by have hr_1 := hr_1.symm; subst hr_1; exact (ip c_2 rfl))) dX10_bestRoom_13 hlocks
theorem hd_X10_route : yX10_route.cls = RX10 ∧ yX10_route.cls ≠ "java/lang/invoke/MethodHandle" ∧ yX10_route.cls ≠ "java/lang/invoke/VarHandle" ∧ (parseMethodDescriptor yX10_route.desc).map (fun d => d.parameters.length) = some 3 := by decide +kernel
set_option maxHeartbeats 4000000 in
set_option maxRecDepth 100000 in
theorem k_X10_route (l : Launch) (X : xX) (S : xS) (p0 : Int32) (p1 : Int32) (p2 : Int32) (hs : s_X10_route S p0 p1 p2) : Met l yX10_route wsX10_route ({ frames := 5, cells := 0, slots := 0, locals := 119 } : Room) (va_Pc [.ref (X.2.1 0), .int p0, .int p1, .int p2] (xI X S)) (va_Qi (fun (r : Int32) (u : xS) => r = (f_X10_route S p0 p1 p2).1 ∧ u = (f_X10_route S p0 p1 p2).2) (xI X) (xA X)) 0 0 (xA X) := by
  refine Met.ofW (cc := cX10_route) (maxL := 5) (ret := (some .int)) (by decide +kernel) rfl ?_
  intro p e s m args below meth c s₁ B hml hv
  obtain ⟨rfl, hP, hK, hN, hJ⟩ := hv
  have hx := B.exec
  have hb := B.bytes
  have hr := B.returns
  have hts := atoms_spec (ws := wsX10_route) B.pre
  have hown : s.vm.findClass RX10 = some m.cls := findClass_of_methodNamed B.named
  have hlocks := B.notSynchronized
  have hC : xC X p m c cX10_route 5 s _ wsX10_route RX10 := ⟨⟨hx, hb, hml, hown, hts⟩, hK, hN, hJ⟩
  have hS : va_S (xA X) s.heap s.heap [] := va_S.rf
  have hin_X10 : ∀ w ∈ u_ws RX10 TX10 10, w ∈ wsX10_route := by decide +kernel
  have hl := lv_entry ([.ref (X.2.1 0), .int p0, .int p1, .int p2]) (n := 5) (Nat.le_of_ble_eq_true rfl)
  rw [lg_entry_eq]
  generalize (lg_sl ([.ref (X.2.1 0), .int p0, .int p1, .int p2]) ++ List.replicate (5 - (lg_sl ([.ref (X.2.1 0), .int p0, .int p1, .int p2])).length) Slot.unset).toArray = ls at hl ⊢
  have hl : lv_has ls 5 [(0, .ref (X.2.1 0)), (1, .int p0), (2, .int p1), (3, .int p2)] := hl
  refine lv_aload_n hx hb dX10_route_0 rfl (lv_at hl 0 rfl) ?_
  refine xget (ref := "AbsentPraise") (T := TX10) (v := .ref (X.2.1 9)) hC hP hin_X10 xo_X10 rfl 1 (by decide) (List.mem_of_getElem? (i := 1) rfl) rfl rfl dX10_route_1 ?_
  refine lv_iload_n hx hb dX10_route_4 rfl (lv_at hl 1 rfl) ?_
  refine xcV_iR (b := 9) (As := [.int p0]) (rest := []) hC hP hS (k_X2_isPerson l X S 9 p0 (by decide)) (cwV 1 hts gX10_route_X2_isPerson rfl rfl rfl hd_X2_isPerson ⟨Nat.le_of_ble_eq_true rfl, Nat.le_of_ble_eq_true rfl⟩) (xo_H (by decide)) rfl rfl rfl hl.1 (Nat.le_of_ble_eq_true rfl) dX10_route_5 (fun r_1 hp_r_1 H locs hP hS => ?_)
  obtain ⟨hr_1, hzr_1⟩ := hp_r_1
  refine lv_if_ne (tgt := 14) hx hb dX10_route_8 (by decide) (fun c_2 => ?_) (fun c_2 => ?_)
  · refine lv_iload_n hx hb dX10_route_14 rfl (lv_at hl 2 rfl) ?_
    refine lv_iconst (v := 1) hx hb dX10_route_15 (by decide) ?_
    refine lv_bipush (v := 8) hx hb dX10_route_16 (by decide) ?_
    refine xcS_iR (As := [.int p1, .int 1, .int 8]) (rest := []) hC hP hS (k_X10_within l X S p1 1 8) (va_cwS 3 hts gX10_route_X10_within rfl rfl rfl hs_X10_within ⟨Nat.le_of_ble_eq_true rfl, Nat.le_of_ble_eq_true rfl⟩) rfl rfl hl.1 (Nat.le_of_ble_eq_true rfl) dX10_route_18 (fun r_3 hp_r_3 H locs hP hS => ?_)
    obtain ⟨hr_3, hzr_3⟩ := hp_r_3
    refine lv_if_eq (tgt := 33) hx hb dX10_route_21 (by decide) (fun c_4 => ?_) (fun c_4 => ?_)
    · refine lv_ldc (v := (-1000000002)) hx hb hown (hts (.constant RX10 87 (-1000000002)) (List.mem_of_getElem? (i := 3) rfl)) dX10_route_33 ?_
      exact xret_iW hC hP hS hb hr ((by have hr_1 := hr_1.symm; have hr_3 := hr_3.symm; subst hr_1 hr_3; exact (iN c_2 (ip c_4 rfl)))) dX10_route_35 hlocks
    · refine lv_iload_n hx hb dX10_route_24 rfl (lv_at hl 3 rfl) ?_
      refine lv_iconst (v := 0) hx hb dX10_route_25 (by decide) ?_
      refine lv_iconst (v := 1) hx hb dX10_route_26 (by decide) ?_
      refine xcS_iR (As := [.int p2, .int 0, .int 1]) (rest := []) hC hP hS (k_X10_within l X S p2 0 1) (va_cwS 3 hts gX10_route_X10_within rfl rfl rfl hs_X10_within ⟨Nat.le_of_ble_eq_true rfl, Nat.le_of_ble_eq_true rfl⟩) rfl rfl hl.1 (Nat.le_of_ble_eq_true rfl) dX10_route_27 (fun r_5 hp_r_5 H locs hP hS => ?_)
      obtain ⟨hr_5, hzr_5⟩ := hp_r_5
      refine lv_if_ne (tgt := 36) hx hb dX10_route_30 (by decide) (fun c_6 => ?_) (fun c_6 => ?_)
      · refine lv_aload_n hx hb dX10_route_36 rfl (lv_at hl 0 rfl) ?_
        refine xget (ref := "AbsentPraise") (T := TX10) (v := .ref (X.2.1 16)) hC hP hin_X10 xo_X10 rfl 4 (by decide) (List.mem_of_getElem? (i := 4) rfl) rfl rfl dX10_route_37 ?_
        refine lv_iload_n hx hb dX10_route_40 rfl (lv_at hl 1 rfl) ?_
        refine lv_iload_n hx hb dX10_route_41 rfl (lv_at hl 2 rfl) ?_
        have hn_7 : s_X9_firstOfRoute S p0 p1 := (by have hr_1 := hr_1.symm; have hr_3 := hr_3.symm; have hr_5 := hr_5.symm; subst hr_1 hr_3 hr_5; exact nl (sn (sn (sn hs c_2) c_4) c_6))
        refine xcV_iW (b := 16) (As := [.int p0, .int p1]) (rest := []) hC hP hS (k_X9_firstOfRoute l X S p0 p1 hn_7) (cwV 2 hts gX10_route_X9_firstOfRoute rfl rfl rfl hd_X9_firstOfRoute ⟨Nat.le_of_ble_eq_true rfl, Nat.le_of_ble_eq_true rfl⟩) xo_X9 rfl rfl rfl hl.1 (Nat.le_of_ble_eq_true rfl) dX10_route_42 (fun r_8 S_9 hp_r_8 H locs hP hS => ?_)
        obtain ⟨hr_8, hS_9⟩ := hp_r_8
        refine lv_istore (lv' := [(4, .int r_8), (0, .ref (X.2.1 0)), (1, .int p0), (2, .int p1), (3, .int p2)]) hx hb dX10_route_45 hl (by decide) rfl (fun ls hl => ?_)
        refine lv_iload_n hx hb dX10_route_47 rfl (lv_at hl 4 rfl) ?_
        refine lv_if_ne (tgt := 67) hx hb dX10_route_48 (by decide) (fun c_11 => ?_) (fun c_11 => ?_)
        · refine lv_iload hx hb dX10_route_67 (lv_at hl 0 rfl) ?_
          exact xret_iW hC hP hS hb hr ((by have hr_1 := hr_1.symm; have hr_3 := hr_3.symm; have hr_5 := hr_5.symm; have hr_8 := hr_8.symm; have hS_9 := hS_9.symm; subst hr_1 hr_3 hr_5 hr_8 hS_9; exact (iN c_2 (iN c_4 (iN c_6 (iN c_11 rfl)))))) dX10_route_69 hlocks
        · refine lv_aload_n hx hb dX10_route_51 rfl (lv_at hl 1 rfl) ?_
          refine xget (ref := "AbsentPraise") (T := TX10) (v := .ref (X.2.1 16)) hC hP hin_X10 xo_X10 rfl 4 (by decide) (List.mem_of_getElem? (i := 4) rfl) rfl rfl dX10_route_52 ?_
          refine lv_iload hx hb dX10_route_55 (lv_at hl 0 rfl) ?_
          refine xcV_iR (b := 16) (As := [.int r_8]) (rest := []) hC hP hS (k_X9_worthOf l X S_9 r_8) (cwV 1 hts gX10_route_X9_worthOf rfl rfl rfl hd_X9_worthOf ⟨Nat.le_of_ble_eq_true rfl, Nat.le_of_ble_eq_true rfl⟩) xo_X9 rfl rfl rfl hl.1 (Nat.le_of_ble_eq_true rfl) dX10_route_57 (fun r_12 hr_12 H locs hP hS => ?_)
          refine lv_sipush (v := 10000) hx hb dX10_route_60 (by decide) ?_
          refine lv_iadd hx hb dX10_route_63 ?_
          refine lv_goto (tgt := 69) hx hb dX10_route_64 (by decide) ?_
          exact xret_iW hC hP hS hb hr ((by have hr_1 := hr_1.symm; have hr_3 := hr_3.symm; have hr_5 := hr_5.symm; have hr_8 := hr_8.symm; have hS_9 := hS_9.symm; have hr_12 := hr_12.symm; subst hr_1 hr_3 hr_5 hr_8 hS_9 hr_12; exact (iN c_2 (iN c_4 (iN c_6 (ip c_11 rfl)))))) dX10_route_69 hlocks
      · refine lv_ldc (v := (-1000000002)) hx hb hown (hts (.constant RX10 87 (-1000000002)) (List.mem_of_getElem? (i := 3) rfl)) dX10_route_33 ?_
        exact xret_iW hC hP hS hb hr ((by have hr_1 := hr_1.symm; have hr_3 := hr_3.symm; have hr_5 := hr_5.symm; subst hr_1 hr_3 hr_5; exact (iN c_2 (iN c_4 (ip c_6 rfl))))) dX10_route_35 hlocks
  · refine lv_ldc (v := (-1000000001)) hx hb hown (hts (.constant RX10 162 (-1000000001)) (List.mem_of_getElem? (i := 2) rfl)) dX10_route_11 ?_
    exact xret_iW hC hP hS hb hr ((by have hr_1 := hr_1.symm; subst hr_1; exact (ip c_2 rfl))) dX10_route_13 hlocks
