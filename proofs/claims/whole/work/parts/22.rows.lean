set_option linter.all false
/-! contracts: X10_hill, X10_fault, X10_told, X10_room, X10_person, X10_liking -/
theorem hd_X10_hill : yX10_hill.cls = RX10 ∧ yX10_hill.cls ≠ "java/lang/invoke/MethodHandle" ∧ yX10_hill.cls ≠ "java/lang/invoke/VarHandle" ∧ (parseMethodDescriptor yX10_hill.desc).map (fun d => d.parameters.length) = some 0 := by decide +kernel
set_option maxHeartbeats 4000000 in
set_option maxRecDepth 100000 in
theorem k_X10_hill (l : Launch) (X : xX) (S : xS) (hs : s_X10_hill S) : Met l yX10_hill wsX10_hill ({ frames := 6, cells := 0, slots := 0, locals := 129 } : Room) (va_Pc [.ref (X.2.1 0)] (xI X S)) (va_Qi (fun (r : Int32) (u : xS) => r = (f_X10_hill S).1 ∧ u = (f_X10_hill S).2) (xI X) (xA X)) 0 0 (xA X) := by
  refine Met.ofW (cc := cX10_hill) (maxL := 3) (ret := (some .int)) (by decide +kernel) rfl ?_
  intro p e s m args below meth c s₁ B hml hv
  obtain ⟨rfl, hP, hK, hN, hJ⟩ := hv
  have hx := B.exec
  have hb := B.bytes
  have hr := B.returns
  have hts := atoms_spec (ws := wsX10_hill) B.pre
  have hown : s.vm.findClass RX10 = some m.cls := findClass_of_methodNamed B.named
  have hlocks := B.notSynchronized
  have hC : xC X p m c cX10_hill 3 s _ wsX10_hill RX10 := ⟨⟨hx, hb, hml, hown, hts⟩, hK, hN, hJ⟩
  have hS : va_S (xA X) s.heap s.heap [] := va_S.rf
  have hin_X0 : ∀ w ∈ u_ws RX0 TX0 3, w ∈ wsX10_hill := by decide +kernel
  have hin_X10 : ∀ w ∈ u_ws RX10 TX10 10, w ∈ wsX10_hill := by decide +kernel
  have hin_X2 : ∀ w ∈ u_ws RX2 TX2 10, w ∈ wsX10_hill := by decide +kernel
  have hin_X3 : ∀ w ∈ u_ws RX3 TX3 3, w ∈ wsX10_hill := by decide +kernel
  have hin_X5 : ∀ w ∈ u_ws RX5 TX5 4, w ∈ wsX10_hill := by decide +kernel
  have hin_X8 : ∀ w ∈ u_ws RX8 TX8 8, w ∈ wsX10_hill := by decide +kernel
  have hl := lv_entry ([.ref (X.2.1 0)]) (n := 3) (Nat.le_of_ble_eq_true rfl)
  rw [lg_entry_eq]
  generalize (lg_sl ([.ref (X.2.1 0)]) ++ List.replicate (3 - (lg_sl ([.ref (X.2.1 0)])).length) Slot.unset).toArray = ls at hl ⊢
  have hl : lv_has ls 3 [(0, .ref (X.2.1 0))] := hl
  refine lv_aload_n hx hb dX10_hill_0 rfl (lv_at hl 0 rfl) ?_
  refine xget (ref := "AbsentPraise") (T := TX10) (v := .ref (X.2.1 1)) hC hP hin_X10 xo_X10 rfl 0 (by decide) (List.mem_of_getElem? (i := 1) rfl) rfl rfl dX10_hill_1 ?_
  have hn_1 : s_X8_read S := (nl hs)
  refine xcV_iW (b := 1) (As := []) (rest := []) hC hP hS (k_X8_read l X S hn_1) (cwV 0 hts gX10_hill_X8_read rfl rfl rfl hd_X8_read ⟨Nat.le_of_ble_eq_true rfl, Nat.le_of_ble_eq_true rfl⟩) xo_X8 rfl rfl rfl hl.1 (Nat.le_of_ble_eq_true rfl) dX10_hill_4 (fun r_2 S_3 hp_r_2 H locs hP hS => ?_)
  obtain ⟨hr_2, hS_3, hzr_2⟩ := hp_r_2
  refine lv_istore_n (lv' := [(1, .int r_2), (0, .ref (X.2.1 0))]) hx hb dX10_hill_7 rfl hl (by decide) rfl (fun ls hl => ?_)
  refine lv_aload_n hx hb dX10_hill_8 rfl (lv_at hl 1 rfl) ?_
  refine xget (ref := "AbsentPraise") (T := TX10) (v := .ref (X.2.1 1)) hC hP hin_X10 xo_X10 rfl 0 (by decide) (List.mem_of_getElem? (i := 1) rfl) rfl rfl dX10_hill_9 ?_
  refine lv_iconst (v := 0) hx hb dX10_hill_12 (by decide) ?_
  refine xput (ref := "AbsentPraise$Telling") (T := TX8) (ty := .int) hC hP hS (by decide) hin_X8 tyX8 tyX8_ok nmX8 xo_X8 rfl 2 (by decide) (List.mem_of_getElem? (i := 2) rfl) rfl rfl rfl rfl rfl (Nat.le_of_ble_eq_true rfl) dX10_hill_13 rfl (fun S_5 hS_5 H locs hP hS => ?_)
  refine lv_iload_n hx hb dX10_hill_16 rfl (lv_at hl 0 rfl) ?_
  refine lv_if_ne (tgt := 31) hx hb dX10_hill_17 (by decide) (fun c_6 => ?_) (fun c_6 => ?_)
  · refine lv_aload_n hx hb dX10_hill_31 rfl (lv_at hl 1 rfl) ?_
    refine xget (ref := "AbsentPraise") (T := TX10) (v := .ref (X.2.1 9)) hC hP hin_X10 xo_X10 rfl 1 (by decide) (List.mem_of_getElem? (i := 4) rfl) rfl rfl dX10_hill_32 ?_
    refine lv_aload_n hx hb dX10_hill_35 rfl (lv_at hl 1 rfl) ?_
    refine xget (ref := "AbsentPraise") (T := TX10) (v := .ref (X.2.1 1)) hC hP hin_X10 xo_X10 rfl 0 (by decide) (List.mem_of_getElem? (i := 1) rfl) rfl rfl dX10_hill_36 ?_
    refine xget (ref := "AbsentPraise$Telling") (T := TX8) (v := .ref (X.2.1 3)) hC hP hin_X8 xo_X8 rfl 1 (by decide) (List.mem_of_getElem? (i := 5) rfl) rfl rfl dX10_hill_39 ?_
    have hn_7 : s_X2_copyFrom S_5 9 3 := (by have hr_2 := hr_2.symm; have hS_3 := hS_3.symm; have hS_5 := hS_5.symm; subst hr_2 hS_3 hS_5; exact nl (sn (nr hs) c_6))
    refine xcV_vW (b := 9) (As := [.ref (X.2.1 3)]) (rest := []) hC hP hS (k_X2_copyFrom l X S_5 9 3 (by decide) (by decide) hn_7) (cwV 1 hts gX10_hill_X2_copyFrom rfl rfl rfl hd_X2_copyFrom ⟨Nat.le_of_ble_eq_true rfl, Nat.le_of_ble_eq_true rfl⟩) (xo_H (by decide)) rfl rfl rfl hl.1 (Nat.le_of_ble_eq_true rfl) dX10_hill_42 (fun S_8 hS_8 H locs hP hS => ?_)
    refine lv_aload_n hx hb dX10_hill_45 rfl (lv_at hl 1 rfl) ?_
    refine xget (ref := "AbsentPraise") (T := TX10) (v := .ref (X.2.1 32)) hC hP hin_X10 xo_X10 rfl 2 (by decide) (List.mem_of_getElem? (i := 6) rfl) rfl rfl dX10_hill_46 ?_
    refine lv_aload_n hx hb dX10_hill_49 rfl (lv_at hl 1 rfl) ?_
    refine xget (ref := "AbsentPraise") (T := TX10) (v := .ref (X.2.1 9)) hC hP hin_X10 xo_X10 rfl 1 (by decide) (List.mem_of_getElem? (i := 4) rfl) rfl rfl dX10_hill_50 ?_
    have hn_9 : s_X7_begin S_8 32 9 := (by have hr_2 := hr_2.symm; have hS_3 := hS_3.symm; have hS_5 := hS_5.symm; have hS_8 := hS_8.symm; subst hr_2 hS_3 hS_5 hS_8; exact nl (nr (sn (nr hs) c_6)))
    refine xcV_vW (b := 32) (As := [.ref (X.2.1 9)]) (rest := []) hC hP hS (k_X7_begin l X S_8 32 9 (by decide) (by decide) hn_9) (cwV 1 hts gX10_hill_X7_begin rfl rfl rfl hd_X7_begin ⟨Nat.le_of_ble_eq_true rfl, Nat.le_of_ble_eq_true rfl⟩) (xo_T (by decide)) rfl rfl rfl hl.1 (Nat.le_of_ble_eq_true rfl) dX10_hill_53 (fun S_10 hS_10 H locs hP hS => ?_)
    refine lv_aload_n hx hb dX10_hill_56 rfl (lv_at hl 1 rfl) ?_
    refine xget (ref := "AbsentPraise") (T := TX10) (v := .ref (X.2.1 19)) hC hP hin_X10 xo_X10 rfl 6 (by decide) (List.mem_of_getElem? (i := 7) rfl) rfl rfl dX10_hill_57 ?_
    refine lv_iconst (v := 0) hx hb dX10_hill_60 (by decide) ?_
    refine xput (ref := "AbsentPraise$Notes") (T := TX5) (ty := .int) hC hP hS (by decide) hin_X5 tyX5 tyX5_ok nmX5 xo_X5 rfl 3 (by decide) (List.mem_of_getElem? (i := 8) rfl) rfl rfl rfl rfl rfl (Nat.le_of_ble_eq_true rfl) dX10_hill_61 rfl (fun S_11 hS_11 H locs hP hS => ?_)
    refine lv_aload_n hx hb dX10_hill_64 rfl (lv_at hl 1 rfl) ?_
    refine xget (ref := "AbsentPraise") (T := TX10) (v := .ref (X.2.1 23)) hC hP hin_X10 xo_X10 rfl 7 (by decide) (List.mem_of_getElem? (i := 9) rfl) rfl rfl dX10_hill_65 ?_
    refine lv_iconst (v := 0) hx hb dX10_hill_68 (by decide) ?_
    refine xput (ref := "AbsentPraise$Book") (T := TX0) (ty := .int) hC hP hS (by decide) hin_X0 tyX0 tyX0_ok nmX0 xo_X0 rfl 2 (by decide) (List.mem_of_getElem? (i := 10) rfl) rfl rfl rfl rfl rfl (Nat.le_of_ble_eq_true rfl) dX10_hill_69 rfl (fun S_12 hS_12 H locs hP hS => ?_)
    refine lv_aload_n hx hb dX10_hill_72 rfl (lv_at hl 1 rfl) ?_
    refine xget (ref := "AbsentPraise") (T := TX10) (v := .ref (X.2.1 27)) hC hP hin_X10 xo_X10 rfl 5 (by decide) (List.mem_of_getElem? (i := 11) rfl) rfl rfl dX10_hill_73 ?_
    refine xcV_vW (b := 27) (As := []) (rest := []) hC hP hS (k_X6_forget l X S_12) (cwV 0 hts gX10_hill_X6_forget rfl rfl rfl hd_X6_forget ⟨Nat.le_of_ble_eq_true rfl, Nat.le_of_ble_eq_true rfl⟩) xo_X6 rfl rfl rfl hl.1 (Nat.le_of_ble_eq_true rfl) dX10_hill_76 (fun S_13 hS_13 H locs hP hS => ?_)
    refine lv_iconst (v := 0) hx hb dX10_hill_79 (by decide) ?_
    refine lv_istore_n (lv' := [(2, .int 0), (1, .int r_2), (0, .ref (X.2.1 0))]) hx hb dX10_hill_80 rfl hl (by decide) rfl (fun ls hl => ?_)
    have hLp_81 : ∀ (n : Nat) (T_81 : xS) (x2_81 : Int32), s_X10_hill_L81 n T_81 x2_81 → (∀ q : xS, q = f_X10_hill_L81 n T_81 x2_81 → (∀ (H : Heap) (locs : List Loc), va_P X.1 vwCl (xW X q) H → va_S (xA X) s.heap H locs → ∀ (ls : Array Slot), lv_has ls 3 [(0, .ref (X.2.1 0))] → W p l e ({ frames := 6, cells := 0, slots := 0, locals := 129 } : Room) s m ([.ref (X.2.1 0)] : List Value).toArray below meth c H locs 0 0 (MQ below (va_Qi (fun (r : Int32) (u : xS) => r = (f_X10_hill S).1 ∧ u = (f_X10_hill S).2) (xI X) (xA X)) ([.ref (X.2.1 0)] : List Value).toArray s 0 0 (xA X)) (F0 m 115 ls []))) → ∀ (H : Heap) (locs : List Loc), va_P X.1 vwCl (xW X T_81) H → va_S (xA X) s.heap H locs → ∀ (ls : Array Slot), lv_has ls 3 [(0, .ref (X.2.1 0)), (2, .int x2_81)] → W p l e ({ frames := 6, cells := 0, slots := 0, locals := 129 } : Room) s m ([.ref (X.2.1 0)] : List Value).toArray below meth c H locs 0 0 (MQ below (va_Qi (fun (r : Int32) (u : xS) => r = (f_X10_hill S).1 ∧ u = (f_X10_hill S).2) (xI X) (xA X)) ([.ref (X.2.1 0)] : List Value).toArray s 0 0 (xA X)) (F0 m 81 ls []) := by
      intro n
      induction n with
      | zero => intro T_81 x2_81 hs; exact hs.elim
      | succ n ih_81 =>
        intro T_81 x2_81 hs_81 hex_81 H locs hP hS ls hl
        refine lv_iload_n hx hb dX10_hill_81 rfl (lv_at hl 1 rfl) ?_
        refine lv_aload_n hx hb dX10_hill_82 rfl (lv_at hl 0 rfl) ?_
        refine xget (ref := "AbsentPraise") (T := TX10) (v := .ref (X.2.1 29)) hC hP hin_X10 xo_X10 rfl 9 (by decide) (List.mem_of_getElem? (i := 12) rfl) rfl rfl dX10_hill_83 ?_
        refine xalen29 hC hP dX10_hill_86 ?_
        refine lv_icmp_ge (tgt := 115) hx hb dX10_hill_87 (by decide) (fun c_14 => ?_) (fun c_14 => ?_)
        · have he_15 : f_X10_hill_L81 (n + 1) T_81 x2_81 = T_81 := ((ip c_14 rfl))
          exact hex_81 _ he_15.symm _ _ hP hS ls (lv_sub hl [0] rfl)
        · refine lv_aload_n hx hb dX10_hill_90 rfl (lv_at hl 0 rfl) ?_
          refine xget (ref := "AbsentPraise") (T := TX10) (v := .ref (X.2.1 29)) hC hP hin_X10 xo_X10 rfl 9 (by decide) (List.mem_of_getElem? (i := 12) rfl) rfl rfl dX10_hill_91 ?_
          refine lv_iload_n hx hb dX10_hill_94 rfl (lv_at hl 1 rfl) ?_
          have hn_16 : vp_in x2_81 2 := (nl (sn hs_81 c_14))
          refine xaald29 hC hP hn_16 dX10_hill_95 (fun hk_17 => ?_)
          refine lv_ifnull hx hb dX10_hill_96 ?_
          refine lv_aload_n hx hb dX10_hill_99 rfl (lv_at hl 0 rfl) ?_
          refine xget (ref := "AbsentPraise") (T := TX10) (v := .ref (X.2.1 29)) hC hP hin_X10 xo_X10 rfl 9 (by decide) (List.mem_of_getElem? (i := 12) rfl) rfl rfl dX10_hill_100 ?_
          refine lv_iload_n hx hb dX10_hill_103 rfl (lv_at hl 1 rfl) ?_
          refine xaald29 hC hP hn_16 dX10_hill_104 (fun hk_18 => ?_)
          refine lv_iconst (v := 0) hx hb dX10_hill_105 (by decide) ?_
          refine xput (ref := "AbsentPraise$Image") (T := TX3) (ty := .boolean) hC hP hS (isM_lt hk_18) hin_X3 tyX3 tyX3_ok nmX3 (xo_M hk_18) rfl 2 (by decide) (List.mem_of_getElem? (i := 13) rfl) rfl rfl rfl rfl rfl (Nat.le_of_ble_eq_true rfl) dX10_hill_106 (xn_X3_2 hk_18) (fun S_19 hS_19 H locs hP hS => ?_)
          refine lv_iinc (v := (x2_81 + 1)) (lv' := [(2, .int (x2_81 + 1)), (0, .ref (X.2.1 0))]) hx hb dX10_hill_109 hl (k := 1) rfl rfl (by decide) rfl (fun ls hl => ?_)
          refine lv_goto (tgt := 81) hx hb dX10_hill_112 (by decide) ?_
          have he_20 : f_X10_hill_L81 (n + 1) T_81 x2_81 = f_X10_hill_L81 n S_19 (x2_81 + 1) := (by have hS_19 := hS_19.symm; subst hS_19; exact (iN c_14 rfl))
          exact ih_81 S_19 (x2_81 + 1) (by have hS_19 := hS_19.symm; subst hS_19; exact (nr (sn hs_81 c_14))) (fun q hq => hex_81 q (hq.trans he_20.symm)) _ _ hP hS ls (lv_sub hl [1, 0] rfl)
    refine hLp_81 ((fu 0 (nI 2))) S_13 0 (by have hr_2 := hr_2.symm; have hS_3 := hS_3.symm; have hS_5 := hS_5.symm; have hS_8 := hS_8.symm; have hS_10 := hS_10.symm; have hS_11 := hS_11.symm; have hS_12 := hS_12.symm; have hS_13 := hS_13.symm; subst hr_2 hS_3 hS_5 hS_8 hS_10 hS_11 hS_12 hS_13; exact nl (nr (nr (sn (nr hs) c_6)))) (fun q_81 hq_81 H locs hP hS ls hl => ?_) _ _ hP hS ls (lv_sub hl [2, 0] rfl)
    refine lv_aload_n hx hb dX10_hill_115 rfl (lv_at hl 0 rfl) ?_
    refine xget (ref := "AbsentPraise") (T := TX10) (v := .ref (X.2.1 9)) hC hP hin_X10 xo_X10 rfl 1 (by decide) (List.mem_of_getElem? (i := 4) rfl) rfl rfl dX10_hill_116 ?_
    refine xget (ref := "AbsentPraise$Hill") (T := TX2) (v := .int (q_81 9 9)) hC hP hin_X2 (xo_H (by decide)) rfl 9 (by decide) (List.mem_of_getElem? (i := 14) rfl) rfl rfl dX10_hill_119 ?_
    exact xret_iW hC hP hS hb hr (by simp only [f_X10_hill, ← hr_2, ← hS_3, ← hS_5, ← hS_8, ← hS_10, ← hS_11, ← hS_12, ← hS_13, ← hq_81, if_neg c_6]) dX10_hill_122 hlocks
  · refine lv_bipush (v := (-10)) hx hb dX10_hill_20 (by decide) ?_
    refine lv_aload_n hx hb dX10_hill_22 rfl (lv_at hl 1 rfl) ?_
    refine xget (ref := "AbsentPraise") (T := TX10) (v := .ref (X.2.1 1)) hC hP hin_X10 xo_X10 rfl 0 (by decide) (List.mem_of_getElem? (i := 1) rfl) rfl rfl dX10_hill_23 ?_
    refine xget (ref := "AbsentPraise$Telling") (T := TX8) (v := .int (S_5 1 3)) hC hP hin_X8 xo_X8 rfl 3 (by decide) (List.mem_of_getElem? (i := 3) rfl) rfl rfl dX10_hill_26 ?_
    refine lv_isub hx hb dX10_hill_29 ?_
    exact xret_iW hC hP hS hb hr (by simp only [f_X10_hill, ← hr_2, ← hS_3, ← hS_5, if_pos c_6]) dX10_hill_30 hlocks
theorem hd_X10_fault : yX10_fault.cls = RX10 ∧ yX10_fault.cls ≠ "java/lang/invoke/MethodHandle" ∧ yX10_fault.cls ≠ "java/lang/invoke/VarHandle" ∧ (parseMethodDescriptor yX10_fault.desc).map (fun d => d.parameters.length) = some 0 := by decide +kernel
set_option maxHeartbeats 4000000 in
set_option maxRecDepth 100000 in
theorem k_X10_fault (l : Launch) (X : xX) (S : xS) : Met l yX10_fault wsX10_fault ({ frames := 0, cells := 0, slots := 0, locals := 0 } : Room) (va_Pc [.ref (X.2.1 0)] (xI X S)) (va_Qi (fun (r : Int32) (u : xS) => r = (f_X10_fault S) ∧ u = S) (xI X) (xA X)) 0 0 (xA X) := by
  refine Met.ofW (cc := cX10_fault) (maxL := 1) (ret := (some .int)) (by decide +kernel) rfl ?_
  intro p e s m args below meth c s₁ B hml hv
  obtain ⟨rfl, hP, hK, hN, hJ⟩ := hv
  have hx := B.exec
  have hb := B.bytes
  have hr := B.returns
  have hts := atoms_spec (ws := wsX10_fault) B.pre
  have hown : s.vm.findClass RX10 = some m.cls := findClass_of_methodNamed B.named
  have hlocks := B.notSynchronized
  have hC : xC X p m c cX10_fault 1 s _ wsX10_fault RX10 := ⟨⟨hx, hb, hml, hown, hts⟩, hK, hN, hJ⟩
  have hS : va_S (xA X) s.heap s.heap [] := va_S.rf
  have hin_X10 : ∀ w ∈ u_ws RX10 TX10 10, w ∈ wsX10_fault := by decide +kernel
  have hin_X8 : ∀ w ∈ u_ws RX8 TX8 8, w ∈ wsX10_fault := by decide +kernel
  have hl := lv_entry ([.ref (X.2.1 0)]) (n := 1) (Nat.le_of_ble_eq_true rfl)
  rw [lg_entry_eq]
  generalize (lg_sl ([.ref (X.2.1 0)]) ++ List.replicate (1 - (lg_sl ([.ref (X.2.1 0)])).length) Slot.unset).toArray = ls at hl ⊢
  have hl : lv_has ls 1 [(0, .ref (X.2.1 0))] := hl
  refine lv_aload_n hx hb dX10_fault_0 rfl (lv_at hl 0 rfl) ?_
  refine xget (ref := "AbsentPraise") (T := TX10) (v := .ref (X.2.1 1)) hC hP hin_X10 xo_X10 rfl 0 (by decide) (List.mem_of_getElem? (i := 1) rfl) rfl rfl dX10_fault_1 ?_
  refine xget (ref := "AbsentPraise$Telling") (T := TX8) (v := .int (S 1 4)) hC hP hin_X8 xo_X8 rfl 4 (by decide) (List.mem_of_getElem? (i := 2) rfl) rfl rfl dX10_fault_4 ?_
  exact xret_iR hC hP hS hb hr ((rfl)) dX10_fault_7 hlocks
theorem hd_X10_told : yX10_told.cls = RX10 ∧ yX10_told.cls ≠ "java/lang/invoke/MethodHandle" ∧ yX10_told.cls ≠ "java/lang/invoke/VarHandle" ∧ (parseMethodDescriptor yX10_told.desc).map (fun d => d.parameters.length) = some 1 := by decide +kernel
set_option maxHeartbeats 4000000 in
set_option maxRecDepth 100000 in
theorem k_X10_told (l : Launch) (X : xX) (S : xS) (p0 : Int32) (hs : s_X10_told S p0) : Met l yX10_told wsX10_told ({ frames := 6, cells := 0, slots := 0, locals := 139 } : Room) (va_Pc [.ref (X.2.1 0), .int p0] (xI X S)) (va_Qi (fun (r : Int32) (u : xS) => r = (f_X10_told S p0) ∧ u = S) (xI X) (xA X)) 0 0 (xA X) := by
  refine Met.ofW (cc := cX10_told) (maxL := 2) (ret := (some .int)) (by decide +kernel) rfl ?_
  intro p e s m args below meth c s₁ B hml hv
  obtain ⟨rfl, hP, hK, hN, hJ⟩ := hv
  have hx := B.exec
  have hb := B.bytes
  have hr := B.returns
  have hts := atoms_spec (ws := wsX10_told) B.pre
  have hown : s.vm.findClass RX10 = some m.cls := findClass_of_methodNamed B.named
  have hlocks := B.notSynchronized
  have hC : xC X p m c cX10_told 2 s _ wsX10_told RX10 := ⟨⟨hx, hb, hml, hown, hts⟩, hK, hN, hJ⟩
  have hS : va_S (xA X) s.heap s.heap [] := va_S.rf
  have hin_X0 : ∀ w ∈ u_ws RX0 TX0 3, w ∈ wsX10_told := by decide +kernel
  have hin_X10 : ∀ w ∈ u_ws RX10 TX10 10, w ∈ wsX10_told := by decide +kernel
  have hin_X2 : ∀ w ∈ u_ws RX2 TX2 10, w ∈ wsX10_told := by decide +kernel
  have hin_X5 : ∀ w ∈ u_ws RX5 TX5 4, w ∈ wsX10_told := by decide +kernel
  have hin_X6 : ∀ w ∈ u_ws RX6 TX6 3, w ∈ wsX10_told := by decide +kernel
  have hin_X7 : ∀ w ∈ u_ws RX7 TX7 6, w ∈ wsX10_told := by decide +kernel
  have hin_X8 : ∀ w ∈ u_ws RX8 TX8 8, w ∈ wsX10_told := by decide +kernel
  have hl := lv_entry ([.ref (X.2.1 0), .int p0]) (n := 2) (Nat.le_of_ble_eq_true rfl)
  rw [lg_entry_eq]
  generalize (lg_sl ([.ref (X.2.1 0), .int p0]) ++ List.replicate (2 - (lg_sl ([.ref (X.2.1 0), .int p0])).length) Slot.unset).toArray = ls at hl ⊢
  have hl : lv_has ls 2 [(0, .ref (X.2.1 0)), (1, .int p0)] := hl
  refine lv_iload_n hx hb dX10_told_0 rfl (lv_at hl 1 rfl) ?_
  by_cases c_1 : p0 = 0
  · refine lv_tableIn (off := 71) (tgt := 72) hx hb dX10_told_1 (by rw [c_1]; decide) (by rw [c_1]; decide) (by rw [c_1]; rfl) (by decide) ?_
    refine lv_aload_n hx hb dX10_told_72 rfl (lv_at hl 0 rfl) ?_
    refine xget (ref := "AbsentPraise") (T := TX10) (v := .ref (X.2.1 9)) hC hP hin_X10 xo_X10 rfl 1 (by decide) (List.mem_of_getElem? (i := 1) rfl) rfl rfl dX10_told_73 ?_
    refine xget (ref := "AbsentPraise$Hill") (T := TX2) (v := .int (S 9 5)) hC hP hin_X2 (xo_H (by decide)) rfl 5 (by decide) (List.mem_of_getElem? (i := 2) rfl) rfl rfl dX10_told_76 ?_
    exact xret_iR hC hP hS hb hr (((ip c_1 rfl))) dX10_told_79 hlocks
  · by_cases c_2 : p0 = 1
    · refine lv_tableIn (off := 79) (tgt := 80) hx hb dX10_told_1 (by rw [c_2]; decide) (by rw [c_2]; decide) (by rw [c_2]; rfl) (by decide) ?_
      refine lv_aload_n hx hb dX10_told_80 rfl (lv_at hl 0 rfl) ?_
      refine xget (ref := "AbsentPraise") (T := TX10) (v := .ref (X.2.1 9)) hC hP hin_X10 xo_X10 rfl 1 (by decide) (List.mem_of_getElem? (i := 1) rfl) rfl rfl dX10_told_81 ?_
      refine xget (ref := "AbsentPraise$Hill") (T := TX2) (v := .int (S 9 6)) hC hP hin_X2 (xo_H (by decide)) rfl 6 (by decide) (List.mem_of_getElem? (i := 3) rfl) rfl rfl dX10_told_84 ?_
      exact xret_iR hC hP hS hb hr (((iN c_1 (ip c_2 rfl)))) dX10_told_87 hlocks
    · by_cases c_3 : p0 = 2
      · refine lv_tableIn (off := 87) (tgt := 88) hx hb dX10_told_1 (by rw [c_3]; decide) (by rw [c_3]; decide) (by rw [c_3]; rfl) (by decide) ?_
        refine lv_aload_n hx hb dX10_told_88 rfl (lv_at hl 0 rfl) ?_
        refine xget (ref := "AbsentPraise") (T := TX10) (v := .ref (X.2.1 9)) hC hP hin_X10 xo_X10 rfl 1 (by decide) (List.mem_of_getElem? (i := 1) rfl) rfl rfl dX10_told_89 ?_
        refine xget (ref := "AbsentPraise$Hill") (T := TX2) (v := .int (S 9 7)) hC hP hin_X2 (xo_H (by decide)) rfl 7 (by decide) (List.mem_of_getElem? (i := 4) rfl) rfl rfl dX10_told_92 ?_
        exact xret_iR hC hP hS hb hr (((iN c_1 (iN c_2 (ip c_3 rfl))))) dX10_told_95 hlocks
      · by_cases c_4 : p0 = 3
        · refine lv_tableIn (off := 95) (tgt := 96) hx hb dX10_told_1 (by rw [c_4]; decide) (by rw [c_4]; decide) (by rw [c_4]; rfl) (by decide) ?_
          refine lv_aload_n hx hb dX10_told_96 rfl (lv_at hl 0 rfl) ?_
          refine xget (ref := "AbsentPraise") (T := TX10) (v := .ref (X.2.1 9)) hC hP hin_X10 xo_X10 rfl 1 (by decide) (List.mem_of_getElem? (i := 1) rfl) rfl rfl dX10_told_97 ?_
          refine xget (ref := "AbsentPraise$Hill") (T := TX2) (v := .int (S 9 8)) hC hP hin_X2 (xo_H (by decide)) rfl 8 (by decide) (List.mem_of_getElem? (i := 5) rfl) rfl rfl dX10_told_100 ?_
          exact xret_iR hC hP hS hb hr (((iN c_1 (iN c_2 (iN c_3 (ip c_4 rfl)))))) dX10_told_103 hlocks
        · by_cases c_5 : p0 = 4
          · refine lv_tableIn (off := 103) (tgt := 104) hx hb dX10_told_1 (by rw [c_5]; decide) (by rw [c_5]; decide) (by rw [c_5]; rfl) (by decide) ?_
            refine lv_aload_n hx hb dX10_told_104 rfl (lv_at hl 0 rfl) ?_
            refine xget (ref := "AbsentPraise") (T := TX10) (v := .ref (X.2.1 9)) hC hP hin_X10 xo_X10 rfl 1 (by decide) (List.mem_of_getElem? (i := 1) rfl) rfl rfl dX10_told_105 ?_
            refine xget (ref := "AbsentPraise$Hill") (T := TX2) (v := .int (S 9 9)) hC hP hin_X2 (xo_H (by decide)) rfl 9 (by decide) (List.mem_of_getElem? (i := 6) rfl) rfl rfl dX10_told_108 ?_
            exact xret_iR hC hP hS hb hr (((iN c_1 (iN c_2 (iN c_3 (iN c_4 (ip c_5 rfl))))))) dX10_told_111 hlocks
          · by_cases c_6 : p0 = 5
            · refine lv_tableIn (off := 111) (tgt := 112) hx hb dX10_told_1 (by rw [c_6]; decide) (by rw [c_6]; decide) (by rw [c_6]; rfl) (by decide) ?_
              refine lv_aload_n hx hb dX10_told_112 rfl (lv_at hl 0 rfl) ?_
              refine xget (ref := "AbsentPraise") (T := TX10) (v := .ref (X.2.1 1)) hC hP hin_X10 xo_X10 rfl 0 (by decide) (List.mem_of_getElem? (i := 7) rfl) rfl rfl dX10_told_113 ?_
              refine xget (ref := "AbsentPraise$Telling") (T := TX8) (v := .int (S 1 2)) hC hP hin_X8 xo_X8 rfl 2 (by decide) (List.mem_of_getElem? (i := 8) rfl) rfl rfl dX10_told_116 ?_
              exact xret_iR hC hP hS hb hr (((iN c_1 (iN c_2 (iN c_3 (iN c_4 (iN c_5 (ip c_6 rfl)))))))) dX10_told_119 hlocks
            · by_cases c_7 : p0 = 6
              · refine lv_tableIn (off := 119) (tgt := 120) hx hb dX10_told_1 (by rw [c_7]; decide) (by rw [c_7]; decide) (by rw [c_7]; rfl) (by decide) ?_
                refine lv_aload_n hx hb dX10_told_120 rfl (lv_at hl 0 rfl) ?_
                refine xget (ref := "AbsentPraise") (T := TX10) (v := .ref (X.2.1 32)) hC hP hin_X10 xo_X10 rfl 2 (by decide) (List.mem_of_getElem? (i := 9) rfl) rfl rfl dX10_told_121 ?_
                refine xget (ref := "AbsentPraise$Talk") (T := TX7) (v := .int (S 32 5)) hC hP hin_X7 (xo_T (by decide)) rfl 5 (by decide) (List.mem_of_getElem? (i := 10) rfl) rfl rfl dX10_told_124 ?_
                exact xret_iR hC hP hS hb hr (((iN c_1 (iN c_2 (iN c_3 (iN c_4 (iN c_5 (iN c_6 (ip c_7 rfl))))))))) dX10_told_127 hlocks
              · by_cases c_8 : p0 = 7
                · refine lv_tableIn (off := 127) (tgt := 128) hx hb dX10_told_1 (by rw [c_8]; decide) (by rw [c_8]; decide) (by rw [c_8]; rfl) (by decide) ?_
                  refine lv_aload_n hx hb dX10_told_128 rfl (lv_at hl 0 rfl) ?_
                  refine xget (ref := "AbsentPraise") (T := TX10) (v := .ref (X.2.1 32)) hC hP hin_X10 xo_X10 rfl 2 (by decide) (List.mem_of_getElem? (i := 9) rfl) rfl rfl dX10_told_129 ?_
                  refine xget (ref := "AbsentPraise$Talk") (T := TX7) (v := .int (S 32 4)) hC hP hin_X7 (xo_T (by decide)) rfl 4 (by decide) (List.mem_of_getElem? (i := 11) rfl) rfl rfl dX10_told_132 ?_
                  exact xret_iR hC hP hS hb hr (((iN c_1 (iN c_2 (iN c_3 (iN c_4 (iN c_5 (iN c_6 (iN c_7 (ip c_8 rfl)))))))))) dX10_told_135 hlocks
                · by_cases c_9 : p0 = 8
                  · refine lv_tableIn (off := 135) (tgt := 136) hx hb dX10_told_1 (by rw [c_9]; decide) (by rw [c_9]; decide) (by rw [c_9]; rfl) (by decide) ?_
                    refine lv_aload_n hx hb dX10_told_136 rfl (lv_at hl 0 rfl) ?_
                    refine xget (ref := "AbsentPraise") (T := TX10) (v := .ref (X.2.1 16)) hC hP hin_X10 xo_X10 rfl 4 (by decide) (List.mem_of_getElem? (i := 12) rfl) rfl rfl dX10_told_137 ?_
                    have hn_10 : s_X9_praised S := (nl (sp (sn (sn (sn (sn (sn (sn (sn (sn hs c_1) c_2) c_3) c_4) c_5) c_6) c_7) c_8) c_9))
                    refine xcV_iR (b := 16) (As := []) (rest := []) hC hP hS (k_X9_praised l X S hn_10) (cwV 0 hts gX10_told_X9_praised rfl rfl rfl hd_X9_praised ⟨Nat.le_of_ble_eq_true rfl, Nat.le_of_ble_eq_true rfl⟩) xo_X9 rfl rfl rfl hl.1 (Nat.le_of_ble_eq_true rfl) dX10_told_140 (fun r_11 hr_11 H locs hP hS => ?_)
                    exact xret_iR hC hP hS hb hr ((by have hr_11 := hr_11.symm; subst hr_11; exact (iN c_1 (iN c_2 (iN c_3 (iN c_4 (iN c_5 (iN c_6 (iN c_7 (iN c_8 (ip c_9 rfl))))))))))) dX10_told_143 hlocks
                  · by_cases c_12 : p0 = 9
                    · refine lv_tableIn (off := 143) (tgt := 144) hx hb dX10_told_1 (by rw [c_12]; decide) (by rw [c_12]; decide) (by rw [c_12]; rfl) (by decide) ?_
                      refine lv_aload_n hx hb dX10_told_144 rfl (lv_at hl 0 rfl) ?_
                      refine xget (ref := "AbsentPraise") (T := TX10) (v := .ref (X.2.1 16)) hC hP hin_X10 xo_X10 rfl 4 (by decide) (List.mem_of_getElem? (i := 12) rfl) rfl rfl dX10_told_145 ?_
                      have hn_13 : s_X9_silentPairs S := (nl (sp (sn (sn (sn (sn (sn (sn (sn (sn (sn hs c_1) c_2) c_3) c_4) c_5) c_6) c_7) c_8) c_9) c_12))
                      refine xcV_iR (b := 16) (As := []) (rest := []) hC hP hS (k_X9_silentPairs l X S hn_13) (cwV 0 hts gX10_told_X9_silentPairs rfl rfl rfl hd_X9_silentPairs ⟨Nat.le_of_ble_eq_true rfl, Nat.le_of_ble_eq_true rfl⟩) xo_X9 rfl rfl rfl hl.1 (Nat.le_of_ble_eq_true rfl) dX10_told_148 (fun r_14 hr_14 H locs hP hS => ?_)
                      exact xret_iR hC hP hS hb hr ((by have hr_14 := hr_14.symm; subst hr_14; exact (iN c_1 (iN c_2 (iN c_3 (iN c_4 (iN c_5 (iN c_6 (iN c_7 (iN c_8 (iN c_9 (ip c_12 rfl)))))))))))) dX10_told_151 hlocks
                    · by_cases c_15 : p0 = 10
                      · refine lv_tableIn (off := 151) (tgt := 152) hx hb dX10_told_1 (by rw [c_15]; decide) (by rw [c_15]; decide) (by rw [c_15]; rfl) (by decide) ?_
                        refine lv_aload_n hx hb dX10_told_152 rfl (lv_at hl 0 rfl) ?_
                        refine xget (ref := "AbsentPraise") (T := TX10) (v := .ref (X.2.1 16)) hC hP hin_X10 xo_X10 rfl 4 (by decide) (List.mem_of_getElem? (i := 12) rfl) rfl rfl dX10_told_153 ?_
                        have hn_16 : s_X9_cover S := (nl (sp (sn (sn (sn (sn (sn (sn (sn (sn (sn (sn hs c_1) c_2) c_3) c_4) c_5) c_6) c_7) c_8) c_9) c_12) c_15))
                        refine xcV_iR (b := 16) (As := []) (rest := []) hC hP hS (k_X9_cover l X S hn_16) (cwV 0 hts gX10_told_X9_cover rfl rfl rfl hd_X9_cover ⟨Nat.le_of_ble_eq_true rfl, Nat.le_of_ble_eq_true rfl⟩) xo_X9 rfl rfl rfl hl.1 (Nat.le_of_ble_eq_true rfl) dX10_told_156 (fun r_17 hr_17 H locs hP hS => ?_)
                        exact xret_iR hC hP hS hb hr ((by have hr_17 := hr_17.symm; subst hr_17; exact (iN c_1 (iN c_2 (iN c_3 (iN c_4 (iN c_5 (iN c_6 (iN c_7 (iN c_8 (iN c_9 (iN c_12 (ip c_15 rfl))))))))))))) dX10_told_159 hlocks
                      · by_cases c_18 : p0 = 11
                        · refine lv_tableIn (off := 159) (tgt := 160) hx hb dX10_told_1 (by rw [c_18]; decide) (by rw [c_18]; decide) (by rw [c_18]; rfl) (by decide) ?_
                          refine lv_aload_n hx hb dX10_told_160 rfl (lv_at hl 0 rfl) ?_
                          refine xget (ref := "AbsentPraise") (T := TX10) (v := .ref (X.2.1 19)) hC hP hin_X10 xo_X10 rfl 6 (by decide) (List.mem_of_getElem? (i := 13) rfl) rfl rfl dX10_told_161 ?_
                          refine xget (ref := "AbsentPraise$Notes") (T := TX5) (v := .int (S 19 3)) hC hP hin_X5 xo_X5 rfl 3 (by decide) (List.mem_of_getElem? (i := 14) rfl) rfl rfl dX10_told_164 ?_
                          exact xret_iR hC hP hS hb hr (((iN c_1 (iN c_2 (iN c_3 (iN c_4 (iN c_5 (iN c_6 (iN c_7 (iN c_8 (iN c_9 (iN c_12 (iN c_15 (ip c_18 rfl)))))))))))))) dX10_told_167 hlocks
                        · by_cases c_19 : p0 = 12
                          · refine lv_tableIn (off := 167) (tgt := 168) hx hb dX10_told_1 (by rw [c_19]; decide) (by rw [c_19]; decide) (by rw [c_19]; rfl) (by decide) ?_
                            refine lv_aload_n hx hb dX10_told_168 rfl (lv_at hl 0 rfl) ?_
                            refine xget (ref := "AbsentPraise") (T := TX10) (v := .ref (X.2.1 23)) hC hP hin_X10 xo_X10 rfl 7 (by decide) (List.mem_of_getElem? (i := 15) rfl) rfl rfl dX10_told_169 ?_
                            refine xget (ref := "AbsentPraise$Book") (T := TX0) (v := .int (S 23 2)) hC hP hin_X0 xo_X0 rfl 2 (by decide) (List.mem_of_getElem? (i := 16) rfl) rfl rfl dX10_told_172 ?_
                            exact xret_iR hC hP hS hb hr (((iN c_1 (iN c_2 (iN c_3 (iN c_4 (iN c_5 (iN c_6 (iN c_7 (iN c_8 (iN c_9 (iN c_12 (iN c_15 (iN c_18 (ip c_19 rfl))))))))))))))) dX10_told_175 hlocks
                          · by_cases c_20 : p0 = 13
                            · refine lv_tableIn (off := 175) (tgt := 176) hx hb dX10_told_1 (by rw [c_20]; decide) (by rw [c_20]; decide) (by rw [c_20]; rfl) (by decide) ?_
                              refine lv_aload_n hx hb dX10_told_176 rfl (lv_at hl 0 rfl) ?_
                              refine xget (ref := "AbsentPraise") (T := TX10) (v := .ref (X.2.1 27)) hC hP hin_X10 xo_X10 rfl 5 (by decide) (List.mem_of_getElem? (i := 17) rfl) rfl rfl dX10_told_177 ?_
                              refine xget (ref := "AbsentPraise$Past") (T := TX6) (v := .int (S 27 2)) hC hP hin_X6 xo_X6 rfl 2 (by decide) (List.mem_of_getElem? (i := 18) rfl) rfl rfl dX10_told_180 ?_
                              exact xret_iR hC hP hS hb hr (((iN c_1 (iN c_2 (iN c_3 (iN c_4 (iN c_5 (iN c_6 (iN c_7 (iN c_8 (iN c_9 (iN c_12 (iN c_15 (iN c_18 (iN c_19 (ip c_20 rfl)))))))))))))))) dX10_told_183 hlocks
                            · refine lv_tableOut (tgt := 184) hx hb dX10_told_1 (sw_out14 c_1 c_2 c_3 c_4 c_5 c_6 c_7 c_8 c_9 c_12 c_15 c_18 c_19 c_20) (by decide) ?_
                              refine lv_ldc (v := (-1000000002)) hx hb hown (hts (.constant RX10 87 (-1000000002)) (List.mem_of_getElem? (i := 19) rfl)) dX10_told_184 ?_
                              exact xret_iR hC hP hS hb hr (((iN c_1 (iN c_2 (iN c_3 (iN c_4 (iN c_5 (iN c_6 (iN c_7 (iN c_8 (iN c_9 (iN c_12 (iN c_15 (iN c_18 (iN c_19 (iN c_20 rfl)))))))))))))))) dX10_told_186 hlocks
theorem hd_X10_room : yX10_room.cls = RX10 ∧ yX10_room.cls ≠ "java/lang/invoke/MethodHandle" ∧ yX10_room.cls ≠ "java/lang/invoke/VarHandle" ∧ (parseMethodDescriptor yX10_room.desc).map (fun d => d.parameters.length) = some 2 := by decide +kernel
set_option maxHeartbeats 4000000 in
set_option maxRecDepth 100000 in
theorem k_X10_room (l : Launch) (X : xX) (S : xS) (p0 : Int32) (p1 : Int32) (hs : s_X10_room S p0 p1) : Met l yX10_room wsX10_room ({ frames := 2, cells := 0, slots := 0, locals := 44 } : Room) (va_Pc [.ref (X.2.1 0), .int p0, .int p1] (xI X S)) (va_Qi (fun (r : Int32) (u : xS) => r = (f_X10_room S p0 p1) ∧ u = S) (xI X) (xA X)) 0 0 (xA X) := by
  refine Met.ofW (cc := cX10_room) (maxL := 3) (ret := (some .int)) (by decide +kernel) rfl ?_
  intro p e s m args below meth c s₁ B hml hv
  obtain ⟨rfl, hP, hK, hN, hJ⟩ := hv
  have hx := B.exec
  have hb := B.bytes
  have hr := B.returns
  have hts := atoms_spec (ws := wsX10_room) B.pre
  have hown : s.vm.findClass RX10 = some m.cls := findClass_of_methodNamed B.named
  have hlocks := B.notSynchronized
  have hC : xC X p m c cX10_room 3 s _ wsX10_room RX10 := ⟨⟨hx, hb, hml, hown, hts⟩, hK, hN, hJ⟩
  have hS : va_S (xA X) s.heap s.heap [] := va_S.rf
  have hin_X10 : ∀ w ∈ u_ws RX10 TX10 10, w ∈ wsX10_room := by decide +kernel
  have hin_X2 : ∀ w ∈ u_ws RX2 TX2 10, w ∈ wsX10_room := by decide +kernel
  have hl := lv_entry ([.ref (X.2.1 0), .int p0, .int p1]) (n := 3) (Nat.le_of_ble_eq_true rfl)
  rw [lg_entry_eq]
  generalize (lg_sl ([.ref (X.2.1 0), .int p0, .int p1]) ++ List.replicate (3 - (lg_sl ([.ref (X.2.1 0), .int p0, .int p1])).length) Slot.unset).toArray = ls at hl ⊢
  have hl : lv_has ls 3 [(0, .ref (X.2.1 0)), (1, .int p0), (2, .int p1)] := hl
  refine lv_aload_n hx hb dX10_room_0 rfl (lv_at hl 0 rfl) ?_
  refine xget (ref := "AbsentPraise") (T := TX10) (v := .ref (X.2.1 9)) hC hP hin_X10 xo_X10 rfl 1 (by decide) (List.mem_of_getElem? (i := 1) rfl) rfl rfl dX10_room_1 ?_
  refine lv_iload_n hx hb dX10_room_4 rfl (lv_at hl 1 rfl) ?_
  refine xcV_iR (b := 9) (As := [.int p0]) (rest := []) hC hP hS (k_X2_isRoom l X S 9 p0 (by decide)) (cwV 1 hts gX10_room_X2_isRoom rfl rfl rfl hd_X2_isRoom ⟨Nat.le_of_ble_eq_true rfl, Nat.le_of_ble_eq_true rfl⟩) (xo_H (by decide)) rfl rfl rfl hl.1 (Nat.le_of_ble_eq_true rfl) dX10_room_5 (fun r_1 hp_r_1 H locs hP hS => ?_)
  obtain ⟨hr_1, hzr_1⟩ := hp_r_1
  refine lv_if_ne (tgt := 14) hx hb dX10_room_8 (by decide) (fun c_2 => ?_) (fun c_2 => ?_)
  · refine lv_iload_n hx hb dX10_room_14 rfl (lv_at hl 2 rfl) ?_
    by_cases c_3 : p1 = 0
    · refine lv_tableIn (off := 25) (tgt := 40) hx hb dX10_room_15 (by rw [c_3]; decide) (by rw [c_3]; decide) (by rw [c_3]; rfl) (by decide) ?_
      refine lv_aload_n hx hb dX10_room_40 rfl (lv_at hl 0 rfl) ?_
      refine xget (ref := "AbsentPraise") (T := TX10) (v := .ref (X.2.1 15)) hC hP hin_X10 xo_X10 rfl 3 (by decide) (List.mem_of_getElem? (i := 3) rfl) rfl rfl dX10_room_41 ?_
      refine lv_iload_n hx hb dX10_room_44 rfl (lv_at hl 1 rfl) ?_
      refine xcS_iR (As := [.int p0]) (rest := [.ref (X.2.1 15)]) hC hP hS (k_X10_bit l X S p0) (va_cwS 1 hts gX10_room_X10_bit rfl rfl rfl hs_X10_bit ⟨Nat.le_of_ble_eq_true rfl, Nat.le_of_ble_eq_true rfl⟩) rfl rfl hl.1 (Nat.le_of_ble_eq_true rfl) dX10_room_45 (fun r_4 hr_4 H locs hP hS => ?_)
      have hn_5 : s_X4_personsIn S r_4 := (by have hr_1 := hr_1.symm; have hr_4 := hr_4.symm; subst hr_1 hr_4; exact nl (sp (sn hs c_2) c_3))
      refine xcV_iR (b := 15) (As := [.int r_4]) (rest := []) hC hP hS (k_X4_personsIn l X S r_4 hn_5) (cwV 1 hts gX10_room_X4_personsIn rfl rfl rfl hd_X4_personsIn ⟨Nat.le_of_ble_eq_true rfl, Nat.le_of_ble_eq_true rfl⟩) xo_X4 rfl rfl rfl hl.1 (Nat.le_of_ble_eq_true rfl) dX10_room_48 (fun r_6 hr_6 H locs hP hS => ?_)
      exact xret_iR hC hP hS hb hr ((by have hr_1 := hr_1.symm; have hr_4 := hr_4.symm; have hr_6 := hr_6.symm; subst hr_1 hr_4 hr_6; exact (iN c_2 (ip c_3 rfl)))) dX10_room_51 hlocks
    · by_cases c_7 : p1 = 1
      · refine lv_tableIn (off := 37) (tgt := 52) hx hb dX10_room_15 (by rw [c_7]; decide) (by rw [c_7]; decide) (by rw [c_7]; rfl) (by decide) ?_
        refine lv_aload_n hx hb dX10_room_52 rfl (lv_at hl 0 rfl) ?_
        refine xget (ref := "AbsentPraise") (T := TX10) (v := .ref (X.2.1 9)) hC hP hin_X10 xo_X10 rfl 1 (by decide) (List.mem_of_getElem? (i := 1) rfl) rfl rfl dX10_room_53 ?_
        refine xget (ref := "AbsentPraise$Hill") (T := TX2) (v := .ref (X.2.1 10)) hC hP hin_X2 (xo_H (by decide)) rfl 0 (by decide) (List.mem_of_getElem? (i := 4) rfl) rfl rfl dX10_room_56 ?_
        refine lv_iload_n hx hb dX10_room_59 rfl (lv_at hl 1 rfl) ?_
        refine xcS_iR (As := [.ref (X.2.1 10), .int p0]) (rest := []) hC hP hS (k_X10_at l X S 10 p0 rfl) (va_cwS 2 hts gX10_room_X10_at rfl rfl rfl hs_X10_at ⟨Nat.le_of_ble_eq_true rfl, Nat.le_of_ble_eq_true rfl⟩) rfl rfl hl.1 (Nat.le_of_ble_eq_true rfl) dX10_room_60 (fun r_8 hr_8 H locs hP hS => ?_)
        exact xret_iR hC hP hS hb hr ((by have hr_1 := hr_1.symm; have hr_8 := hr_8.symm; subst hr_1 hr_8; exact (iN c_2 (iN c_3 (ip c_7 rfl))))) dX10_room_63 hlocks
      · by_cases c_9 : p1 = 2
        · refine lv_tableIn (off := 49) (tgt := 64) hx hb dX10_room_15 (by rw [c_9]; decide) (by rw [c_9]; decide) (by rw [c_9]; rfl) (by decide) ?_
          refine lv_aload_n hx hb dX10_room_64 rfl (lv_at hl 0 rfl) ?_
          refine xget (ref := "AbsentPraise") (T := TX10) (v := .ref (X.2.1 9)) hC hP hin_X10 xo_X10 rfl 1 (by decide) (List.mem_of_getElem? (i := 1) rfl) rfl rfl dX10_room_65 ?_
          refine xget (ref := "AbsentPraise$Hill") (T := TX2) (v := .ref (X.2.1 11)) hC hP hin_X2 (xo_H (by decide)) rfl 1 (by decide) (List.mem_of_getElem? (i := 5) rfl) rfl rfl dX10_room_68 ?_
          refine lv_iload_n hx hb dX10_room_71 rfl (lv_at hl 1 rfl) ?_
          refine xcS_iR (As := [.ref (X.2.1 11), .int p0]) (rest := []) hC hP hS (k_X10_at l X S 11 p0 rfl) (va_cwS 2 hts gX10_room_X10_at rfl rfl rfl hs_X10_at ⟨Nat.le_of_ble_eq_true rfl, Nat.le_of_ble_eq_true rfl⟩) rfl rfl hl.1 (Nat.le_of_ble_eq_true rfl) dX10_room_72 (fun r_10 hr_10 H locs hP hS => ?_)
          exact xret_iR hC hP hS hb hr ((by have hr_1 := hr_1.symm; have hr_10 := hr_10.symm; subst hr_1 hr_10; exact (iN c_2 (iN c_3 (iN c_7 (ip c_9 rfl)))))) dX10_room_75 hlocks
        · refine lv_tableOut (tgt := 76) hx hb dX10_room_15 (sw_out3 c_3 c_7 c_9) (by decide) ?_
          refine lv_ldc (v := (-1000000002)) hx hb hown (hts (.constant RX10 87 (-1000000002)) (List.mem_of_getElem? (i := 6) rfl)) dX10_room_76 ?_
          exact xret_iR hC hP hS hb hr ((by have hr_1 := hr_1.symm; subst hr_1; exact (iN c_2 (iN c_3 (iN c_7 (iN c_9 rfl)))))) dX10_room_78 hlocks
  · refine lv_ldc (v := (-1000000001)) hx hb hown (hts (.constant RX10 162 (-1000000001)) (List.mem_of_getElem? (i := 2) rfl)) dX10_room_11 ?_
    exact xret_iR hC hP hS hb hr ((by have hr_1 := hr_1.symm; subst hr_1; exact (ip c_2 rfl))) dX10_room_13 hlocks
theorem hd_X10_person : yX10_person.cls = RX10 ∧ yX10_person.cls ≠ "java/lang/invoke/MethodHandle" ∧ yX10_person.cls ≠ "java/lang/invoke/VarHandle" ∧ (parseMethodDescriptor yX10_person.desc).map (fun d => d.parameters.length) = some 2 := by decide +kernel
set_option maxHeartbeats 4000000 in
set_option maxRecDepth 100000 in
theorem k_X10_person (l : Launch) (X : xX) (S : xS) (p0 : Int32) (p1 : Int32) : Met l yX10_person wsX10_person ({ frames := 1, cells := 0, slots := 0, locals := 21 } : Room) (va_Pc [.ref (X.2.1 0), .int p0, .int p1] (xI X S)) (va_Qi (fun (r : Int32) (u : xS) => r = (f_X10_person S p0 p1) ∧ u = S) (xI X) (xA X)) 0 0 (xA X) := by
  refine Met.ofW (cc := cX10_person) (maxL := 3) (ret := (some .int)) (by decide +kernel) rfl ?_
  intro p e s m args below meth c s₁ B hml hv
  obtain ⟨rfl, hP, hK, hN, hJ⟩ := hv
  have hx := B.exec
  have hb := B.bytes
  have hr := B.returns
  have hts := atoms_spec (ws := wsX10_person) B.pre
  have hown : s.vm.findClass RX10 = some m.cls := findClass_of_methodNamed B.named
  have hlocks := B.notSynchronized
  have hC : xC X p m c cX10_person 3 s _ wsX10_person RX10 := ⟨⟨hx, hb, hml, hown, hts⟩, hK, hN, hJ⟩
  have hS : va_S (xA X) s.heap s.heap [] := va_S.rf
  have hin_X10 : ∀ w ∈ u_ws RX10 TX10 10, w ∈ wsX10_person := by decide +kernel
  have hin_X2 : ∀ w ∈ u_ws RX2 TX2 10, w ∈ wsX10_person := by decide +kernel
  have hin_X7 : ∀ w ∈ u_ws RX7 TX7 6, w ∈ wsX10_person := by decide +kernel
  have hl := lv_entry ([.ref (X.2.1 0), .int p0, .int p1]) (n := 3) (Nat.le_of_ble_eq_true rfl)
  rw [lg_entry_eq]
  generalize (lg_sl ([.ref (X.2.1 0), .int p0, .int p1]) ++ List.replicate (3 - (lg_sl ([.ref (X.2.1 0), .int p0, .int p1])).length) Slot.unset).toArray = ls at hl ⊢
  have hl : lv_has ls 3 [(0, .ref (X.2.1 0)), (1, .int p0), (2, .int p1)] := hl
  refine lv_aload_n hx hb dX10_person_0 rfl (lv_at hl 0 rfl) ?_
  refine xget (ref := "AbsentPraise") (T := TX10) (v := .ref (X.2.1 9)) hC hP hin_X10 xo_X10 rfl 1 (by decide) (List.mem_of_getElem? (i := 1) rfl) rfl rfl dX10_person_1 ?_
  refine lv_iload_n hx hb dX10_person_4 rfl (lv_at hl 1 rfl) ?_
  refine xcV_iR (b := 9) (As := [.int p0]) (rest := []) hC hP hS (k_X2_isPerson l X S 9 p0 (by decide)) (cwV 1 hts gX10_person_X2_isPerson rfl rfl rfl hd_X2_isPerson ⟨Nat.le_of_ble_eq_true rfl, Nat.le_of_ble_eq_true rfl⟩) (xo_H (by decide)) rfl rfl rfl hl.1 (Nat.le_of_ble_eq_true rfl) dX10_person_5 (fun r_1 hp_r_1 H locs hP hS => ?_)
  obtain ⟨hr_1, hzr_1⟩ := hp_r_1
  refine lv_if_ne (tgt := 14) hx hb dX10_person_8 (by decide) (fun c_2 => ?_) (fun c_2 => ?_)
  · refine lv_iload_n hx hb dX10_person_14 rfl (lv_at hl 2 rfl) ?_
    by_cases c_3 : p1 = 0
    · refine lv_tableIn (off := 33) (tgt := 48) hx hb dX10_person_15 (by rw [c_3]; decide) (by rw [c_3]; decide) (by rw [c_3]; rfl) (by decide) ?_
      refine lv_aload_n hx hb dX10_person_48 rfl (lv_at hl 0 rfl) ?_
      refine xget (ref := "AbsentPraise") (T := TX10) (v := .ref (X.2.1 9)) hC hP hin_X10 xo_X10 rfl 1 (by decide) (List.mem_of_getElem? (i := 1) rfl) rfl rfl dX10_person_49 ?_
      refine xget (ref := "AbsentPraise$Hill") (T := TX2) (v := .ref (X.2.1 12)) hC hP hin_X2 (xo_H (by decide)) rfl 2 (by decide) (List.mem_of_getElem? (i := 3) rfl) rfl rfl dX10_person_52 ?_
      refine lv_iload_n hx hb dX10_person_55 rfl (lv_at hl 1 rfl) ?_
      refine xcS_iR (As := [.ref (X.2.1 12), .int p0]) (rest := []) hC hP hS (k_X10_at l X S 12 p0 rfl) (va_cwS 2 hts gX10_person_X10_at rfl rfl rfl hs_X10_at ⟨Nat.le_of_ble_eq_true rfl, Nat.le_of_ble_eq_true rfl⟩) rfl rfl hl.1 (Nat.le_of_ble_eq_true rfl) dX10_person_56 (fun r_4 hr_4 H locs hP hS => ?_)
      exact xret_iR hC hP hS hb hr ((by have hr_1 := hr_1.symm; have hr_4 := hr_4.symm; subst hr_1 hr_4; exact (iN c_2 (ip c_3 rfl)))) dX10_person_59 hlocks
    · by_cases c_5 : p1 = 1
      · refine lv_tableIn (off := 45) (tgt := 60) hx hb dX10_person_15 (by rw [c_5]; decide) (by rw [c_5]; decide) (by rw [c_5]; rfl) (by decide) ?_
        refine lv_aload_n hx hb dX10_person_60 rfl (lv_at hl 0 rfl) ?_
        refine xget (ref := "AbsentPraise") (T := TX10) (v := .ref (X.2.1 32)) hC hP hin_X10 xo_X10 rfl 2 (by decide) (List.mem_of_getElem? (i := 4) rfl) rfl rfl dX10_person_61 ?_
        refine xget (ref := "AbsentPraise$Talk") (T := TX7) (v := .ref (X.2.1 33)) hC hP hin_X7 (xo_T (by decide)) rfl 0 (by decide) (List.mem_of_getElem? (i := 5) rfl) rfl rfl dX10_person_64 ?_
        refine lv_iload_n hx hb dX10_person_67 rfl (lv_at hl 1 rfl) ?_
        refine xcS_iR (As := [.ref (X.2.1 33), .int p0]) (rest := []) hC hP hS (k_X10_at l X S 33 p0 rfl) (va_cwS 2 hts gX10_person_X10_at rfl rfl rfl hs_X10_at ⟨Nat.le_of_ble_eq_true rfl, Nat.le_of_ble_eq_true rfl⟩) rfl rfl hl.1 (Nat.le_of_ble_eq_true rfl) dX10_person_68 (fun r_6 hr_6 H locs hP hS => ?_)
        exact xret_iR hC hP hS hb hr ((by have hr_1 := hr_1.symm; have hr_6 := hr_6.symm; subst hr_1 hr_6; exact (iN c_2 (iN c_3 (ip c_5 rfl))))) dX10_person_71 hlocks
      · by_cases c_7 : p1 = 2
        · refine lv_tableIn (off := 57) (tgt := 72) hx hb dX10_person_15 (by rw [c_7]; decide) (by rw [c_7]; decide) (by rw [c_7]; rfl) (by decide) ?_
          refine lv_aload_n hx hb dX10_person_72 rfl (lv_at hl 0 rfl) ?_
          refine xget (ref := "AbsentPraise") (T := TX10) (v := .ref (X.2.1 32)) hC hP hin_X10 xo_X10 rfl 2 (by decide) (List.mem_of_getElem? (i := 4) rfl) rfl rfl dX10_person_73 ?_
          refine xget (ref := "AbsentPraise$Talk") (T := TX7) (v := .ref (X.2.1 34)) hC hP hin_X7 (xo_T (by decide)) rfl 1 (by decide) (List.mem_of_getElem? (i := 6) rfl) rfl rfl dX10_person_76 ?_
          refine lv_iload_n hx hb dX10_person_79 rfl (lv_at hl 1 rfl) ?_
          refine xcS_iR (As := [.ref (X.2.1 34), .int p0]) (rest := []) hC hP hS (k_X10_at l X S 34 p0 rfl) (va_cwS 2 hts gX10_person_X10_at rfl rfl rfl hs_X10_at ⟨Nat.le_of_ble_eq_true rfl, Nat.le_of_ble_eq_true rfl⟩) rfl rfl hl.1 (Nat.le_of_ble_eq_true rfl) dX10_person_80 (fun r_8 hr_8 H locs hP hS => ?_)
          refine lv_sipush (v := 10000) hx hb dX10_person_83 (by decide) ?_
          refine lv_iadd hx hb dX10_person_86 ?_
          exact xret_iR hC hP hS hb hr ((by have hr_1 := hr_1.symm; have hr_8 := hr_8.symm; subst hr_1 hr_8; exact (iN c_2 (iN c_3 (iN c_5 (ip c_7 rfl)))))) dX10_person_87 hlocks
        · by_cases c_9 : p1 = 3
          · refine lv_tableIn (off := 73) (tgt := 88) hx hb dX10_person_15 (by rw [c_9]; decide) (by rw [c_9]; decide) (by rw [c_9]; rfl) (by decide) ?_
            refine lv_aload_n hx hb dX10_person_88 rfl (lv_at hl 0 rfl) ?_
            refine xget (ref := "AbsentPraise") (T := TX10) (v := .ref (X.2.1 32)) hC hP hin_X10 xo_X10 rfl 2 (by decide) (List.mem_of_getElem? (i := 4) rfl) rfl rfl dX10_person_89 ?_
            refine xget (ref := "AbsentPraise$Talk") (T := TX7) (v := .ref (X.2.1 35)) hC hP hin_X7 (xo_T (by decide)) rfl 2 (by decide) (List.mem_of_getElem? (i := 7) rfl) rfl rfl dX10_person_92 ?_
            refine lv_iload_n hx hb dX10_person_95 rfl (lv_at hl 1 rfl) ?_
            refine xcS_iR (As := [.ref (X.2.1 35), .int p0]) (rest := []) hC hP hS (k_X10_at l X S 35 p0 rfl) (va_cwS 2 hts gX10_person_X10_at rfl rfl rfl hs_X10_at ⟨Nat.le_of_ble_eq_true rfl, Nat.le_of_ble_eq_true rfl⟩) rfl rfl hl.1 (Nat.le_of_ble_eq_true rfl) dX10_person_96 (fun r_10 hr_10 H locs hP hS => ?_)
            exact xret_iR hC hP hS hb hr ((by have hr_1 := hr_1.symm; have hr_10 := hr_10.symm; subst hr_1 hr_10; exact (iN c_2 (iN c_3 (iN c_5 (iN c_7 (ip c_9 rfl))))))) dX10_person_99 hlocks
          · by_cases c_11 : p1 = 4
            · refine lv_tableIn (off := 85) (tgt := 100) hx hb dX10_person_15 (by rw [c_11]; decide) (by rw [c_11]; decide) (by rw [c_11]; rfl) (by decide) ?_
              refine lv_aload_n hx hb dX10_person_100 rfl (lv_at hl 0 rfl) ?_
              refine xget (ref := "AbsentPraise") (T := TX10) (v := .ref (X.2.1 32)) hC hP hin_X10 xo_X10 rfl 2 (by decide) (List.mem_of_getElem? (i := 4) rfl) rfl rfl dX10_person_101 ?_
              refine xget (ref := "AbsentPraise$Talk") (T := TX7) (v := .int (S 32 4)) hC hP hin_X7 (xo_T (by decide)) rfl 4 (by decide) (List.mem_of_getElem? (i := 8) rfl) rfl rfl dX10_person_104 ?_
              refine lv_iload_n hx hb dX10_person_107 rfl (lv_at hl 1 rfl) ?_
              refine xcS_iR (As := [.int (S 32 4), .int p0]) (rest := []) hC hP hS (k_X10_has l X S (S 32 4) p0) (va_cwS 2 hts gX10_person_X10_has rfl rfl rfl hs_X10_has ⟨Nat.le_of_ble_eq_true rfl, Nat.le_of_ble_eq_true rfl⟩) rfl rfl hl.1 (Nat.le_of_ble_eq_true rfl) dX10_person_108 (fun r_12 hp_r_12 H locs hP hS => ?_)
              obtain ⟨hr_12, hzr_12⟩ := hp_r_12
              refine lv_if_eq (tgt := 118) hx hb dX10_person_111 (by decide) (fun c_13 => ?_) (fun c_13 => ?_)
              · refine lv_iconst (v := 0) hx hb dX10_person_118 (by decide) ?_
                exact xret_iR hC hP hS hb hr ((by have hr_1 := hr_1.symm; have hr_12 := hr_12.symm; subst hr_1 hr_12; exact (iN c_2 (iN c_3 (iN c_5 (iN c_7 (iN c_9 (ip c_11 (ip c_13 rfl))))))))) dX10_person_119 hlocks
              · refine lv_iconst (v := 1) hx hb dX10_person_114 (by decide) ?_
                refine lv_goto (tgt := 119) hx hb dX10_person_115 (by decide) ?_
                exact xret_iR hC hP hS hb hr ((by have hr_1 := hr_1.symm; have hr_12 := hr_12.symm; subst hr_1 hr_12; exact (iN c_2 (iN c_3 (iN c_5 (iN c_7 (iN c_9 (ip c_11 (iN c_13 rfl))))))))) dX10_person_119 hlocks
            · refine lv_tableOut (tgt := 120) hx hb dX10_person_15 (sw_out5 c_3 c_5 c_7 c_9 c_11) (by decide) ?_
              refine lv_ldc (v := (-1000000002)) hx hb hown (hts (.constant RX10 87 (-1000000002)) (List.mem_of_getElem? (i := 9) rfl)) dX10_person_120 ?_
              exact xret_iR hC hP hS hb hr ((by have hr_1 := hr_1.symm; subst hr_1; exact (iN c_2 (iN c_3 (iN c_5 (iN c_7 (iN c_9 (iN c_11 rfl)))))))) dX10_person_122 hlocks
  · refine lv_ldc (v := (-1000000001)) hx hb hown (hts (.constant RX10 162 (-1000000001)) (List.mem_of_getElem? (i := 2) rfl)) dX10_person_11 ?_
    exact xret_iR hC hP hS hb hr ((by have hr_1 := hr_1.symm; subst hr_1; exact (ip c_2 rfl))) dX10_person_13 hlocks
theorem hd_X10_liking : yX10_liking.cls = RX10 ∧ yX10_liking.cls ≠ "java/lang/invoke/MethodHandle" ∧ yX10_liking.cls ≠ "java/lang/invoke/VarHandle" ∧ (parseMethodDescriptor yX10_liking.desc).map (fun d => d.parameters.length) = some 2 := by decide +kernel
set_option maxHeartbeats 4000000 in
set_option maxRecDepth 100000 in
theorem k_X10_liking (l : Launch) (X : xX) (S : xS) (p0 : Int32) (p1 : Int32) : Met l yX10_liking wsX10_liking ({ frames := 2, cells := 0, slots := 0, locals := 43 } : Room) (va_Pc [.ref (X.2.1 0), .int p0, .int p1] (xI X S)) (va_Qi (fun (r : Int32) (u : xS) => r = (f_X10_liking S p0 p1) ∧ u = S) (xI X) (xA X)) 0 0 (xA X) := by
  refine Met.ofW (cc := cX10_liking) (maxL := 3) (ret := (some .int)) (by decide +kernel) rfl ?_
  intro p e s m args below meth c s₁ B hml hv
  obtain ⟨rfl, hP, hK, hN, hJ⟩ := hv
  have hx := B.exec
  have hb := B.bytes
  have hr := B.returns
  have hts := atoms_spec (ws := wsX10_liking) B.pre
  have hown : s.vm.findClass RX10 = some m.cls := findClass_of_methodNamed B.named
  have hlocks := B.notSynchronized
  have hC : xC X p m c cX10_liking 3 s _ wsX10_liking RX10 := ⟨⟨hx, hb, hml, hown, hts⟩, hK, hN, hJ⟩
  have hS : va_S (xA X) s.heap s.heap [] := va_S.rf
  have hin_X10 : ∀ w ∈ u_ws RX10 TX10 10, w ∈ wsX10_liking := by decide +kernel
  have hin_X7 : ∀ w ∈ u_ws RX7 TX7 6, w ∈ wsX10_liking := by decide +kernel
  have hl := lv_entry ([.ref (X.2.1 0), .int p0, .int p1]) (n := 3) (Nat.le_of_ble_eq_true rfl)
  rw [lg_entry_eq]
  generalize (lg_sl ([.ref (X.2.1 0), .int p0, .int p1]) ++ List.replicate (3 - (lg_sl ([.ref (X.2.1 0), .int p0, .int p1])).length) Slot.unset).toArray = ls at hl ⊢
  have hl : lv_has ls 3 [(0, .ref (X.2.1 0)), (1, .int p0), (2, .int p1)] := hl
  refine lv_aload_n hx hb dX10_liking_0 rfl (lv_at hl 0 rfl) ?_
  refine xget (ref := "AbsentPraise") (T := TX10) (v := .ref (X.2.1 9)) hC hP hin_X10 xo_X10 rfl 1 (by decide) (List.mem_of_getElem? (i := 1) rfl) rfl rfl dX10_liking_1 ?_
  refine lv_iload_n hx hb dX10_liking_4 rfl (lv_at hl 1 rfl) ?_
  refine lv_iload_n hx hb dX10_liking_5 rfl (lv_at hl 2 rfl) ?_
  refine xcV_iR (b := 9) (As := [.int p0, .int p1]) (rest := []) hC hP hS (k_X2_isPair l X S 9 p0 p1 (by decide)) (cwV 2 hts gX10_liking_X2_isPair rfl rfl rfl hd_X2_isPair ⟨Nat.le_of_ble_eq_true rfl, Nat.le_of_ble_eq_true rfl⟩) (xo_H (by decide)) rfl rfl rfl hl.1 (Nat.le_of_ble_eq_true rfl) dX10_liking_6 (fun r_1 hp_r_1 H locs hP hS => ?_)
  obtain ⟨hr_1, hzr_1⟩ := hp_r_1
  refine lv_if_eq (tgt := 30) hx hb dX10_liking_9 (by decide) (fun c_2 => ?_) (fun c_2 => ?_)
  · refine lv_ldc (v := (-1000000001)) hx hb hown (hts (.constant RX10 162 (-1000000001)) (List.mem_of_getElem? (i := 4) rfl)) dX10_liking_30 ?_
    exact xret_iR hC hP hS hb hr ((by have hr_1 := hr_1.symm; subst hr_1; exact (ip c_2 rfl))) dX10_liking_32 hlocks
  · refine lv_aload_n hx hb dX10_liking_12 rfl (lv_at hl 0 rfl) ?_
    refine xget (ref := "AbsentPraise") (T := TX10) (v := .ref (X.2.1 32)) hC hP hin_X10 xo_X10 rfl 2 (by decide) (List.mem_of_getElem? (i := 2) rfl) rfl rfl dX10_liking_13 ?_
    refine xget (ref := "AbsentPraise$Talk") (T := TX7) (v := .ref (X.2.1 36)) hC hP hin_X7 (xo_T (by decide)) rfl 3 (by decide) (List.mem_of_getElem? (i := 3) rfl) rfl rfl dX10_liking_16 ?_
    refine lv_iload_n hx hb dX10_liking_19 rfl (lv_at hl 1 rfl) ?_
    refine lv_iload_n hx hb dX10_liking_20 rfl (lv_at hl 2 rfl) ?_
    refine xcS_iR (As := [.int p0, .int p1]) (rest := [.ref (X.2.1 36)]) hC hP hS (k_X10_pairIndex l X S p0 p1) (va_cwS 2 hts gX10_liking_X10_pairIndex rfl rfl rfl hs_X10_pairIndex ⟨Nat.le_of_ble_eq_true rfl, Nat.le_of_ble_eq_true rfl⟩) rfl rfl hl.1 (Nat.le_of_ble_eq_true rfl) dX10_liking_21 (fun r_3 hr_3 H locs hP hS => ?_)
    refine xcS_iR (As := [.ref (X.2.1 36), .int r_3]) (rest := []) hC hP hS (k_X10_at l X S 36 r_3 rfl) (va_cwS 2 hts gX10_liking_X10_at rfl rfl rfl hs_X10_at ⟨Nat.le_of_ble_eq_true rfl, Nat.le_of_ble_eq_true rfl⟩) rfl rfl hl.1 (Nat.le_of_ble_eq_true rfl) dX10_liking_24 (fun r_4 hr_4 H locs hP hS => ?_)
    refine lv_goto (tgt := 32) hx hb dX10_liking_27 (by decide) ?_
    exact xret_iR hC hP hS hb hr ((by have hr_1 := hr_1.symm; have hr_3 := hr_3.symm; have hr_4 := hr_4.symm; subst hr_1 hr_3 hr_4; exact (iN c_2 rfl))) dX10_liking_32 hlocks
