set_option linter.all false
/-! contracts: X8_faultOfWord, X8_blame, X10_within, X8_readNumber, X8_readRooms, X8_readBench -/
theorem hd_X8_faultOfWord : yX8_faultOfWord.cls = RX8 ∧ yX8_faultOfWord.cls ≠ "java/lang/invoke/MethodHandle" ∧ yX8_faultOfWord.cls ≠ "java/lang/invoke/VarHandle" ∧ (parseMethodDescriptor yX8_faultOfWord.desc).map (fun d => d.parameters.length) = some 1 := by decide +kernel
set_option maxHeartbeats 4000000 in
set_option maxRecDepth 100000 in
theorem k_X8_faultOfWord (l : Launch) (X : xX) (S : xS) (p0 : Int32) : Met l yX8_faultOfWord wsX8_faultOfWord ({ frames := 1, cells := 0, slots := 0, locals := 20 } : Room) (va_Pc [.ref (X.2.1 1), .int p0] (xI X S)) (va_Qi (fun (r : Int32) (u : xS) => r = (f_X8_faultOfWord S p0) ∧ u = S) (xI X) (xA X)) 0 0 (xA X) := by
  refine Met.ofW (cc := cX8_faultOfWord) (maxL := 2) (ret := (some .int)) (by decide +kernel) rfl ?_
  intro p e s m args below meth c s₁ B hml hv
  obtain ⟨rfl, hP, hK, hN, hJ⟩ := hv
  have hx := B.exec
  have hb := B.bytes
  have hr := B.returns
  have hts := atoms_spec (ws := wsX8_faultOfWord) B.pre
  have hown : s.vm.findClass RX8 = some m.cls := findClass_of_methodNamed B.named
  have hlocks := B.notSynchronized
  have hC : xC X p m c cX8_faultOfWord 2 s _ wsX8_faultOfWord RX8 := ⟨⟨hx, hb, hml, hown, hts⟩, hK, hN, hJ⟩
  have hS : va_S (xA X) s.heap s.heap [] := va_S.rf
  have hin_X2 : ∀ w ∈ u_ws RX2 TX2 10, w ∈ wsX8_faultOfWord := by decide +kernel
  have hin_X8 : ∀ w ∈ u_ws RX8 TX8 8, w ∈ wsX8_faultOfWord := by decide +kernel
  have hl := lv_entry ([.ref (X.2.1 1), .int p0]) (n := 2) (Nat.le_of_ble_eq_true rfl)
  rw [lg_entry_eq]
  generalize (lg_sl ([.ref (X.2.1 1), .int p0]) ++ List.replicate (2 - (lg_sl ([.ref (X.2.1 1), .int p0])).length) Slot.unset).toArray = ls at hl ⊢
  have hl : lv_has ls 2 [(0, .ref (X.2.1 1)), (1, .int p0)] := hl
  refine lv_iload_n hx hb dX8_faultOfWord_0 rfl (lv_at hl 1 rfl) ?_
  refine lv_bipush (v := 114) hx hb dX8_faultOfWord_1 (by decide) ?_
  refine lv_icmp_ne (tgt := 22) hx hb dX8_faultOfWord_3 (by decide) (fun c_1 => ?_) (fun c_1 => ?_)
  · refine lv_aload_n hx hb dX8_faultOfWord_22 rfl (lv_at hl 0 rfl) ?_
    refine xget (ref := "AbsentPraise$Telling") (T := TX8) (v := .ref (X.2.1 3)) hC hP hin_X8 xo_X8 rfl 1 (by decide) (List.mem_of_getElem? (i := 1) rfl) rfl rfl dX8_faultOfWord_23 ?_
    refine xcV_iR (b := 3) (As := []) (rest := []) hC hP hS (k_X2_isTold l X S 3 (by decide)) (cwV 0 hts gX8_faultOfWord_X2_isTold rfl rfl rfl hd_X2_isTold ⟨Nat.le_of_ble_eq_true rfl, Nat.le_of_ble_eq_true rfl⟩) (xo_H (by decide)) rfl rfl rfl hl.1 (Nat.le_of_ble_eq_true rfl) dX8_faultOfWord_26 (fun r_2 hp_r_2 H locs hP hS => ?_)
    obtain ⟨hr_2, hzr_2⟩ := hp_r_2
    refine lv_if_ne (tgt := 34) hx hb dX8_faultOfWord_29 (by decide) (fun c_3 => ?_) (fun c_3 => ?_)
    · refine lv_iload_n hx hb dX8_faultOfWord_34 rfl (lv_at hl 1 rfl) ?_
      by_cases c_4 : p0 = 98
      · refine lv_lookup (off := 41) (tgt := 76) hx hb dX8_faultOfWord_35 (by decide) (by rw [c_4]; rfl) (by decide) ?_
        refine lv_aload_n hx hb dX8_faultOfWord_76 rfl (lv_at hl 0 rfl) ?_
        refine xget (ref := "AbsentPraise$Telling") (T := TX8) (v := .ref (X.2.1 3)) hC hP hin_X8 xo_X8 rfl 1 (by decide) (List.mem_of_getElem? (i := 1) rfl) rfl rfl dX8_faultOfWord_77 ?_
        refine xget (ref := "AbsentPraise$Hill") (T := TX2) (v := .int (S 3 7)) hC hP hin_X2 (xo_H (by decide)) rfl 7 (by decide) (List.mem_of_getElem? (i := 2) rfl) rfl rfl dX8_faultOfWord_80 ?_
        refine lv_bipush (v := 9) hx hb dX8_faultOfWord_83 (by decide) ?_
        refine lv_icmp_lt (tgt := 92) hx hb dX8_faultOfWord_85 (by decide) (fun c_5 => ?_) (fun c_5 => ?_)
        · refine lv_iconst (v := 0) hx hb dX8_faultOfWord_92 (by decide) ?_
          exact xret_iR hC hP hS hb hr ((by have hr_2 := hr_2.symm; subst hr_2; exact (iN c_1 (iN c_3 (ip c_4 (ip c_5 rfl)))))) dX8_faultOfWord_93 hlocks
        · refine lv_iconst (v := 3) hx hb dX8_faultOfWord_88 (by decide) ?_
          refine lv_goto (tgt := 93) hx hb dX8_faultOfWord_89 (by decide) ?_
          exact xret_iR hC hP hS hb hr ((by have hr_2 := hr_2.symm; subst hr_2; exact (iN c_1 (iN c_3 (ip c_4 (iN c_5 rfl)))))) dX8_faultOfWord_93 hlocks
      · by_cases c_6 : p0 = 103
        · refine lv_lookup (off := 59) (tgt := 94) hx hb dX8_faultOfWord_35 (by decide) (by rw [c_6]; rfl) (by decide) ?_
          refine lv_aload_n hx hb dX8_faultOfWord_94 rfl (lv_at hl 0 rfl) ?_
          refine xget (ref := "AbsentPraise$Telling") (T := TX8) (v := .ref (X.2.1 3)) hC hP hin_X8 xo_X8 rfl 1 (by decide) (List.mem_of_getElem? (i := 1) rfl) rfl rfl dX8_faultOfWord_95 ?_
          refine xget (ref := "AbsentPraise$Hill") (T := TX2) (v := .int (S 3 8)) hC hP hin_X2 (xo_H (by decide)) rfl 8 (by decide) (List.mem_of_getElem? (i := 3) rfl) rfl rfl dX8_faultOfWord_98 ?_
          refine lv_bipush (v := 9) hx hb dX8_faultOfWord_101 (by decide) ?_
          refine lv_icmp_lt (tgt := 110) hx hb dX8_faultOfWord_103 (by decide) (fun c_7 => ?_) (fun c_7 => ?_)
          · refine lv_iconst (v := 0) hx hb dX8_faultOfWord_110 (by decide) ?_
            exact xret_iR hC hP hS hb hr ((by have hr_2 := hr_2.symm; subst hr_2; exact (iN c_1 (iN c_3 (iN c_4 (ip c_6 (ip c_7 rfl))))))) dX8_faultOfWord_111 hlocks
          · refine lv_iconst (v := 3) hx hb dX8_faultOfWord_106 (by decide) ?_
            refine lv_goto (tgt := 111) hx hb dX8_faultOfWord_107 (by decide) ?_
            exact xret_iR hC hP hS hb hr ((by have hr_2 := hr_2.symm; subst hr_2; exact (iN c_1 (iN c_3 (iN c_4 (ip c_6 (iN c_7 rfl))))))) dX8_faultOfWord_111 hlocks
        · by_cases c_8 : p0 = 108
          · refine lv_lookup (off := 95) (tgt := 130) hx hb dX8_faultOfWord_35 (by decide) (by rw [c_8]; rfl) (by decide) ?_
            refine lv_aload_n hx hb dX8_faultOfWord_130 rfl (lv_at hl 0 rfl) ?_
            refine xget (ref := "AbsentPraise$Telling") (T := TX8) (v := .int (S 1 7)) hC hP hin_X8 xo_X8 rfl 7 (by decide) (List.mem_of_getElem? (i := 5) rfl) rfl rfl dX8_faultOfWord_131 ?_
            refine lv_bipush (v := 20) hx hb dX8_faultOfWord_134 (by decide) ?_
            refine lv_icmp_lt (tgt := 143) hx hb dX8_faultOfWord_136 (by decide) (fun c_9 => ?_) (fun c_9 => ?_)
            · refine lv_iconst (v := 0) hx hb dX8_faultOfWord_143 (by decide) ?_
              exact xret_iR hC hP hS hb hr ((by have hr_2 := hr_2.symm; subst hr_2; exact (iN c_1 (iN c_3 (iN c_4 (iN c_6 (ip c_8 (ip c_9 rfl)))))))) dX8_faultOfWord_144 hlocks
            · refine lv_iconst (v := 3) hx hb dX8_faultOfWord_139 (by decide) ?_
              refine lv_goto (tgt := 144) hx hb dX8_faultOfWord_140 (by decide) ?_
              exact xret_iR hC hP hS hb hr ((by have hr_2 := hr_2.symm; subst hr_2; exact (iN c_1 (iN c_3 (iN c_4 (iN c_6 (ip c_8 (iN c_9 rfl)))))))) dX8_faultOfWord_144 hlocks
          · by_cases c_10 : p0 = 112
            · refine lv_lookup (off := 77) (tgt := 112) hx hb dX8_faultOfWord_35 (by decide) (by rw [c_10]; rfl) (by decide) ?_
              refine lv_aload_n hx hb dX8_faultOfWord_112 rfl (lv_at hl 0 rfl) ?_
              refine xget (ref := "AbsentPraise$Telling") (T := TX8) (v := .ref (X.2.1 3)) hC hP hin_X8 xo_X8 rfl 1 (by decide) (List.mem_of_getElem? (i := 1) rfl) rfl rfl dX8_faultOfWord_113 ?_
              refine xget (ref := "AbsentPraise$Hill") (T := TX2) (v := .int (S 3 9)) hC hP hin_X2 (xo_H (by decide)) rfl 9 (by decide) (List.mem_of_getElem? (i := 4) rfl) rfl rfl dX8_faultOfWord_116 ?_
              refine lv_bipush (v := 7) hx hb dX8_faultOfWord_119 (by decide) ?_
              refine lv_icmp_lt (tgt := 128) hx hb dX8_faultOfWord_121 (by decide) (fun c_11 => ?_) (fun c_11 => ?_)
              · refine lv_iconst (v := 0) hx hb dX8_faultOfWord_128 (by decide) ?_
                exact xret_iR hC hP hS hb hr ((by have hr_2 := hr_2.symm; subst hr_2; exact (iN c_1 (iN c_3 (iN c_4 (iN c_6 (iN c_8 (ip c_10 (ip c_11 rfl))))))))) dX8_faultOfWord_129 hlocks
              · refine lv_iconst (v := 3) hx hb dX8_faultOfWord_124 (by decide) ?_
                refine lv_goto (tgt := 129) hx hb dX8_faultOfWord_125 (by decide) ?_
                exact xret_iR hC hP hS hb hr ((by have hr_2 := hr_2.symm; subst hr_2; exact (iN c_1 (iN c_3 (iN c_4 (iN c_6 (iN c_8 (ip c_10 (iN c_11 rfl))))))))) dX8_faultOfWord_129 hlocks
            · refine lv_lookup (off := 110) (tgt := 145) hx hb dX8_faultOfWord_35 (by decide) (sw_lk4 (ne_toInt (n := 98) (by decide) c_4) (ne_toInt (n := 103) (by decide) c_6) (ne_toInt (n := 108) (by decide) c_8) (ne_toInt (n := 112) (by decide) c_10)) (by decide) ?_
              refine lv_iconst (v := 1) hx hb dX8_faultOfWord_145 (by decide) ?_
              exact xret_iR hC hP hS hb hr ((by have hr_2 := hr_2.symm; subst hr_2; exact (iN c_1 (iN c_3 (iN c_4 (iN c_6 (iN c_8 (iN c_10 rfl)))))))) dX8_faultOfWord_146 hlocks
    · refine lv_iconst (v := 1) hx hb dX8_faultOfWord_32 (by decide) ?_
      exact xret_iR hC hP hS hb hr ((by have hr_2 := hr_2.symm; subst hr_2; exact (iN c_1 (ip c_3 rfl)))) dX8_faultOfWord_33 hlocks
  · refine lv_aload_n hx hb dX8_faultOfWord_6 rfl (lv_at hl 0 rfl) ?_
    refine xget (ref := "AbsentPraise$Telling") (T := TX8) (v := .ref (X.2.1 3)) hC hP hin_X8 xo_X8 rfl 1 (by decide) (List.mem_of_getElem? (i := 1) rfl) rfl rfl dX8_faultOfWord_7 ?_
    refine xcV_iR (b := 3) (As := []) (rest := []) hC hP hS (k_X2_isTold l X S 3 (by decide)) (cwV 0 hts gX8_faultOfWord_X2_isTold rfl rfl rfl hd_X2_isTold ⟨Nat.le_of_ble_eq_true rfl, Nat.le_of_ble_eq_true rfl⟩) (xo_H (by decide)) rfl rfl rfl hl.1 (Nat.le_of_ble_eq_true rfl) dX8_faultOfWord_10 (fun r_12 hp_r_12 H locs hP hS => ?_)
    obtain ⟨hr_12, hzr_12⟩ := hp_r_12
    refine lv_if_eq (tgt := 20) hx hb dX8_faultOfWord_13 (by decide) (fun c_13 => ?_) (fun c_13 => ?_)
    · refine lv_iconst (v := 0) hx hb dX8_faultOfWord_20 (by decide) ?_
      exact xret_iR hC hP hS hb hr ((by have hr_12 := hr_12.symm; subst hr_12; exact (ip c_1 (ip c_13 rfl)))) dX8_faultOfWord_21 hlocks
    · refine lv_iconst (v := 3) hx hb dX8_faultOfWord_16 (by decide) ?_
      refine lv_goto (tgt := 21) hx hb dX8_faultOfWord_17 (by decide) ?_
      exact xret_iR hC hP hS hb hr ((by have hr_12 := hr_12.symm; subst hr_12; exact (ip c_1 (iN c_13 rfl)))) dX8_faultOfWord_21 hlocks
theorem hd_X8_blame : yX8_blame.cls = RX8 ∧ yX8_blame.cls ≠ "java/lang/invoke/MethodHandle" ∧ yX8_blame.cls ≠ "java/lang/invoke/VarHandle" ∧ (parseMethodDescriptor yX8_blame.desc).map (fun d => d.parameters.length) = some 2 := by decide +kernel
set_option maxHeartbeats 4000000 in
set_option maxRecDepth 100000 in
theorem k_X8_blame (l : Launch) (X : xX) (S : xS) (p0 : Int32) (p1 : Int32) : Met l yX8_blame wsX8_blame ({ frames := 0, cells := 0, slots := 0, locals := 0 } : Room) (va_Pc [.ref (X.2.1 1), .int p0, .int p1] (xI X S)) (va_Qv (fun u : xS => u = (f_X8_blame S p0 p1)) (xI X) (xA X)) 0 0 (xA X) := by
  refine Met.ofW (cc := cX8_blame) (maxL := 3) (ret := none) (by decide +kernel) rfl ?_
  intro p e s m args below meth c s₁ B hml hv
  obtain ⟨rfl, hP, hK, hN, hJ⟩ := hv
  have hx := B.exec
  have hb := B.bytes
  have hr := B.returns
  have hts := atoms_spec (ws := wsX8_blame) B.pre
  have hown : s.vm.findClass RX8 = some m.cls := findClass_of_methodNamed B.named
  have hlocks := B.notSynchronized
  have hC : xC X p m c cX8_blame 3 s _ wsX8_blame RX8 := ⟨⟨hx, hb, hml, hown, hts⟩, hK, hN, hJ⟩
  have hS : va_S (xA X) s.heap s.heap [] := va_S.rf
  have hin_X8 : ∀ w ∈ u_ws RX8 TX8 8, w ∈ wsX8_blame := by decide +kernel
  have hl := lv_entry ([.ref (X.2.1 1), .int p0, .int p1]) (n := 3) (Nat.le_of_ble_eq_true rfl)
  rw [lg_entry_eq]
  generalize (lg_sl ([.ref (X.2.1 1), .int p0, .int p1]) ++ List.replicate (3 - (lg_sl ([.ref (X.2.1 1), .int p0, .int p1])).length) Slot.unset).toArray = ls at hl ⊢
  have hl : lv_has ls 3 [(0, .ref (X.2.1 1)), (1, .int p0), (2, .int p1)] := hl
  refine lv_aload_n hx hb dX8_blame_0 rfl (lv_at hl 0 rfl) ?_
  refine xget (ref := "AbsentPraise$Telling") (T := TX8) (v := .int (S 1 3)) hC hP hin_X8 xo_X8 rfl 3 (by decide) (List.mem_of_getElem? (i := 1) rfl) rfl rfl dX8_blame_1 ?_
  refine lv_if_ne (tgt := 21) hx hb dX8_blame_4 (by decide) (fun c_1 => ?_) (fun c_1 => ?_)
  · exact xret_v hC hP hS hb hr (((iN c_1 rfl))) dX8_blame_21 hlocks
  · refine lv_iload_n hx hb dX8_blame_7 rfl (lv_at hl 1 rfl) ?_
    refine lv_if_eq (tgt := 21) hx hb dX8_blame_8 (by decide) (fun c_2 => ?_) (fun c_2 => ?_)
    · exact xret_v hC hP hS hb hr (((ip c_1 (ip c_2 rfl)))) dX8_blame_21 hlocks
    · refine lv_aload_n hx hb dX8_blame_11 rfl (lv_at hl 0 rfl) ?_
      refine lv_iload_n hx hb dX8_blame_12 rfl (lv_at hl 1 rfl) ?_
      refine xput (ref := "AbsentPraise$Telling") (T := TX8) (ty := .int) hC hP hS (by decide) hin_X8 tyX8 tyX8_ok nmX8 xo_X8 rfl 3 (by decide) (List.mem_of_getElem? (i := 1) rfl) rfl rfl rfl rfl rfl (Nat.le_of_ble_eq_true rfl) dX8_blame_13 rfl (fun S_3 hS_3 H locs hP hS => ?_)
      refine lv_aload_n hx hb dX8_blame_16 rfl (lv_at hl 0 rfl) ?_
      refine lv_iload_n hx hb dX8_blame_17 rfl (lv_at hl 2 rfl) ?_
      refine xput (ref := "AbsentPraise$Telling") (T := TX8) (ty := .int) hC hP hS (by decide) hin_X8 tyX8 tyX8_ok nmX8 xo_X8 rfl 4 (by decide) (List.mem_of_getElem? (i := 2) rfl) rfl rfl rfl rfl rfl (Nat.le_of_ble_eq_true rfl) dX8_blame_18 rfl (fun S_4 hS_4 H locs hP hS => ?_)
      exact xret_v hC hP hS hb hr ((by have hS_3 := hS_3.symm; have hS_4 := hS_4.symm; subst hS_3 hS_4; exact (ip c_1 (iN c_2 rfl)))) dX8_blame_21 hlocks
theorem hs_X10_within : yX10_within.cls ≠ "java/lang/invoke/MethodHandle" ∧ yX10_within.cls ≠ "java/lang/invoke/VarHandle" ∧ (parseMethodDescriptor yX10_within.desc).map (fun d => d.parameters.length) = some 3 := by decide +kernel
set_option maxHeartbeats 4000000 in
set_option maxRecDepth 100000 in
theorem k_X10_within (l : Launch) (X : xX) (S : xS) (p0 : Int32) (p1 : Int32) (p2 : Int32) : Met l yX10_within wsX10_within ({ frames := 0, cells := 0, slots := 0, locals := 0 } : Room) (va_Pc [.int p0, .int p1, .int p2] (xI X S)) (va_Qi (fun (r : Int32) (u : xS) => (r = (f_X10_within S p0 p1 p2) ∧ (r = 0 ∨ r = 1)) ∧ u = S) (xI X) (xA X)) 0 0 (xA X) := by
  refine Met.ofW (cc := cX10_within) (maxL := 3) (ret := (some .boolean)) (by decide +kernel) rfl ?_
  intro p e s m args below meth c s₁ B hml hv
  obtain ⟨rfl, hP, hK, hN, hJ⟩ := hv
  have hx := B.exec
  have hb := B.bytes
  have hr := B.returns
  have hts := atoms_spec (ws := wsX10_within) B.pre
  have hown : s.vm.findClass RX10 = some m.cls := findClass_of_methodNamed B.named
  have hlocks := B.notSynchronized
  have hC : xC X p m c cX10_within 3 s _ wsX10_within RX10 := ⟨⟨hx, hb, hml, hown, hts⟩, hK, hN, hJ⟩
  have hS : va_S (xA X) s.heap s.heap [] := va_S.rf
  have hl := lv_entry ([.int p0, .int p1, .int p2]) (n := 3) (Nat.le_of_ble_eq_true rfl)
  rw [lg_entry_eq]
  generalize (lg_sl ([.int p0, .int p1, .int p2]) ++ List.replicate (3 - (lg_sl ([.int p0, .int p1, .int p2])).length) Slot.unset).toArray = ls at hl ⊢
  have hl : lv_has ls 3 [(0, .int p0), (1, .int p1), (2, .int p2)] := hl
  refine lv_iload_n hx hb dX10_within_0 rfl (lv_at hl 0 rfl) ?_
  refine lv_iload_n hx hb dX10_within_1 rfl (lv_at hl 1 rfl) ?_
  refine lv_icmp_lt (tgt := 14) hx hb dX10_within_2 (by decide) (fun c_1 => ?_) (fun c_1 => ?_)
  · refine lv_iconst (v := 0) hx hb dX10_within_14 (by decide) ?_
    exact xret_zR hC hP hS hb hr (.inl rfl) (((ip c_1 rfl))) dX10_within_15 hlocks
  · refine lv_iload_n hx hb dX10_within_5 rfl (lv_at hl 0 rfl) ?_
    refine lv_iload_n hx hb dX10_within_6 rfl (lv_at hl 2 rfl) ?_
    refine lv_icmp_gt (tgt := 14) hx hb dX10_within_7 (by decide) (fun c_2 => ?_) (fun c_2 => ?_)
    · refine lv_iconst (v := 0) hx hb dX10_within_14 (by decide) ?_
      exact xret_zR hC hP hS hb hr (.inl rfl) (((iN c_1 (ip c_2 rfl)))) dX10_within_15 hlocks
    · refine lv_iconst (v := 1) hx hb dX10_within_10 (by decide) ?_
      refine lv_goto (tgt := 15) hx hb dX10_within_11 (by decide) ?_
      exact xret_zR hC hP hS hb hr (.inr rfl) (((iN c_1 (iN c_2 rfl)))) dX10_within_15 hlocks
theorem hd_X8_readNumber : yX8_readNumber.cls = RX8 ∧ yX8_readNumber.cls ≠ "java/lang/invoke/MethodHandle" ∧ yX8_readNumber.cls ≠ "java/lang/invoke/VarHandle" ∧ (parseMethodDescriptor yX8_readNumber.desc).map (fun d => d.parameters.length) = some 2 := by decide +kernel
set_option maxHeartbeats 4000000 in
set_option maxRecDepth 100000 in
theorem k_X8_readNumber (l : Launch) (X : xX) (S : xS) (p0 : Int32) (p1 : Int32) (hs : s_X8_readNumber S p0 p1) : Met l yX8_readNumber wsX8_readNumber ({ frames := 2, cells := 0, slots := 0, locals := 40 } : Room) (va_Pc [.ref (X.2.1 1), .int p0, .int p1] (xI X S)) (va_Qi (fun (r : Int32) (u : xS) => r = (f_X8_readNumber S p0 p1).1 ∧ u = (f_X8_readNumber S p0 p1).2) (xI X) (xA X)) 0 0 (xA X) := by
  refine Met.ofW (cc := cX8_readNumber) (maxL := 5) (ret := (some .int)) (by decide +kernel) rfl ?_
  intro p e s m args below meth c s₁ B hml hv
  obtain ⟨rfl, hP, hK, hN, hJ⟩ := hv
  have hx := B.exec
  have hb := B.bytes
  have hr := B.returns
  have hts := atoms_spec (ws := wsX8_readNumber) B.pre
  have hown : s.vm.findClass RX8 = some m.cls := findClass_of_methodNamed B.named
  have hlocks := B.notSynchronized
  have hC : xC X p m c cX8_readNumber 5 s _ wsX8_readNumber RX8 := ⟨⟨hx, hb, hml, hown, hts⟩, hK, hN, hJ⟩
  have hS : va_S (xA X) s.heap s.heap [] := va_S.rf
  have hin_X8 : ∀ w ∈ u_ws RX8 TX8 8, w ∈ wsX8_readNumber := by decide +kernel
  have hl := lv_entry ([.ref (X.2.1 1), .int p0, .int p1]) (n := 5) (Nat.le_of_ble_eq_true rfl)
  rw [lg_entry_eq]
  generalize (lg_sl ([.ref (X.2.1 1), .int p0, .int p1]) ++ List.replicate (5 - (lg_sl ([.ref (X.2.1 1), .int p0, .int p1])).length) Slot.unset).toArray = ls at hl ⊢
  have hl : lv_has ls 5 [(0, .ref (X.2.1 1)), (1, .int p0), (2, .int p1)] := hl
  refine lv_aload_n hx hb dX8_readNumber_0 rfl (lv_at hl 0 rfl) ?_
  refine xget (ref := "AbsentPraise$Telling") (T := TX8) (v := .int (S 1 3)) hC hP hin_X8 xo_X8 rfl 3 (by decide) (List.mem_of_getElem? (i := 1) rfl) rfl rfl dX8_readNumber_1 ?_
  refine lv_if_eq (tgt := 9) hx hb dX8_readNumber_4 (by decide) (fun c_1 => ?_) (fun c_1 => ?_)
  · refine lv_aload_n hx hb dX8_readNumber_9 rfl (lv_at hl 0 rfl) ?_
    have hn_2 : s_X8_skipBlanks S := (nl (sp hs c_1))
    refine xcV_vW (b := 1) (As := []) (rest := []) hC hP hS (k_X8_skipBlanks l X S hn_2) (cwV 0 hts gX8_readNumber_X8_skipBlanks rfl rfl rfl hd_X8_skipBlanks ⟨Nat.le_of_ble_eq_true rfl, Nat.le_of_ble_eq_true rfl⟩) xo_X8 rfl rfl rfl hl.1 (Nat.le_of_ble_eq_true rfl) dX8_readNumber_10 (fun S_3 hS_3 H locs hP hS => ?_)
    refine lv_aload_n hx hb dX8_readNumber_13 rfl (lv_at hl 0 rfl) ?_
    refine lv_aload_n hx hb dX8_readNumber_14 rfl (lv_at hl 0 rfl) ?_
    refine xget (ref := "AbsentPraise$Telling") (T := TX8) (v := .int (S_3 1 5)) hC hP hin_X8 xo_X8 rfl 5 (by decide) (List.mem_of_getElem? (i := 2) rfl) rfl rfl dX8_readNumber_15 ?_
    refine xput (ref := "AbsentPraise$Telling") (T := TX8) (ty := .int) hC hP hS (by decide) hin_X8 tyX8 tyX8_ok nmX8 xo_X8 rfl 6 (by decide) (List.mem_of_getElem? (i := 3) rfl) rfl rfl rfl rfl rfl (Nat.le_of_ble_eq_true rfl) dX8_readNumber_18 rfl (fun S_4 hS_4 H locs hP hS => ?_)
    refine lv_iconst (v := 0) hx hb dX8_readNumber_21 (by decide) ?_
    refine lv_istore_n (lv' := [(3, .int 0), (0, .ref (X.2.1 1)), (1, .int p0), (2, .int p1)]) hx hb dX8_readNumber_22 rfl hl (by decide) rfl (fun ls hl => ?_)
    refine lv_iconst (v := 0) hx hb dX8_readNumber_23 (by decide) ?_
    refine lv_istore (lv' := [(4, .int 0), (3, .int 0), (0, .ref (X.2.1 1)), (1, .int p0), (2, .int p1)]) hx hb dX8_readNumber_24 hl (by decide) rfl (fun ls hl => ?_)
    have hLp_26 : ∀ (n : Nat) (T_26 : xS) (x1_26 : Int32) (x2_26 : Int32) (x3_26 : Int32) (x4_26 : Int32), s_X8_readNumber_L26 n T_26 x1_26 x2_26 x3_26 x4_26 → (∀ q : Int32 × Int32 × xS, q = f_X8_readNumber_L26 n T_26 x1_26 x2_26 x3_26 x4_26 → (∀ (H : Heap) (locs : List Loc), va_P X.1 vwCl (xW X q.2.2) H → va_S (xA X) s.heap H locs → ∀ (ls : Array Slot), lv_has ls 5 [(0, .ref (X.2.1 1)), (1, .int x1_26), (2, .int x2_26), (3, .int q.1), (4, .int q.2.1)] → W p l e ({ frames := 2, cells := 0, slots := 0, locals := 40 } : Room) s m ([.ref (X.2.1 1), .int p0, .int p1] : List Value).toArray below meth c H locs 0 0 (MQ below (va_Qi (fun (r : Int32) (u : xS) => r = (f_X8_readNumber S p0 p1).1 ∧ u = (f_X8_readNumber S p0 p1).2) (xI X) (xA X)) ([.ref (X.2.1 1), .int p0, .int p1] : List Value).toArray s 0 0 (xA X)) (F0 m 92 ls []))) → ∀ (H : Heap) (locs : List Loc), va_P X.1 vwCl (xW X T_26) H → va_S (xA X) s.heap H locs → ∀ (ls : Array Slot), lv_has ls 5 [(0, .ref (X.2.1 1)), (1, .int x1_26), (2, .int x2_26), (3, .int x3_26), (4, .int x4_26)] → W p l e ({ frames := 2, cells := 0, slots := 0, locals := 40 } : Room) s m ([.ref (X.2.1 1), .int p0, .int p1] : List Value).toArray below meth c H locs 0 0 (MQ below (va_Qi (fun (r : Int32) (u : xS) => r = (f_X8_readNumber S p0 p1).1 ∧ u = (f_X8_readNumber S p0 p1).2) (xI X) (xA X)) ([.ref (X.2.1 1), .int p0, .int p1] : List Value).toArray s 0 0 (xA X)) (F0 m 26 ls []) := by
      intro n
      induction n with
      | zero => intro T_26 x1_26 x2_26 x3_26 x4_26 hs; exact hs.elim
      | succ n ih_26 =>
        intro T_26 x1_26 x2_26 x3_26 x4_26 hs_26 hex_26 H locs hP hS ls hl
        refine lv_aload_n hx hb dX8_readNumber_26 rfl (lv_at hl 0 rfl) ?_
        refine xget (ref := "AbsentPraise$Telling") (T := TX8) (v := .int (T_26 1 5)) hC hP hin_X8 xo_X8 rfl 5 (by decide) (List.mem_of_getElem? (i := 2) rfl) rfl rfl dX8_readNumber_27 ?_
        refine lv_aload_n hx hb dX8_readNumber_30 rfl (lv_at hl 0 rfl) ?_
        refine xget (ref := "AbsentPraise$Telling") (T := TX8) (v := .int (T_26 1 2)) hC hP hin_X8 xo_X8 rfl 2 (by decide) (List.mem_of_getElem? (i := 4) rfl) rfl rfl dX8_readNumber_31 ?_
        refine lv_icmp_ge (tgt := 92) hx hb dX8_readNumber_34 (by decide) (fun c_5 => ?_) (fun c_5 => ?_)
        · have he_6 : f_X8_readNumber_L26 (n + 1) T_26 x1_26 x2_26 x3_26 x4_26 = (x3_26, x4_26, T_26) := ((ip c_5 rfl))
          exact hex_26 _ he_6.symm _ _ hP hS ls (lv_sub hl [0, 1, 2, 3, 4] rfl)
        · refine lv_aload_n hx hb dX8_readNumber_37 rfl (lv_at hl 0 rfl) ?_
          refine xcV_iR (b := 1) (As := []) (rest := []) hC hP hS (k_X8_letter l X T_26) (cwV 0 hts gX8_readNumber_X8_letter rfl rfl rfl hd_X8_letter ⟨Nat.le_of_ble_eq_true rfl, Nat.le_of_ble_eq_true rfl⟩) xo_X8 rfl rfl rfl hl.1 (Nat.le_of_ble_eq_true rfl) dX8_readNumber_38 (fun r_7 hr_7 H locs hP hS => ?_)
          refine lv_bipush (v := 48) hx hb dX8_readNumber_41 (by decide) ?_
          refine lv_bipush (v := 57) hx hb dX8_readNumber_43 (by decide) ?_
          refine xcSN_iR (As := [.int r_7, .int 48, .int 57]) (rest := []) hC hP hS (k_X10_within l X T_26 r_7 48 57) (va_cnB (host := "AbsentPraise") 3 hts gX8_readNumber_X10_within_n130 rfl rfl rfl (xn_1 hN) (hts (.initialized RX10) (List.mem_of_getElem? (i := 16) rfl)) hs_X10_within ⟨Nat.le_of_ble_eq_true rfl, Nat.le_of_ble_eq_true rfl⟩) (hts (.static yX10_within) (List.mem_of_getElem? (i := 15) rfl)) rfl rfl hl.1 (Nat.le_of_ble_eq_true rfl) dX8_readNumber_45 (fun r_8 hp_r_8 H locs hP hS => ?_)
          obtain ⟨hr_8, hzr_8⟩ := hp_r_8
          refine lv_if_eq (tgt := 92) hx hb dX8_readNumber_48 (by decide) (fun c_9 => ?_) (fun c_9 => ?_)
          · have he_10 : f_X8_readNumber_L26 (n + 1) T_26 x1_26 x2_26 x3_26 x4_26 = (x3_26, x4_26, T_26) := (by have hr_7 := hr_7.symm; have hr_8 := hr_8.symm; subst hr_7 hr_8; exact (iN c_5 (ip c_9 rfl)))
            exact hex_26 _ he_10.symm _ _ hP hS ls (lv_sub hl [0, 1, 2, 3, 4] rfl)
          · refine lv_iload_n hx hb dX8_readNumber_51 rfl (lv_at hl 3 rfl) ?_
            refine lv_iconst (v := 3) hx hb dX8_readNumber_52 (by decide) ?_
            refine lv_icmp_ge (tgt := 72) hx hb dX8_readNumber_53 (by decide) (fun c_11 => ?_) (fun c_11 => ?_)
            · refine lv_iload hx hb dX8_readNumber_72 (lv_at hl 4 rfl) ?_
              refine lv_istore (lv' := [(4, .int x4_26), (0, .ref (X.2.1 1)), (1, .int x1_26), (2, .int x2_26), (3, .int x3_26)]) hx hb dX8_readNumber_74 hl (by decide) rfl (fun ls hl => ?_)
              refine lv_iinc (v := (x3_26 + 1)) (lv' := [(3, .int (x3_26 + 1)), (4, .int x4_26), (0, .ref (X.2.1 1)), (1, .int x1_26), (2, .int x2_26)]) hx hb dX8_readNumber_76 hl (k := 4) rfl rfl (by decide) rfl (fun ls hl => ?_)
              refine lv_aload_n hx hb dX8_readNumber_79 rfl (lv_at hl 2 rfl) ?_
              refine lv_dup hx hb dX8_readNumber_80 rfl ?_
              refine xget (ref := "AbsentPraise$Telling") (T := TX8) (v := .int (T_26 1 5)) hC hP hin_X8 xo_X8 rfl 5 (by decide) (List.mem_of_getElem? (i := 2) rfl) rfl rfl dX8_readNumber_81 ?_
              refine lv_iconst (v := 1) hx hb dX8_readNumber_84 (by decide) ?_
              refine lv_iadd hx hb dX8_readNumber_85 ?_
              refine xput (ref := "AbsentPraise$Telling") (T := TX8) (ty := .int) hC hP hS (by decide) hin_X8 tyX8 tyX8_ok nmX8 xo_X8 rfl 5 (by decide) (List.mem_of_getElem? (i := 2) rfl) rfl rfl rfl rfl rfl (Nat.le_of_ble_eq_true rfl) dX8_readNumber_86 rfl (fun S_12 hS_12 H locs hP hS => ?_)
              refine lv_goto (tgt := 26) hx hb dX8_readNumber_89 (by decide) ?_
              have he_13 : f_X8_readNumber_L26 (n + 1) T_26 x1_26 x2_26 x3_26 x4_26 = f_X8_readNumber_L26 n S_12 x1_26 x2_26 (x3_26 + 1) x4_26 := (by have hr_7 := hr_7.symm; have hr_8 := hr_8.symm; have hS_12 := hS_12.symm; subst hr_7 hr_8 hS_12; exact (iN c_5 (iN c_9 (ip c_11 rfl))))
              exact ih_26 S_12 x1_26 x2_26 (x3_26 + 1) x4_26 (by have hr_7 := hr_7.symm; have hr_8 := hr_8.symm; have hS_12 := hS_12.symm; subst hr_7 hr_8 hS_12; exact (sp (sn (sn hs_26 c_5) c_9) c_11)) (fun q hq => hex_26 q (hq.trans he_13.symm)) _ _ hP hS ls (lv_sub hl [2, 3, 4, 0, 1] rfl)
            · refine lv_iload hx hb dX8_readNumber_56 (lv_at hl 4 rfl) ?_
              refine lv_bipush (v := 10) hx hb dX8_readNumber_58 (by decide) ?_
              refine lv_imul hx hb dX8_readNumber_60 ?_
              refine lv_aload_n hx hb dX8_readNumber_61 rfl (lv_at hl 0 rfl) ?_
              refine xcV_iR (b := 1) (As := []) (rest := [.int (x4_26 * 10)]) hC hP hS (k_X8_letter l X T_26) (cwV 0 hts gX8_readNumber_X8_letter rfl rfl rfl hd_X8_letter ⟨Nat.le_of_ble_eq_true rfl, Nat.le_of_ble_eq_true rfl⟩) xo_X8 rfl rfl rfl hl.1 (Nat.le_of_ble_eq_true rfl) dX8_readNumber_62 (fun r_14 hr_14 H locs hP hS => ?_)
              refine lv_iadd hx hb dX8_readNumber_65 ?_
              refine lv_bipush (v := 48) hx hb dX8_readNumber_66 (by decide) ?_
              refine lv_isub hx hb dX8_readNumber_68 ?_
              refine lv_goto (tgt := 74) hx hb dX8_readNumber_69 (by decide) ?_
              refine lv_istore (lv' := [(4, .int (((x4_26 * 10) + r_14) - 48)), (0, .ref (X.2.1 1)), (1, .int x1_26), (2, .int x2_26), (3, .int x3_26)]) hx hb dX8_readNumber_74 hl (by decide) rfl (fun ls hl => ?_)
              refine lv_iinc (v := (x3_26 + 1)) (lv' := [(3, .int (x3_26 + 1)), (4, .int (((x4_26 * 10) + r_14) - 48)), (0, .ref (X.2.1 1)), (1, .int x1_26), (2, .int x2_26)]) hx hb dX8_readNumber_76 hl (k := 4) rfl rfl (by decide) rfl (fun ls hl => ?_)
              refine lv_aload_n hx hb dX8_readNumber_79 rfl (lv_at hl 2 rfl) ?_
              refine lv_dup hx hb dX8_readNumber_80 rfl ?_
              refine xget (ref := "AbsentPraise$Telling") (T := TX8) (v := .int (T_26 1 5)) hC hP hin_X8 xo_X8 rfl 5 (by decide) (List.mem_of_getElem? (i := 2) rfl) rfl rfl dX8_readNumber_81 ?_
              refine lv_iconst (v := 1) hx hb dX8_readNumber_84 (by decide) ?_
              refine lv_iadd hx hb dX8_readNumber_85 ?_
              refine xput (ref := "AbsentPraise$Telling") (T := TX8) (ty := .int) hC hP hS (by decide) hin_X8 tyX8 tyX8_ok nmX8 xo_X8 rfl 5 (by decide) (List.mem_of_getElem? (i := 2) rfl) rfl rfl rfl rfl rfl (Nat.le_of_ble_eq_true rfl) dX8_readNumber_86 rfl (fun S_15 hS_15 H locs hP hS => ?_)
              refine lv_goto (tgt := 26) hx hb dX8_readNumber_89 (by decide) ?_
              have he_16 : f_X8_readNumber_L26 (n + 1) T_26 x1_26 x2_26 x3_26 x4_26 = f_X8_readNumber_L26 n S_15 x1_26 x2_26 (x3_26 + 1) (((x4_26 * 10) + r_14) - 48) := (by have hr_7 := hr_7.symm; have hr_8 := hr_8.symm; have hr_14 := hr_14.symm; have hS_15 := hS_15.symm; subst hr_7 hr_8 hr_14 hS_15; exact (iN c_5 (iN c_9 (iN c_11 rfl))))
              exact ih_26 S_15 x1_26 x2_26 (x3_26 + 1) (((x4_26 * 10) + r_14) - 48) (by have hr_7 := hr_7.symm; have hr_8 := hr_8.symm; have hr_14 := hr_14.symm; have hS_15 := hS_15.symm; subst hr_7 hr_8 hr_14 hS_15; exact (sn (sn (sn hs_26 c_5) c_9) c_11)) (fun q hq => hex_26 q (hq.trans he_16.symm)) _ _ hP hS ls (lv_sub hl [2, 3, 4, 0, 1] rfl)
    refine hLp_26 ((fu (S_4 1 5) (S_4 1 2))) S_4 p0 p1 0 0 (by have hS_3 := hS_3.symm; have hS_4 := hS_4.symm; subst hS_3 hS_4; exact nl (nr (sp hs c_1))) (fun q_26 hq_26 H locs hP hS ls hl => ?_) _ _ hP hS ls (lv_sub hl [2, 3, 4, 1, 0] rfl)
    refine lv_iload_n hx hb dX8_readNumber_92 rfl (lv_at hl 3 rfl) ?_
    refine lv_if_ne (tgt := 108) hx hb dX8_readNumber_93 (by decide) (fun c_17 => ?_) (fun c_17 => ?_)
    · refine lv_iload_n hx hb dX8_readNumber_108 rfl (lv_at hl 3 rfl) ?_
      refine lv_iconst (v := 3) hx hb dX8_readNumber_109 (by decide) ?_
      refine lv_icmp_gt (tgt := 123) hx hb dX8_readNumber_110 (by decide) (fun c_18 => ?_) (fun c_18 => ?_)
      · refine lv_aload_n hx hb dX8_readNumber_123 rfl (lv_at hl 0 rfl) ?_
        refine lv_iconst (v := 2) hx hb dX8_readNumber_124 (by decide) ?_
        refine lv_aload_n hx hb dX8_readNumber_125 rfl (lv_at hl 0 rfl) ?_
        refine xget (ref := "AbsentPraise$Telling") (T := TX8) (v := .int (q_26.2.2 1 6)) hC hP hin_X8 xo_X8 rfl 6 (by decide) (List.mem_of_getElem? (i := 3) rfl) rfl rfl dX8_readNumber_126 ?_
        refine xcV_vW (b := 1) (As := [.int 2, .int (q_26.2.2 1 6)]) (rest := []) hC hP hS (k_X8_blame l X q_26.2.2 2 (q_26.2.2 1 6)) (cwV 2 hts gX8_readNumber_X8_blame rfl rfl rfl hd_X8_blame ⟨Nat.le_of_ble_eq_true rfl, Nat.le_of_ble_eq_true rfl⟩) xo_X8 rfl rfl rfl hl.1 (Nat.le_of_ble_eq_true rfl) dX8_readNumber_129 (fun S_19 hS_19 H locs hP hS => ?_)
        refine lv_iload hx hb dX8_readNumber_132 (lv_at hl 4 rfl) ?_
        exact xret_iW hC hP hS hb hr ((by have hS_3 := hS_3.symm; have hS_4 := hS_4.symm; have hq_26 := hq_26.symm; have hS_19 := hS_19.symm; subst hS_3 hS_4 hq_26 hS_19; exact (ip c_1 (iN c_17 (ip c_18 rfl))))) dX8_readNumber_134 hlocks
      · refine lv_iload hx hb dX8_readNumber_113 (lv_at hl 4 rfl) ?_
        refine lv_iload_n hx hb dX8_readNumber_115 rfl (lv_at hl 1 rfl) ?_
        refine lv_iload_n hx hb dX8_readNumber_116 rfl (lv_at hl 2 rfl) ?_
        refine xcSN_iR (As := [.int q_26.2.1, .int p0, .int p1]) (rest := []) hC hP hS (k_X10_within l X q_26.2.2 q_26.2.1 p0 p1) (va_cnB (host := "AbsentPraise") 3 hts gX8_readNumber_X10_within_n130 rfl rfl rfl (xn_1 hN) (hts (.initialized RX10) (List.mem_of_getElem? (i := 16) rfl)) hs_X10_within ⟨Nat.le_of_ble_eq_true rfl, Nat.le_of_ble_eq_true rfl⟩) (hts (.static yX10_within) (List.mem_of_getElem? (i := 15) rfl)) rfl rfl hl.1 (Nat.le_of_ble_eq_true rfl) dX8_readNumber_117 (fun r_20 hp_r_20 H locs hP hS => ?_)
        obtain ⟨hr_20, hzr_20⟩ := hp_r_20
        refine lv_if_ne (tgt := 132) hx hb dX8_readNumber_120 (by decide) (fun c_21 => ?_) (fun c_21 => ?_)
        · refine lv_iload hx hb dX8_readNumber_132 (lv_at hl 4 rfl) ?_
          exact xret_iW hC hP hS hb hr ((by have hS_3 := hS_3.symm; have hS_4 := hS_4.symm; have hq_26 := hq_26.symm; have hr_20 := hr_20.symm; subst hS_3 hS_4 hq_26 hr_20; exact (ip c_1 (iN c_17 (iN c_18 (iN c_21 rfl)))))) dX8_readNumber_134 hlocks
        · refine lv_aload_n hx hb dX8_readNumber_123 rfl (lv_at hl 0 rfl) ?_
          refine lv_iconst (v := 2) hx hb dX8_readNumber_124 (by decide) ?_
          refine lv_aload_n hx hb dX8_readNumber_125 rfl (lv_at hl 0 rfl) ?_
          refine xget (ref := "AbsentPraise$Telling") (T := TX8) (v := .int (q_26.2.2 1 6)) hC hP hin_X8 xo_X8 rfl 6 (by decide) (List.mem_of_getElem? (i := 3) rfl) rfl rfl dX8_readNumber_126 ?_
          refine xcV_vW (b := 1) (As := [.int 2, .int (q_26.2.2 1 6)]) (rest := []) hC hP hS (k_X8_blame l X q_26.2.2 2 (q_26.2.2 1 6)) (cwV 2 hts gX8_readNumber_X8_blame rfl rfl rfl hd_X8_blame ⟨Nat.le_of_ble_eq_true rfl, Nat.le_of_ble_eq_true rfl⟩) xo_X8 rfl rfl rfl hl.1 (Nat.le_of_ble_eq_true rfl) dX8_readNumber_129 (fun S_22 hS_22 H locs hP hS => ?_)
          refine lv_iload hx hb dX8_readNumber_132 (lv_at hl 4 rfl) ?_
          exact xret_iW hC hP hS hb hr ((by have hS_3 := hS_3.symm; have hS_4 := hS_4.symm; have hq_26 := hq_26.symm; have hr_20 := hr_20.symm; have hS_22 := hS_22.symm; subst hS_3 hS_4 hq_26 hr_20 hS_22; exact (ip c_1 (iN c_17 (iN c_18 (ip c_21 rfl)))))) dX8_readNumber_134 hlocks
    · refine lv_aload_n hx hb dX8_readNumber_96 rfl (lv_at hl 0 rfl) ?_
      refine lv_iconst (v := 1) hx hb dX8_readNumber_97 (by decide) ?_
      refine lv_aload_n hx hb dX8_readNumber_98 rfl (lv_at hl 0 rfl) ?_
      refine xget (ref := "AbsentPraise$Telling") (T := TX8) (v := .int (q_26.2.2 1 6)) hC hP hin_X8 xo_X8 rfl 6 (by decide) (List.mem_of_getElem? (i := 3) rfl) rfl rfl dX8_readNumber_99 ?_
      refine xcV_vW (b := 1) (As := [.int 1, .int (q_26.2.2 1 6)]) (rest := []) hC hP hS (k_X8_blame l X q_26.2.2 1 (q_26.2.2 1 6)) (cwV 2 hts gX8_readNumber_X8_blame rfl rfl rfl hd_X8_blame ⟨Nat.le_of_ble_eq_true rfl, Nat.le_of_ble_eq_true rfl⟩) xo_X8 rfl rfl rfl hl.1 (Nat.le_of_ble_eq_true rfl) dX8_readNumber_102 (fun S_23 hS_23 H locs hP hS => ?_)
      refine lv_goto (tgt := 132) hx hb dX8_readNumber_105 (by decide) ?_
      refine lv_iload hx hb dX8_readNumber_132 (lv_at hl 4 rfl) ?_
      exact xret_iW hC hP hS hb hr ((by have hS_3 := hS_3.symm; have hS_4 := hS_4.symm; have hq_26 := hq_26.symm; have hS_23 := hS_23.symm; subst hS_3 hS_4 hq_26 hS_23; exact (ip c_1 (ip c_17 rfl)))) dX8_readNumber_134 hlocks
  · refine lv_iconst (v := 0) hx hb dX8_readNumber_7 (by decide) ?_
    exact xret_iW hC hP hS hb hr (((iN c_1 rfl))) dX8_readNumber_8 hlocks
theorem hd_X8_readRooms : yX8_readRooms.cls = RX8 ∧ yX8_readRooms.cls ≠ "java/lang/invoke/MethodHandle" ∧ yX8_readRooms.cls ≠ "java/lang/invoke/VarHandle" ∧ (parseMethodDescriptor yX8_readRooms.desc).map (fun d => d.parameters.length) = some 0 := by decide +kernel
set_option maxHeartbeats 4000000 in
set_option maxRecDepth 100000 in
theorem k_X8_readRooms (l : Launch) (X : xX) (S : xS) (hs : s_X8_readRooms S) : Met l yX8_readRooms wsX8_readRooms ({ frames := 3, cells := 0, slots := 0, locals := 64 } : Room) (va_Pc [.ref (X.2.1 1)] (xI X S)) (va_Qv (fun u : xS => u = (f_X8_readRooms S)) (xI X) (xA X)) 0 0 (xA X) := by
  refine Met.ofW (cc := cX8_readRooms) (maxL := 3) (ret := none) (by decide +kernel) rfl ?_
  intro p e s m args below meth c s₁ B hml hv
  obtain ⟨rfl, hP, hK, hN, hJ⟩ := hv
  have hx := B.exec
  have hb := B.bytes
  have hr := B.returns
  have hts := atoms_spec (ws := wsX8_readRooms) B.pre
  have hown : s.vm.findClass RX8 = some m.cls := findClass_of_methodNamed B.named
  have hlocks := B.notSynchronized
  have hC : xC X p m c cX8_readRooms 3 s _ wsX8_readRooms RX8 := ⟨⟨hx, hb, hml, hown, hts⟩, hK, hN, hJ⟩
  have hS : va_S (xA X) s.heap s.heap [] := va_S.rf
  have hin_X2 : ∀ w ∈ u_ws RX2 TX2 10, w ∈ wsX8_readRooms := by decide +kernel
  have hin_X8 : ∀ w ∈ u_ws RX8 TX8 8, w ∈ wsX8_readRooms := by decide +kernel
  have hl := lv_entry ([.ref (X.2.1 1)]) (n := 3) (Nat.le_of_ble_eq_true rfl)
  rw [lg_entry_eq]
  generalize (lg_sl ([.ref (X.2.1 1)]) ++ List.replicate (3 - (lg_sl ([.ref (X.2.1 1)])).length) Slot.unset).toArray = ls at hl ⊢
  have hl : lv_has ls 3 [(0, .ref (X.2.1 1))] := hl
  refine lv_aload_n hx hb dX8_readRooms_0 rfl (lv_at hl 0 rfl) ?_
  refine lv_iconst (v := 2) hx hb dX8_readRooms_1 (by decide) ?_
  refine lv_bipush (v := 6) hx hb dX8_readRooms_2 (by decide) ?_
  have hn_1 : s_X8_readNumber S 2 6 := (nl hs)
  refine xcV_iW (b := 1) (As := [.int 2, .int 6]) (rest := []) hC hP hS (k_X8_readNumber l X S 2 6 hn_1) (cwV 2 hts gX8_readRooms_X8_readNumber rfl rfl rfl hd_X8_readNumber ⟨Nat.le_of_ble_eq_true rfl, Nat.le_of_ble_eq_true rfl⟩) xo_X8 rfl rfl rfl hl.1 (Nat.le_of_ble_eq_true rfl) dX8_readRooms_4 (fun r_2 S_3 hp_r_2 H locs hP hS => ?_)
  obtain ⟨hr_2, hS_3⟩ := hp_r_2
  refine lv_istore_n (lv' := [(1, .int r_2), (0, .ref (X.2.1 1))]) hx hb dX8_readRooms_7 rfl hl (by decide) rfl (fun ls hl => ?_)
  refine lv_aload_n hx hb dX8_readRooms_8 rfl (lv_at hl 1 rfl) ?_
  refine lv_iconst (v := 0) hx hb dX8_readRooms_9 (by decide) ?_
  refine lv_iload_n hx hb dX8_readRooms_10 rfl (lv_at hl 0 rfl) ?_
  refine xcSN_iR (As := [.int r_2]) (rest := [.int 0, .ref (X.2.1 1)]) hC hP hS (k_X10_bit l X S_3 r_2) (va_cnB (host := "AbsentPraise") 1 hts gX8_readRooms_X10_bit_n98 rfl rfl rfl (xn_2 hN) (hts (.initialized RX10) (List.mem_of_getElem? (i := 23) rfl)) hs_X10_bit ⟨Nat.le_of_ble_eq_true rfl, Nat.le_of_ble_eq_true rfl⟩) (hts (.static yX10_bit) (List.mem_of_getElem? (i := 30) rfl)) rfl rfl hl.1 (Nat.le_of_ble_eq_true rfl) dX8_readRooms_11 (fun r_5 hr_5 H locs hP hS => ?_)
  refine lv_iconst (v := 1) hx hb dX8_readRooms_14 (by decide) ?_
  refine lv_isub hx hb dX8_readRooms_15 ?_
  have hn_6 : s_X8_readNumber S_3 0 (r_5 - 1) := (by have hr_2 := hr_2.symm; have hS_3 := hS_3.symm; have hr_5 := hr_5.symm; subst hr_2 hS_3 hr_5; exact nl (nr hs))
  refine xcV_iW (b := 1) (As := [.int 0, .int (r_5 - 1)]) (rest := []) hC hP hS (k_X8_readNumber l X S_3 0 (r_5 - 1) hn_6) (cwV 2 hts gX8_readRooms_X8_readNumber rfl rfl rfl hd_X8_readNumber ⟨Nat.le_of_ble_eq_true rfl, Nat.le_of_ble_eq_true rfl⟩) xo_X8 rfl rfl rfl hl.1 (Nat.le_of_ble_eq_true rfl) dX8_readRooms_16 (fun r_7 S_8 hp_r_7 H locs hP hS => ?_)
  obtain ⟨hr_7, hS_8⟩ := hp_r_7
  refine lv_istore_n (lv' := [(2, .int r_7), (1, .int r_2), (0, .ref (X.2.1 1))]) hx hb dX8_readRooms_19 rfl hl (by decide) rfl (fun ls hl => ?_)
  refine lv_aload_n hx hb dX8_readRooms_20 rfl (lv_at hl 2 rfl) ?_
  refine xget (ref := "AbsentPraise$Telling") (T := TX8) (v := .int (S_8 1 3)) hC hP hin_X8 xo_X8 rfl 3 (by decide) (List.mem_of_getElem? (i := 1) rfl) rfl rfl dX8_readRooms_21 ?_
  refine lv_if_ne (tgt := 43) hx hb dX8_readRooms_24 (by decide) (fun c_10 => ?_) (fun c_10 => ?_)
  · exact xret_v hC hP hS hb hr ((by have hr_2 := hr_2.symm; have hS_3 := hS_3.symm; have hr_5 := hr_5.symm; have hr_7 := hr_7.symm; have hS_8 := hS_8.symm; subst hr_2 hS_3 hr_5 hr_7 hS_8; exact (iN c_10 rfl))) dX8_readRooms_43 hlocks
  · refine lv_aload_n hx hb dX8_readRooms_27 rfl (lv_at hl 2 rfl) ?_
    refine xget (ref := "AbsentPraise$Telling") (T := TX8) (v := .ref (X.2.1 3)) hC hP hin_X8 xo_X8 rfl 1 (by decide) (List.mem_of_getElem? (i := 2) rfl) rfl rfl dX8_readRooms_28 ?_
    refine lv_iload_n hx hb dX8_readRooms_31 rfl (lv_at hl 1 rfl) ?_
    refine xput (ref := "AbsentPraise$Hill") (T := TX2) (ty := .int) hC hP hS (isH_lt (by decide)) hin_X2 tyX2 tyX2_ok nmX2 (xo_H (by decide)) rfl 5 (by decide) (List.mem_of_getElem? (i := 3) rfl) rfl rfl rfl rfl rfl (Nat.le_of_ble_eq_true rfl) dX8_readRooms_32 (xn_X2_5 (by decide)) (fun S_11 hS_11 H locs hP hS => ?_)
    refine lv_aload_n hx hb dX8_readRooms_35 rfl (lv_at hl 2 rfl) ?_
    refine xget (ref := "AbsentPraise$Telling") (T := TX8) (v := .ref (X.2.1 3)) hC hP hin_X8 xo_X8 rfl 1 (by decide) (List.mem_of_getElem? (i := 2) rfl) rfl rfl dX8_readRooms_36 ?_
    refine lv_iload_n hx hb dX8_readRooms_39 rfl (lv_at hl 0 rfl) ?_
    refine xput (ref := "AbsentPraise$Hill") (T := TX2) (ty := .int) hC hP hS (isH_lt (by decide)) hin_X2 tyX2 tyX2_ok nmX2 (xo_H (by decide)) rfl 6 (by decide) (List.mem_of_getElem? (i := 4) rfl) rfl rfl rfl rfl rfl (Nat.le_of_ble_eq_true rfl) dX8_readRooms_40 (xn_X2_6 (by decide)) (fun S_12 hS_12 H locs hP hS => ?_)
    exact xret_v hC hP hS hb hr ((by have hr_2 := hr_2.symm; have hS_3 := hS_3.symm; have hr_5 := hr_5.symm; have hr_7 := hr_7.symm; have hS_8 := hS_8.symm; have hS_11 := hS_11.symm; have hS_12 := hS_12.symm; subst hr_2 hS_3 hr_5 hr_7 hS_8 hS_11 hS_12; exact (ip c_10 rfl))) dX8_readRooms_43 hlocks
theorem hd_X8_readBench : yX8_readBench.cls = RX8 ∧ yX8_readBench.cls ≠ "java/lang/invoke/MethodHandle" ∧ yX8_readBench.cls ≠ "java/lang/invoke/VarHandle" ∧ (parseMethodDescriptor yX8_readBench.desc).map (fun d => d.parameters.length) = some 0 := by decide +kernel
set_option maxHeartbeats 4000000 in
set_option maxRecDepth 100000 in
theorem k_X8_readBench (l : Launch) (X : xX) (S : xS) (hs : s_X8_readBench S) : Met l yX8_readBench wsX8_readBench ({ frames := 3, cells := 0, slots := 0, locals := 64 } : Room) (va_Pc [.ref (X.2.1 1)] (xI X S)) (va_Qv (fun u : xS => u = (f_X8_readBench S)) (xI X) (xA X)) 0 0 (xA X) := by
  refine Met.ofW (cc := cX8_readBench) (maxL := 3) (ret := none) (by decide +kernel) rfl ?_
  intro p e s m args below meth c s₁ B hml hv
  obtain ⟨rfl, hP, hK, hN, hJ⟩ := hv
  have hx := B.exec
  have hb := B.bytes
  have hr := B.returns
  have hts := atoms_spec (ws := wsX8_readBench) B.pre
  have hown : s.vm.findClass RX8 = some m.cls := findClass_of_methodNamed B.named
  have hlocks := B.notSynchronized
  have hC : xC X p m c cX8_readBench 3 s _ wsX8_readBench RX8 := ⟨⟨hx, hb, hml, hown, hts⟩, hK, hN, hJ⟩
  have hS : va_S (xA X) s.heap s.heap [] := va_S.rf
  have hin_X2 : ∀ w ∈ u_ws RX2 TX2 10, w ∈ wsX8_readBench := by decide +kernel
  have hin_X8 : ∀ w ∈ u_ws RX8 TX8 8, w ∈ wsX8_readBench := by decide +kernel
  have hl := lv_entry ([.ref (X.2.1 1)]) (n := 3) (Nat.le_of_ble_eq_true rfl)
  rw [lg_entry_eq]
  generalize (lg_sl ([.ref (X.2.1 1)]) ++ List.replicate (3 - (lg_sl ([.ref (X.2.1 1)])).length) Slot.unset).toArray = ls at hl ⊢
  have hl : lv_has ls 3 [(0, .ref (X.2.1 1))] := hl
  refine lv_aload_n hx hb dX8_readBench_0 rfl (lv_at hl 0 rfl) ?_
  refine lv_iconst (v := 0) hx hb dX8_readBench_1 (by decide) ?_
  refine lv_aload_n hx hb dX8_readBench_2 rfl (lv_at hl 0 rfl) ?_
  refine xget (ref := "AbsentPraise$Telling") (T := TX8) (v := .ref (X.2.1 3)) hC hP hin_X8 xo_X8 rfl 1 (by decide) (List.mem_of_getElem? (i := 1) rfl) rfl rfl dX8_readBench_3 ?_
  refine xget (ref := "AbsentPraise$Hill") (T := TX2) (v := .int (S 3 5)) hC hP hin_X2 (xo_H (by decide)) rfl 5 (by decide) (List.mem_of_getElem? (i := 2) rfl) rfl rfl dX8_readBench_6 ?_
  refine lv_iconst (v := 1) hx hb dX8_readBench_9 (by decide) ?_
  refine lv_isub hx hb dX8_readBench_10 ?_
  have hn_1 : s_X8_readNumber S 0 ((S 3 5) - 1) := (nl hs)
  refine xcV_iW (b := 1) (As := [.int 0, .int ((S 3 5) - 1)]) (rest := []) hC hP hS (k_X8_readNumber l X S 0 ((S 3 5) - 1) hn_1) (cwV 2 hts gX8_readBench_X8_readNumber rfl rfl rfl hd_X8_readNumber ⟨Nat.le_of_ble_eq_true rfl, Nat.le_of_ble_eq_true rfl⟩) xo_X8 rfl rfl rfl hl.1 (Nat.le_of_ble_eq_true rfl) dX8_readBench_11 (fun r_2 S_3 hp_r_2 H locs hP hS => ?_)
  obtain ⟨hr_2, hS_3⟩ := hp_r_2
  refine lv_istore_n (lv' := [(1, .int r_2), (0, .ref (X.2.1 1))]) hx hb dX8_readBench_14 rfl hl (by decide) rfl (fun ls hl => ?_)
  refine lv_aload_n hx hb dX8_readBench_15 rfl (lv_at hl 1 rfl) ?_
  refine lv_iconst (v := 0) hx hb dX8_readBench_16 (by decide) ?_
  refine lv_aload_n hx hb dX8_readBench_17 rfl (lv_at hl 1 rfl) ?_
  refine xget (ref := "AbsentPraise$Telling") (T := TX8) (v := .ref (X.2.1 3)) hC hP hin_X8 xo_X8 rfl 1 (by decide) (List.mem_of_getElem? (i := 1) rfl) rfl rfl dX8_readBench_18 ?_
  refine xget (ref := "AbsentPraise$Hill") (T := TX2) (v := .int (S_3 3 5)) hC hP hin_X2 (xo_H (by decide)) rfl 5 (by decide) (List.mem_of_getElem? (i := 2) rfl) rfl rfl dX8_readBench_21 ?_
  refine lv_iconst (v := 1) hx hb dX8_readBench_24 (by decide) ?_
  refine lv_isub hx hb dX8_readBench_25 ?_
  have hn_5 : s_X8_readNumber S_3 0 ((S_3 3 5) - 1) := (by have hr_2 := hr_2.symm; have hS_3 := hS_3.symm; subst hr_2 hS_3; exact nl (nr hs))
  refine xcV_iW (b := 1) (As := [.int 0, .int ((S_3 3 5) - 1)]) (rest := []) hC hP hS (k_X8_readNumber l X S_3 0 ((S_3 3 5) - 1) hn_5) (cwV 2 hts gX8_readBench_X8_readNumber rfl rfl rfl hd_X8_readNumber ⟨Nat.le_of_ble_eq_true rfl, Nat.le_of_ble_eq_true rfl⟩) xo_X8 rfl rfl rfl hl.1 (Nat.le_of_ble_eq_true rfl) dX8_readBench_26 (fun r_6 S_7 hp_r_6 H locs hP hS => ?_)
  obtain ⟨hr_6, hS_7⟩ := hp_r_6
  refine lv_istore_n (lv' := [(2, .int r_6), (1, .int r_2), (0, .ref (X.2.1 1))]) hx hb dX8_readBench_29 rfl hl (by decide) rfl (fun ls hl => ?_)
  refine lv_aload_n hx hb dX8_readBench_30 rfl (lv_at hl 2 rfl) ?_
  refine lv_iload_n hx hb dX8_readBench_31 rfl (lv_at hl 1 rfl) ?_
  refine lv_iload_n hx hb dX8_readBench_32 rfl (lv_at hl 0 rfl) ?_
  refine lv_icmp_eq (tgt := 48) hx hb dX8_readBench_33 (by decide) (fun c_9 => ?_) (fun c_9 => ?_)
  · refine lv_iconst (v := 4) hx hb dX8_readBench_48 (by decide) ?_
    refine lv_goto (tgt := 53) hx hb dX8_readBench_49 (by decide) ?_
    refine lv_aload_n hx hb dX8_readBench_53 rfl (lv_at hl 2 rfl) ?_
    refine xget (ref := "AbsentPraise$Telling") (T := TX8) (v := .int (S_7 1 6)) hC hP hin_X8 xo_X8 rfl 6 (by decide) (List.mem_of_getElem? (i := 3) rfl) rfl rfl dX8_readBench_54 ?_
    refine xcV_vW (b := 1) (As := [.int 4, .int (S_7 1 6)]) (rest := []) hC hP hS (k_X8_blame l X S_7 4 (S_7 1 6)) (cwV 2 hts gX8_readBench_X8_blame rfl rfl rfl hd_X8_blame ⟨Nat.le_of_ble_eq_true rfl, Nat.le_of_ble_eq_true rfl⟩) xo_X8 rfl rfl rfl hl.1 (Nat.le_of_ble_eq_true rfl) dX8_readBench_57 (fun S_10 hS_10 H locs hP hS => ?_)
    refine lv_aload_n hx hb dX8_readBench_60 rfl (lv_at hl 2 rfl) ?_
    refine xget (ref := "AbsentPraise$Telling") (T := TX8) (v := .int (S_10 1 3)) hC hP hin_X8 xo_X8 rfl 3 (by decide) (List.mem_of_getElem? (i := 4) rfl) rfl rfl dX8_readBench_61 ?_
    refine lv_if_ne (tgt := 76) hx hb dX8_readBench_64 (by decide) (fun c_11 => ?_) (fun c_11 => ?_)
    · exact xret_v hC hP hS hb hr ((by have hr_2 := hr_2.symm; have hS_3 := hS_3.symm; have hr_6 := hr_6.symm; have hS_7 := hS_7.symm; have hS_10 := hS_10.symm; subst hr_2 hS_3 hr_6 hS_7 hS_10; exact (ip c_9 (iN c_11 rfl)))) dX8_readBench_76 hlocks
    · refine lv_aload_n hx hb dX8_readBench_67 rfl (lv_at hl 2 rfl) ?_
      refine xget (ref := "AbsentPraise$Telling") (T := TX8) (v := .ref (X.2.1 3)) hC hP hin_X8 xo_X8 rfl 1 (by decide) (List.mem_of_getElem? (i := 1) rfl) rfl rfl dX8_readBench_68 ?_
      refine lv_iload_n hx hb dX8_readBench_71 rfl (lv_at hl 1 rfl) ?_
      refine lv_iload_n hx hb dX8_readBench_72 rfl (lv_at hl 0 rfl) ?_
      refine xcV_vW (b := 3) (As := [.int r_2, .int r_6]) (rest := []) hC hP hS (k_X2_addBench l X S_10 3 r_2 r_6 (by decide)) (cwV 2 hts gX8_readBench_X2_addBench rfl rfl rfl hd_X2_addBench ⟨Nat.le_of_ble_eq_true rfl, Nat.le_of_ble_eq_true rfl⟩) (xo_H (by decide)) rfl rfl rfl hl.1 (Nat.le_of_ble_eq_true rfl) dX8_readBench_73 (fun S_12 hS_12 H locs hP hS => ?_)
      exact xret_v hC hP hS hb hr ((by have hr_2 := hr_2.symm; have hS_3 := hS_3.symm; have hr_6 := hr_6.symm; have hS_7 := hS_7.symm; have hS_10 := hS_10.symm; have hS_12 := hS_12.symm; subst hr_2 hS_3 hr_6 hS_7 hS_10 hS_12; exact (ip c_9 (ip c_11 rfl)))) dX8_readBench_76 hlocks
  · refine lv_aload_n hx hb dX8_readBench_36 rfl (lv_at hl 2 rfl) ?_
    refine xget (ref := "AbsentPraise$Telling") (T := TX8) (v := .ref (X.2.1 3)) hC hP hin_X8 xo_X8 rfl 1 (by decide) (List.mem_of_getElem? (i := 1) rfl) rfl rfl dX8_readBench_37 ?_
    refine lv_iload_n hx hb dX8_readBench_40 rfl (lv_at hl 1 rfl) ?_
    refine lv_iload_n hx hb dX8_readBench_41 rfl (lv_at hl 0 rfl) ?_
    refine xcV_iR (b := 3) (As := [.int r_2, .int r_6]) (rest := [.ref (X.2.1 1)]) hC hP hS (k_X2_isBench l X S_7 3 r_2 r_6 (by decide)) (cwV 2 hts gX8_readBench_X2_isBench rfl rfl rfl hd_X2_isBench ⟨Nat.le_of_ble_eq_true rfl, Nat.le_of_ble_eq_true rfl⟩) (xo_H (by decide)) rfl rfl rfl hl.1 (Nat.le_of_ble_eq_true rfl) dX8_readBench_42 (fun r_13 hp_r_13 H locs hP hS => ?_)
    obtain ⟨hr_13, hzr_13⟩ := hp_r_13
    refine lv_if_eq (tgt := 52) hx hb dX8_readBench_45 (by decide) (fun c_14 => ?_) (fun c_14 => ?_)
    · refine lv_iconst (v := 0) hx hb dX8_readBench_52 (by decide) ?_
      refine lv_aload_n hx hb dX8_readBench_53 rfl (lv_at hl 2 rfl) ?_
      refine xget (ref := "AbsentPraise$Telling") (T := TX8) (v := .int (S_7 1 6)) hC hP hin_X8 xo_X8 rfl 6 (by decide) (List.mem_of_getElem? (i := 3) rfl) rfl rfl dX8_readBench_54 ?_
      refine xcV_vW (b := 1) (As := [.int 0, .int (S_7 1 6)]) (rest := []) hC hP hS (k_X8_blame l X S_7 0 (S_7 1 6)) (cwV 2 hts gX8_readBench_X8_blame rfl rfl rfl hd_X8_blame ⟨Nat.le_of_ble_eq_true rfl, Nat.le_of_ble_eq_true rfl⟩) xo_X8 rfl rfl rfl hl.1 (Nat.le_of_ble_eq_true rfl) dX8_readBench_57 (fun S_15 hS_15 H locs hP hS => ?_)
      refine lv_aload_n hx hb dX8_readBench_60 rfl (lv_at hl 2 rfl) ?_
      refine xget (ref := "AbsentPraise$Telling") (T := TX8) (v := .int (S_15 1 3)) hC hP hin_X8 xo_X8 rfl 3 (by decide) (List.mem_of_getElem? (i := 4) rfl) rfl rfl dX8_readBench_61 ?_
      refine lv_if_ne (tgt := 76) hx hb dX8_readBench_64 (by decide) (fun c_16 => ?_) (fun c_16 => ?_)
      · exact xret_v hC hP hS hb hr ((by have hr_2 := hr_2.symm; have hS_3 := hS_3.symm; have hr_6 := hr_6.symm; have hS_7 := hS_7.symm; have hr_13 := hr_13.symm; have hS_15 := hS_15.symm; subst hr_2 hS_3 hr_6 hS_7 hr_13 hS_15; exact (iN c_9 (ip c_14 (iN c_16 rfl))))) dX8_readBench_76 hlocks
      · refine lv_aload_n hx hb dX8_readBench_67 rfl (lv_at hl 2 rfl) ?_
        refine xget (ref := "AbsentPraise$Telling") (T := TX8) (v := .ref (X.2.1 3)) hC hP hin_X8 xo_X8 rfl 1 (by decide) (List.mem_of_getElem? (i := 1) rfl) rfl rfl dX8_readBench_68 ?_
        refine lv_iload_n hx hb dX8_readBench_71 rfl (lv_at hl 1 rfl) ?_
        refine lv_iload_n hx hb dX8_readBench_72 rfl (lv_at hl 0 rfl) ?_
        refine xcV_vW (b := 3) (As := [.int r_2, .int r_6]) (rest := []) hC hP hS (k_X2_addBench l X S_15 3 r_2 r_6 (by decide)) (cwV 2 hts gX8_readBench_X2_addBench rfl rfl rfl hd_X2_addBench ⟨Nat.le_of_ble_eq_true rfl, Nat.le_of_ble_eq_true rfl⟩) (xo_H (by decide)) rfl rfl rfl hl.1 (Nat.le_of_ble_eq_true rfl) dX8_readBench_73 (fun S_17 hS_17 H locs hP hS => ?_)
        exact xret_v hC hP hS hb hr ((by have hr_2 := hr_2.symm; have hS_3 := hS_3.symm; have hr_6 := hr_6.symm; have hS_7 := hS_7.symm; have hr_13 := hr_13.symm; have hS_15 := hS_15.symm; have hS_17 := hS_17.symm; subst hr_2 hS_3 hr_6 hS_7 hr_13 hS_15 hS_17; exact (iN c_9 (ip c_14 (ip c_16 rfl))))) dX8_readBench_76 hlocks
    · refine lv_iconst (v := 4) hx hb dX8_readBench_48 (by decide) ?_
      refine lv_goto (tgt := 53) hx hb dX8_readBench_49 (by decide) ?_
      refine lv_aload_n hx hb dX8_readBench_53 rfl (lv_at hl 2 rfl) ?_
      refine xget (ref := "AbsentPraise$Telling") (T := TX8) (v := .int (S_7 1 6)) hC hP hin_X8 xo_X8 rfl 6 (by decide) (List.mem_of_getElem? (i := 3) rfl) rfl rfl dX8_readBench_54 ?_
      refine xcV_vW (b := 1) (As := [.int 4, .int (S_7 1 6)]) (rest := []) hC hP hS (k_X8_blame l X S_7 4 (S_7 1 6)) (cwV 2 hts gX8_readBench_X8_blame rfl rfl rfl hd_X8_blame ⟨Nat.le_of_ble_eq_true rfl, Nat.le_of_ble_eq_true rfl⟩) xo_X8 rfl rfl rfl hl.1 (Nat.le_of_ble_eq_true rfl) dX8_readBench_57 (fun S_18 hS_18 H locs hP hS => ?_)
      refine lv_aload_n hx hb dX8_readBench_60 rfl (lv_at hl 2 rfl) ?_
      refine xget (ref := "AbsentPraise$Telling") (T := TX8) (v := .int (S_18 1 3)) hC hP hin_X8 xo_X8 rfl 3 (by decide) (List.mem_of_getElem? (i := 4) rfl) rfl rfl dX8_readBench_61 ?_
      refine lv_if_ne (tgt := 76) hx hb dX8_readBench_64 (by decide) (fun c_19 => ?_) (fun c_19 => ?_)
      · exact xret_v hC hP hS hb hr ((by have hr_2 := hr_2.symm; have hS_3 := hS_3.symm; have hr_6 := hr_6.symm; have hS_7 := hS_7.symm; have hr_13 := hr_13.symm; have hS_18 := hS_18.symm; subst hr_2 hS_3 hr_6 hS_7 hr_13 hS_18; exact (iN c_9 (iN c_14 (iN c_19 rfl))))) dX8_readBench_76 hlocks
      · refine lv_aload_n hx hb dX8_readBench_67 rfl (lv_at hl 2 rfl) ?_
        refine xget (ref := "AbsentPraise$Telling") (T := TX8) (v := .ref (X.2.1 3)) hC hP hin_X8 xo_X8 rfl 1 (by decide) (List.mem_of_getElem? (i := 1) rfl) rfl rfl dX8_readBench_68 ?_
        refine lv_iload_n hx hb dX8_readBench_71 rfl (lv_at hl 1 rfl) ?_
        refine lv_iload_n hx hb dX8_readBench_72 rfl (lv_at hl 0 rfl) ?_
        refine xcV_vW (b := 3) (As := [.int r_2, .int r_6]) (rest := []) hC hP hS (k_X2_addBench l X S_18 3 r_2 r_6 (by decide)) (cwV 2 hts gX8_readBench_X2_addBench rfl rfl rfl hd_X2_addBench ⟨Nat.le_of_ble_eq_true rfl, Nat.le_of_ble_eq_true rfl⟩) (xo_H (by decide)) rfl rfl rfl hl.1 (Nat.le_of_ble_eq_true rfl) dX8_readBench_73 (fun S_20 hS_20 H locs hP hS => ?_)
        exact xret_v hC hP hS hb hr ((by have hr_2 := hr_2.symm; have hS_3 := hS_3.symm; have hr_6 := hr_6.symm; have hS_7 := hS_7.symm; have hr_13 := hr_13.symm; have hS_18 := hS_18.symm; have hS_20 := hS_20.symm; subst hr_2 hS_3 hr_6 hS_7 hr_13 hS_18 hS_20; exact (iN c_9 (iN c_14 (ip c_19 rfl))))) dX8_readBench_76 hlocks
