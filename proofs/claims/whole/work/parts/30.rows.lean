set_option linter.all false
/-! contracts: X11_takeClause -/
theorem hd_X11_takeClause : yX11_takeClause.cls = RX11 ∧ yX11_takeClause.cls ≠ "java/lang/invoke/MethodHandle" ∧ yX11_takeClause.cls ≠ "java/lang/invoke/VarHandle" ∧ (parseMethodDescriptor yX11_takeClause.desc).map (fun d => d.parameters.length) = some 0 := by decide +kernel
set_option maxHeartbeats 4000000 in
set_option maxRecDepth 100000 in
theorem k_X11_takeClause (l : Launch) (X : xX) (S : xS) (hs : s_X11_takeClause S) : Met l yX11_takeClause wsX11_takeClause ({ frames := 5, cells := 0, slots := 0, locals := 112 } : Room) (va_Pc [.ref (X.2.1 127)] (xI X S)) (va_Qi (fun (r : Int32) (u : xS) => r = (f_X11_takeClause S).1 ∧ u = (f_X11_takeClause S).2) (xI X) (xA X)) 0 0 (xA X) := by
  refine Met.ofW (cc := cX11_takeClause) (maxL := 4) (ret := (some .int)) (by decide +kernel) rfl ?_
  intro p e s m args below meth c s₁ B hml hv
  obtain ⟨rfl, hP, hK, hN, hJ⟩ := hv
  have hx := B.exec
  have hb := B.bytes
  have hr := B.returns
  have hts := atoms_spec (ws := wsX11_takeClause) B.pre
  have hown : s.vm.findClass RX11 = some m.cls := findClass_of_methodNamed B.named
  have hlocks := B.notSynchronized
  have hC : xC X p m c cX11_takeClause 4 s _ wsX11_takeClause RX11 := ⟨⟨hx, hb, hml, hown, hts⟩, hK, hN, hJ⟩
  have hS : va_S (xA X) s.heap s.heap [] := va_S.rf
  have hin_X11 : ∀ w ∈ u_ws RX11 TX11 41, w ∈ wsX11_takeClause := by decide +kernel
  have hl := lv_entry ([.ref (X.2.1 127)]) (n := 4) (Nat.le_of_ble_eq_true rfl)
  rw [lg_entry_eq]
  generalize (lg_sl ([.ref (X.2.1 127)]) ++ List.replicate (4 - (lg_sl ([.ref (X.2.1 127)])).length) Slot.unset).toArray = ls at hl ⊢
  have hl : lv_has ls 4 [(0, .ref (X.2.1 127))] := hl
  refine lv_aload_n hx hb dX11_takeClause_0 rfl (lv_at hl 0 rfl) ?_
  have hn_1 : s_X11_here S := (nl hs)
  refine xcV_iW (b := 127) (As := []) (rest := []) hC hP hS (k_X11_here l X S hn_1) (cwV 0 hts gX11_takeClause_X11_here rfl rfl rfl hd_X11_here ⟨Nat.le_of_ble_eq_true rfl, Nat.le_of_ble_eq_true rfl⟩) xo_X11 rfl rfl rfl hl.1 (Nat.le_of_ble_eq_true rfl) dX11_takeClause_1 (fun r_2 S_3 hp_r_2 H locs hP hS => ?_)
  obtain ⟨hr_2, hS_3⟩ := hp_r_2
  refine lv_istore_n (lv' := [(1, .int r_2), (0, .ref (X.2.1 127))]) hx hb dX11_takeClause_4 rfl hl (by decide) rfl (fun ls hl => ?_)
  refine lv_iload_n hx hb dX11_takeClause_5 rfl (lv_at hl 0 rfl) ?_
  refine lv_bipush (v := 114) hx hb dX11_takeClause_6 (by decide) ?_
  refine lv_icmp_ne (tgt := 15) hx hb dX11_takeClause_8 (by decide) (fun c_5 => ?_) (fun c_5 => ?_)
  · refine lv_iload_n hx hb dX11_takeClause_15 rfl (lv_at hl 0 rfl) ?_
    refine lv_bipush (v := 98) hx hb dX11_takeClause_16 (by decide) ?_
    refine lv_icmp_ne (tgt := 25) hx hb dX11_takeClause_18 (by decide) (fun c_6 => ?_) (fun c_6 => ?_)
    · refine lv_iload_n hx hb dX11_takeClause_25 rfl (lv_at hl 0 rfl) ?_
      refine lv_bipush (v := 103) hx hb dX11_takeClause_26 (by decide) ?_
      refine lv_icmp_ne (tgt := 35) hx hb dX11_takeClause_28 (by decide) (fun c_7 => ?_) (fun c_7 => ?_)
      · refine lv_iload_n hx hb dX11_takeClause_35 rfl (lv_at hl 0 rfl) ?_
        refine lv_bipush (v := 112) hx hb dX11_takeClause_36 (by decide) ?_
        refine lv_icmp_ne (tgt := 45) hx hb dX11_takeClause_38 (by decide) (fun c_8 => ?_) (fun c_8 => ?_)
        · refine lv_iload_n hx hb dX11_takeClause_45 rfl (lv_at hl 0 rfl) ?_
          refine lv_bipush (v := 108) hx hb dX11_takeClause_46 (by decide) ?_
          refine lv_icmp_ne (tgt := 55) hx hb dX11_takeClause_48 (by decide) (fun c_9 => ?_) (fun c_9 => ?_)
          · refine lv_iconst (v := (-1)) hx hb dX11_takeClause_55 (by decide) ?_
            refine lv_istore_n (lv' := [(2, .int (-1)), (1, .int r_2), (0, .ref (X.2.1 127))]) hx hb dX11_takeClause_56 rfl hl (by decide) rfl (fun ls hl => ?_)
            refine lv_iload_n hx hb dX11_takeClause_57 rfl (lv_at hl 0 rfl) ?_
            refine lv_if_lt (tgt := 72) hx hb dX11_takeClause_58 (by decide) (fun _ => ?_) (fun c => absurd c (by decide))
            refine lv_aload_n hx hb dX11_takeClause_72 rfl (lv_at hl 2 rfl) ?_
            refine lv_iconst (v := 1) hx hb dX11_takeClause_73 (by decide) ?_
            refine lv_aload_n hx hb dX11_takeClause_74 rfl (lv_at hl 2 rfl) ?_
            refine xget (ref := "AbsentPraiseModel") (T := TX11) (v := .int (S_3 127 21)) hC hP hin_X11 xo_X11 rfl 21 (by decide) (List.mem_of_getElem? (i := 2) rfl) rfl rfl dX11_takeClause_75 ?_
            refine xcV_iW (b := 127) (As := [.int 1, .int (S_3 127 21)]) (rest := []) hC hP hS (k_X11_fails l X S_3 1 (S_3 127 21)) (cwV 2 hts gX11_takeClause_X11_fails rfl rfl rfl hd_X11_fails ⟨Nat.le_of_ble_eq_true rfl, Nat.le_of_ble_eq_true rfl⟩) xo_X11 rfl rfl rfl hl.1 (Nat.le_of_ble_eq_true rfl) dX11_takeClause_78 (fun r_10 S_11 hp_r_10 H locs hP hS => ?_)
            obtain ⟨hr_10, hS_11⟩ := hp_r_10
            exact xret_iW hC hP hS hb hr (by simp only [f_X11_takeClause, ← hr_2, ← hS_3, ← hr_10, ← hS_11, if_neg c_5, if_neg c_6, if_neg c_7, if_neg c_8, if_neg c_9]) dX11_takeClause_81 hlocks
          · refine lv_iconst (v := 4) hx hb dX11_takeClause_51 (by decide) ?_
            refine lv_goto (tgt := 56) hx hb dX11_takeClause_52 (by decide) ?_
            refine lv_istore_n (lv' := [(2, .int 4), (1, .int r_2), (0, .ref (X.2.1 127))]) hx hb dX11_takeClause_56 rfl hl (by decide) rfl (fun ls hl => ?_)
            refine lv_iload_n hx hb dX11_takeClause_57 rfl (lv_at hl 0 rfl) ?_
            refine lv_if_lt (tgt := 72) hx hb dX11_takeClause_58 (by decide) (fun c => absurd c (by decide)) (fun _ => ?_)
            refine lv_iload_n hx hb dX11_takeClause_61 rfl (lv_at hl 0 rfl) ?_
            refine lv_if_le (tgt := 82) hx hb dX11_takeClause_62 (by decide) (fun c => absurd c (by decide)) (fun _ => ?_)
            refine lv_aload_n hx hb dX11_takeClause_65 rfl (lv_at hl 2 rfl) ?_
            refine xget (ref := "AbsentPraiseModel") (T := TX11) (v := .int (S_3 127 24)) hC hP hin_X11 xo_X11 rfl 24 (by decide) (List.mem_of_getElem? (i := 1) rfl) rfl rfl dX11_takeClause_66 ?_
            refine lv_if_ne (tgt := 82) hx hb dX11_takeClause_69 (by decide) (fun c_13 => ?_) (fun c_13 => ?_)
            · refine lv_aload_n hx hb dX11_takeClause_82 rfl (lv_at hl 2 rfl) ?_
              refine lv_iload_n hx hb dX11_takeClause_83 rfl (lv_at hl 0 rfl) ?_
              refine xcV_iR (b := 127) (As := [.int 4]) (rest := []) hC hP hS (k_X11_isFull l X S_3 4) (cwV 1 hts gX11_takeClause_X11_isFull rfl rfl rfl hd_X11_isFull ⟨Nat.le_of_ble_eq_true rfl, Nat.le_of_ble_eq_true rfl⟩) xo_X11 rfl rfl rfl hl.1 (Nat.le_of_ble_eq_true rfl) dX11_takeClause_84 (fun r_14 hp_r_14 H locs hP hS => ?_)
              obtain ⟨hr_14, hzr_14⟩ := hp_r_14
              refine lv_if_eq (tgt := 100) hx hb dX11_takeClause_87 (by decide) (fun c_15 => ?_) (fun c_15 => ?_)
              · refine lv_aload_n hx hb dX11_takeClause_100 rfl (lv_at hl 2 rfl) ?_
                refine lv_dup hx hb dX11_takeClause_101 rfl ?_
                refine xget (ref := "AbsentPraiseModel") (T := TX11) (v := .int (S_3 127 21)) hC hP hin_X11 xo_X11 rfl 21 (by decide) (List.mem_of_getElem? (i := 2) rfl) rfl rfl dX11_takeClause_102 ?_
                refine lv_iconst (v := 1) hx hb dX11_takeClause_105 (by decide) ?_
                refine lv_iadd hx hb dX11_takeClause_106 ?_
                refine xput (ref := "AbsentPraiseModel") (T := TX11) (ty := .int) hC hP hS (by decide) hin_X11 tyX11 tyX11_ok nmX11 xo_X11 rfl 21 (by decide) (List.mem_of_getElem? (i := 2) rfl) rfl rfl rfl rfl rfl (Nat.le_of_ble_eq_true rfl) dX11_takeClause_107 rfl (fun S_16 hS_16 H locs hP hS => ?_)
                refine lv_aload_n hx hb dX11_takeClause_110 rfl (lv_at hl 2 rfl) ?_
                refine lv_iload_n hx hb dX11_takeClause_111 rfl (lv_at hl 0 rfl) ?_
                have hn_17 : s_X11_takeBody S_16 4 := (by have hr_2 := hr_2.symm; have hS_3 := hS_3.symm; have hr_14 := hr_14.symm; have hS_16 := hS_16.symm; subst hr_2 hS_3 hr_14 hS_16; exact nl (sp (sn (sp (sn (sn (sn (sn (nr hs) c_5) c_6) c_7) c_8) c_9) c_13) c_15))
                refine xcV_iW (b := 127) (As := [.int 4]) (rest := []) hC hP hS (k_X11_takeBody l X S_16 4 hn_17) (cwV 1 hts gX11_takeClause_X11_takeBody rfl rfl rfl hd_X11_takeBody ⟨Nat.le_of_ble_eq_true rfl, Nat.le_of_ble_eq_true rfl⟩) xo_X11 rfl rfl rfl hl.1 (Nat.le_of_ble_eq_true rfl) dX11_takeClause_112 (fun r_18 S_19 hp_r_18 H locs hP hS => ?_)
                obtain ⟨hr_18, hS_19⟩ := hp_r_18
                refine lv_istore_n (lv' := [(3, .int r_18), (2, .int 4), (1, .int r_2), (0, .ref (X.2.1 127))]) hx hb dX11_takeClause_115 rfl hl (by decide) rfl (fun ls hl => ?_)
                refine lv_iload_n hx hb dX11_takeClause_116 rfl (lv_at hl 0 rfl) ?_
                refine lv_if_le (tgt := 122) hx hb dX11_takeClause_117 (by decide) (fun c_21 => ?_) (fun c_21 => ?_)
                · refine lv_aload_n hx hb dX11_takeClause_122 rfl (lv_at hl 3 rfl) ?_
                  have hn_22 : s_X11_here S_19 := (by have hr_2 := hr_2.symm; have hS_3 := hS_3.symm; have hr_14 := hr_14.symm; have hS_16 := hS_16.symm; have hr_18 := hr_18.symm; have hS_19 := hS_19.symm; subst hr_2 hS_3 hr_14 hS_16 hr_18 hS_19; exact nl (sp (nr (sp (sn (sp (sn (sn (sn (sn (nr hs) c_5) c_6) c_7) c_8) c_9) c_13) c_15)) c_21))
                  refine xcV_iW (b := 127) (As := []) (rest := []) hC hP hS (k_X11_here l X S_19 hn_22) (cwV 0 hts gX11_takeClause_X11_here rfl rfl rfl hd_X11_here ⟨Nat.le_of_ble_eq_true rfl, Nat.le_of_ble_eq_true rfl⟩) xo_X11 rfl rfl rfl hl.1 (Nat.le_of_ble_eq_true rfl) dX11_takeClause_123 (fun r_23 S_24 hp_r_23 H locs hP hS => ?_)
                  obtain ⟨hr_23, hS_24⟩ := hp_r_23
                  refine lv_bipush (v := 59) hx hb dX11_takeClause_126 (by decide) ?_
                  refine lv_icmp_eq (tgt := 141) hx hb dX11_takeClause_128 (by decide) (fun c_26 => ?_) (fun c_26 => ?_)
                  · refine lv_aload_n hx hb dX11_takeClause_141 rfl (lv_at hl 3 rfl) ?_
                    refine lv_dup hx hb dX11_takeClause_142 rfl ?_
                    refine xget (ref := "AbsentPraiseModel") (T := TX11) (v := .int (S_24 127 21)) hC hP hin_X11 xo_X11 rfl 21 (by decide) (List.mem_of_getElem? (i := 2) rfl) rfl rfl dX11_takeClause_143 ?_
                    refine lv_iconst (v := 1) hx hb dX11_takeClause_146 (by decide) ?_
                    refine lv_iadd hx hb dX11_takeClause_147 ?_
                    refine xput (ref := "AbsentPraiseModel") (T := TX11) (ty := .int) hC hP hS (by decide) hin_X11 tyX11 tyX11_ok nmX11 xo_X11 rfl 21 (by decide) (List.mem_of_getElem? (i := 2) rfl) rfl rfl rfl rfl rfl (Nat.le_of_ble_eq_true rfl) dX11_takeClause_148 rfl (fun S_27 hS_27 H locs hP hS => ?_)
                    refine lv_iconst (v := 0) hx hb dX11_takeClause_151 (by decide) ?_
                    exact xret_iW hC hP hS hb hr (by simp only [f_X11_takeClause, ← hr_2, ← hS_3, ← hr_14, ← hS_16, ← hr_18, ← hS_19, ← hr_23, ← hS_24, ← hS_27, if_neg c_5, if_neg c_6, if_neg c_7, if_neg c_8, if_pos c_9, if_neg c_13, if_pos c_15, if_pos c_21, if_pos c_26]) dX11_takeClause_152 hlocks
                  · refine lv_aload_n hx hb dX11_takeClause_131 rfl (lv_at hl 3 rfl) ?_
                    refine lv_iconst (v := 1) hx hb dX11_takeClause_132 (by decide) ?_
                    refine lv_aload_n hx hb dX11_takeClause_133 rfl (lv_at hl 3 rfl) ?_
                    refine xget (ref := "AbsentPraiseModel") (T := TX11) (v := .int (S_24 127 21)) hC hP hin_X11 xo_X11 rfl 21 (by decide) (List.mem_of_getElem? (i := 2) rfl) rfl rfl dX11_takeClause_134 ?_
                    refine xcV_iW (b := 127) (As := [.int 1, .int (S_24 127 21)]) (rest := []) hC hP hS (k_X11_fails l X S_24 1 (S_24 127 21)) (cwV 2 hts gX11_takeClause_X11_fails rfl rfl rfl hd_X11_fails ⟨Nat.le_of_ble_eq_true rfl, Nat.le_of_ble_eq_true rfl⟩) xo_X11 rfl rfl rfl hl.1 (Nat.le_of_ble_eq_true rfl) dX11_takeClause_137 (fun r_28 S_29 hp_r_28 H locs hP hS => ?_)
                    obtain ⟨hr_28, hS_29⟩ := hp_r_28
                    exact xret_iW hC hP hS hb hr (by simp only [f_X11_takeClause, ← hr_2, ← hS_3, ← hr_14, ← hS_16, ← hr_18, ← hS_19, ← hr_23, ← hS_24, ← hr_28, ← hS_29, if_neg c_5, if_neg c_6, if_neg c_7, if_neg c_8, if_pos c_9, if_neg c_13, if_pos c_15, if_pos c_21, if_neg c_26]) dX11_takeClause_140 hlocks
                · refine lv_iload_n hx hb dX11_takeClause_120 rfl (lv_at hl 0 rfl) ?_
                  exact xret_iW hC hP hS hb hr (by simp only [f_X11_takeClause, ← hr_2, ← hS_3, ← hr_14, ← hS_16, ← hr_18, ← hS_19, if_neg c_5, if_neg c_6, if_neg c_7, if_neg c_8, if_pos c_9, if_neg c_13, if_pos c_15, if_neg c_21]) dX11_takeClause_121 hlocks
              · refine lv_aload_n hx hb dX11_takeClause_90 rfl (lv_at hl 2 rfl) ?_
                refine lv_iconst (v := 3) hx hb dX11_takeClause_91 (by decide) ?_
                refine lv_aload_n hx hb dX11_takeClause_92 rfl (lv_at hl 2 rfl) ?_
                refine xget (ref := "AbsentPraiseModel") (T := TX11) (v := .int (S_3 127 21)) hC hP hin_X11 xo_X11 rfl 21 (by decide) (List.mem_of_getElem? (i := 2) rfl) rfl rfl dX11_takeClause_93 ?_
                refine xcV_iW (b := 127) (As := [.int 3, .int (S_3 127 21)]) (rest := []) hC hP hS (k_X11_fails l X S_3 3 (S_3 127 21)) (cwV 2 hts gX11_takeClause_X11_fails rfl rfl rfl hd_X11_fails ⟨Nat.le_of_ble_eq_true rfl, Nat.le_of_ble_eq_true rfl⟩) xo_X11 rfl rfl rfl hl.1 (Nat.le_of_ble_eq_true rfl) dX11_takeClause_96 (fun r_31 S_32 hp_r_31 H locs hP hS => ?_)
                obtain ⟨hr_31, hS_32⟩ := hp_r_31
                exact xret_iW hC hP hS hb hr (by simp only [f_X11_takeClause, ← hr_2, ← hS_3, ← hr_14, ← hr_31, ← hS_32, if_neg c_5, if_neg c_6, if_neg c_7, if_neg c_8, if_pos c_9, if_neg c_13, if_neg c_15]) dX11_takeClause_99 hlocks
            · refine lv_aload_n hx hb dX11_takeClause_72 rfl (lv_at hl 2 rfl) ?_
              refine lv_iconst (v := 1) hx hb dX11_takeClause_73 (by decide) ?_
              refine lv_aload_n hx hb dX11_takeClause_74 rfl (lv_at hl 2 rfl) ?_
              refine xget (ref := "AbsentPraiseModel") (T := TX11) (v := .int (S_3 127 21)) hC hP hin_X11 xo_X11 rfl 21 (by decide) (List.mem_of_getElem? (i := 2) rfl) rfl rfl dX11_takeClause_75 ?_
              refine xcV_iW (b := 127) (As := [.int 1, .int (S_3 127 21)]) (rest := []) hC hP hS (k_X11_fails l X S_3 1 (S_3 127 21)) (cwV 2 hts gX11_takeClause_X11_fails rfl rfl rfl hd_X11_fails ⟨Nat.le_of_ble_eq_true rfl, Nat.le_of_ble_eq_true rfl⟩) xo_X11 rfl rfl rfl hl.1 (Nat.le_of_ble_eq_true rfl) dX11_takeClause_78 (fun r_34 S_35 hp_r_34 H locs hP hS => ?_)
              obtain ⟨hr_34, hS_35⟩ := hp_r_34
              exact xret_iW hC hP hS hb hr (by simp only [f_X11_takeClause, ← hr_2, ← hS_3, ← hr_34, ← hS_35, if_neg c_5, if_neg c_6, if_neg c_7, if_neg c_8, if_pos c_9, if_pos c_13]) dX11_takeClause_81 hlocks
        · refine lv_iconst (v := 3) hx hb dX11_takeClause_41 (by decide) ?_
          refine lv_goto (tgt := 56) hx hb dX11_takeClause_42 (by decide) ?_
          refine lv_istore_n (lv' := [(2, .int 3), (1, .int r_2), (0, .ref (X.2.1 127))]) hx hb dX11_takeClause_56 rfl hl (by decide) rfl (fun ls hl => ?_)
          refine lv_iload_n hx hb dX11_takeClause_57 rfl (lv_at hl 0 rfl) ?_
          refine lv_if_lt (tgt := 72) hx hb dX11_takeClause_58 (by decide) (fun c => absurd c (by decide)) (fun _ => ?_)
          refine lv_iload_n hx hb dX11_takeClause_61 rfl (lv_at hl 0 rfl) ?_
          refine lv_if_le (tgt := 82) hx hb dX11_takeClause_62 (by decide) (fun c => absurd c (by decide)) (fun _ => ?_)
          refine lv_aload_n hx hb dX11_takeClause_65 rfl (lv_at hl 2 rfl) ?_
          refine xget (ref := "AbsentPraiseModel") (T := TX11) (v := .int (S_3 127 24)) hC hP hin_X11 xo_X11 rfl 24 (by decide) (List.mem_of_getElem? (i := 1) rfl) rfl rfl dX11_takeClause_66 ?_
          refine lv_if_ne (tgt := 82) hx hb dX11_takeClause_69 (by decide) (fun c_37 => ?_) (fun c_37 => ?_)
          · refine lv_aload_n hx hb dX11_takeClause_82 rfl (lv_at hl 2 rfl) ?_
            refine lv_iload_n hx hb dX11_takeClause_83 rfl (lv_at hl 0 rfl) ?_
            refine xcV_iR (b := 127) (As := [.int 3]) (rest := []) hC hP hS (k_X11_isFull l X S_3 3) (cwV 1 hts gX11_takeClause_X11_isFull rfl rfl rfl hd_X11_isFull ⟨Nat.le_of_ble_eq_true rfl, Nat.le_of_ble_eq_true rfl⟩) xo_X11 rfl rfl rfl hl.1 (Nat.le_of_ble_eq_true rfl) dX11_takeClause_84 (fun r_38 hp_r_38 H locs hP hS => ?_)
            obtain ⟨hr_38, hzr_38⟩ := hp_r_38
            refine lv_if_eq (tgt := 100) hx hb dX11_takeClause_87 (by decide) (fun c_39 => ?_) (fun c_39 => ?_)
            · refine lv_aload_n hx hb dX11_takeClause_100 rfl (lv_at hl 2 rfl) ?_
              refine lv_dup hx hb dX11_takeClause_101 rfl ?_
              refine xget (ref := "AbsentPraiseModel") (T := TX11) (v := .int (S_3 127 21)) hC hP hin_X11 xo_X11 rfl 21 (by decide) (List.mem_of_getElem? (i := 2) rfl) rfl rfl dX11_takeClause_102 ?_
              refine lv_iconst (v := 1) hx hb dX11_takeClause_105 (by decide) ?_
              refine lv_iadd hx hb dX11_takeClause_106 ?_
              refine xput (ref := "AbsentPraiseModel") (T := TX11) (ty := .int) hC hP hS (by decide) hin_X11 tyX11 tyX11_ok nmX11 xo_X11 rfl 21 (by decide) (List.mem_of_getElem? (i := 2) rfl) rfl rfl rfl rfl rfl (Nat.le_of_ble_eq_true rfl) dX11_takeClause_107 rfl (fun S_40 hS_40 H locs hP hS => ?_)
              refine lv_aload_n hx hb dX11_takeClause_110 rfl (lv_at hl 2 rfl) ?_
              refine lv_iload_n hx hb dX11_takeClause_111 rfl (lv_at hl 0 rfl) ?_
              have hn_41 : s_X11_takeBody S_40 3 := (by have hr_2 := hr_2.symm; have hS_3 := hS_3.symm; have hr_38 := hr_38.symm; have hS_40 := hS_40.symm; subst hr_2 hS_3 hr_38 hS_40; exact nl (sp (sn (sp (sn (sn (sn (nr hs) c_5) c_6) c_7) c_8) c_37) c_39))
              refine xcV_iW (b := 127) (As := [.int 3]) (rest := []) hC hP hS (k_X11_takeBody l X S_40 3 hn_41) (cwV 1 hts gX11_takeClause_X11_takeBody rfl rfl rfl hd_X11_takeBody ⟨Nat.le_of_ble_eq_true rfl, Nat.le_of_ble_eq_true rfl⟩) xo_X11 rfl rfl rfl hl.1 (Nat.le_of_ble_eq_true rfl) dX11_takeClause_112 (fun r_42 S_43 hp_r_42 H locs hP hS => ?_)
              obtain ⟨hr_42, hS_43⟩ := hp_r_42
              refine lv_istore_n (lv' := [(3, .int r_42), (2, .int 3), (1, .int r_2), (0, .ref (X.2.1 127))]) hx hb dX11_takeClause_115 rfl hl (by decide) rfl (fun ls hl => ?_)
              refine lv_iload_n hx hb dX11_takeClause_116 rfl (lv_at hl 0 rfl) ?_
              refine lv_if_le (tgt := 122) hx hb dX11_takeClause_117 (by decide) (fun c_45 => ?_) (fun c_45 => ?_)
              · refine lv_aload_n hx hb dX11_takeClause_122 rfl (lv_at hl 3 rfl) ?_
                have hn_46 : s_X11_here S_43 := (by have hr_2 := hr_2.symm; have hS_3 := hS_3.symm; have hr_38 := hr_38.symm; have hS_40 := hS_40.symm; have hr_42 := hr_42.symm; have hS_43 := hS_43.symm; subst hr_2 hS_3 hr_38 hS_40 hr_42 hS_43; exact nl (sp (nr (sp (sn (sp (sn (sn (sn (nr hs) c_5) c_6) c_7) c_8) c_37) c_39)) c_45))
                refine xcV_iW (b := 127) (As := []) (rest := []) hC hP hS (k_X11_here l X S_43 hn_46) (cwV 0 hts gX11_takeClause_X11_here rfl rfl rfl hd_X11_here ⟨Nat.le_of_ble_eq_true rfl, Nat.le_of_ble_eq_true rfl⟩) xo_X11 rfl rfl rfl hl.1 (Nat.le_of_ble_eq_true rfl) dX11_takeClause_123 (fun r_47 S_48 hp_r_47 H locs hP hS => ?_)
                obtain ⟨hr_47, hS_48⟩ := hp_r_47
                refine lv_bipush (v := 59) hx hb dX11_takeClause_126 (by decide) ?_
                refine lv_icmp_eq (tgt := 141) hx hb dX11_takeClause_128 (by decide) (fun c_50 => ?_) (fun c_50 => ?_)
                · refine lv_aload_n hx hb dX11_takeClause_141 rfl (lv_at hl 3 rfl) ?_
                  refine lv_dup hx hb dX11_takeClause_142 rfl ?_
                  refine xget (ref := "AbsentPraiseModel") (T := TX11) (v := .int (S_48 127 21)) hC hP hin_X11 xo_X11 rfl 21 (by decide) (List.mem_of_getElem? (i := 2) rfl) rfl rfl dX11_takeClause_143 ?_
                  refine lv_iconst (v := 1) hx hb dX11_takeClause_146 (by decide) ?_
                  refine lv_iadd hx hb dX11_takeClause_147 ?_
                  refine xput (ref := "AbsentPraiseModel") (T := TX11) (ty := .int) hC hP hS (by decide) hin_X11 tyX11 tyX11_ok nmX11 xo_X11 rfl 21 (by decide) (List.mem_of_getElem? (i := 2) rfl) rfl rfl rfl rfl rfl (Nat.le_of_ble_eq_true rfl) dX11_takeClause_148 rfl (fun S_51 hS_51 H locs hP hS => ?_)
                  refine lv_iconst (v := 0) hx hb dX11_takeClause_151 (by decide) ?_
                  exact xret_iW hC hP hS hb hr (by simp only [f_X11_takeClause, ← hr_2, ← hS_3, ← hr_38, ← hS_40, ← hr_42, ← hS_43, ← hr_47, ← hS_48, ← hS_51, if_neg c_5, if_neg c_6, if_neg c_7, if_pos c_8, if_neg c_37, if_pos c_39, if_pos c_45, if_pos c_50]) dX11_takeClause_152 hlocks
                · refine lv_aload_n hx hb dX11_takeClause_131 rfl (lv_at hl 3 rfl) ?_
                  refine lv_iconst (v := 1) hx hb dX11_takeClause_132 (by decide) ?_
                  refine lv_aload_n hx hb dX11_takeClause_133 rfl (lv_at hl 3 rfl) ?_
                  refine xget (ref := "AbsentPraiseModel") (T := TX11) (v := .int (S_48 127 21)) hC hP hin_X11 xo_X11 rfl 21 (by decide) (List.mem_of_getElem? (i := 2) rfl) rfl rfl dX11_takeClause_134 ?_
                  refine xcV_iW (b := 127) (As := [.int 1, .int (S_48 127 21)]) (rest := []) hC hP hS (k_X11_fails l X S_48 1 (S_48 127 21)) (cwV 2 hts gX11_takeClause_X11_fails rfl rfl rfl hd_X11_fails ⟨Nat.le_of_ble_eq_true rfl, Nat.le_of_ble_eq_true rfl⟩) xo_X11 rfl rfl rfl hl.1 (Nat.le_of_ble_eq_true rfl) dX11_takeClause_137 (fun r_52 S_53 hp_r_52 H locs hP hS => ?_)
                  obtain ⟨hr_52, hS_53⟩ := hp_r_52
                  exact xret_iW hC hP hS hb hr (by simp only [f_X11_takeClause, ← hr_2, ← hS_3, ← hr_38, ← hS_40, ← hr_42, ← hS_43, ← hr_47, ← hS_48, ← hr_52, ← hS_53, if_neg c_5, if_neg c_6, if_neg c_7, if_pos c_8, if_neg c_37, if_pos c_39, if_pos c_45, if_neg c_50]) dX11_takeClause_140 hlocks
              · refine lv_iload_n hx hb dX11_takeClause_120 rfl (lv_at hl 0 rfl) ?_
                exact xret_iW hC hP hS hb hr (by simp only [f_X11_takeClause, ← hr_2, ← hS_3, ← hr_38, ← hS_40, ← hr_42, ← hS_43, if_neg c_5, if_neg c_6, if_neg c_7, if_pos c_8, if_neg c_37, if_pos c_39, if_neg c_45]) dX11_takeClause_121 hlocks
            · refine lv_aload_n hx hb dX11_takeClause_90 rfl (lv_at hl 2 rfl) ?_
              refine lv_iconst (v := 3) hx hb dX11_takeClause_91 (by decide) ?_
              refine lv_aload_n hx hb dX11_takeClause_92 rfl (lv_at hl 2 rfl) ?_
              refine xget (ref := "AbsentPraiseModel") (T := TX11) (v := .int (S_3 127 21)) hC hP hin_X11 xo_X11 rfl 21 (by decide) (List.mem_of_getElem? (i := 2) rfl) rfl rfl dX11_takeClause_93 ?_
              refine xcV_iW (b := 127) (As := [.int 3, .int (S_3 127 21)]) (rest := []) hC hP hS (k_X11_fails l X S_3 3 (S_3 127 21)) (cwV 2 hts gX11_takeClause_X11_fails rfl rfl rfl hd_X11_fails ⟨Nat.le_of_ble_eq_true rfl, Nat.le_of_ble_eq_true rfl⟩) xo_X11 rfl rfl rfl hl.1 (Nat.le_of_ble_eq_true rfl) dX11_takeClause_96 (fun r_55 S_56 hp_r_55 H locs hP hS => ?_)
              obtain ⟨hr_55, hS_56⟩ := hp_r_55
              exact xret_iW hC hP hS hb hr (by simp only [f_X11_takeClause, ← hr_2, ← hS_3, ← hr_38, ← hr_55, ← hS_56, if_neg c_5, if_neg c_6, if_neg c_7, if_pos c_8, if_neg c_37, if_neg c_39]) dX11_takeClause_99 hlocks
          · refine lv_aload_n hx hb dX11_takeClause_72 rfl (lv_at hl 2 rfl) ?_
            refine lv_iconst (v := 1) hx hb dX11_takeClause_73 (by decide) ?_
            refine lv_aload_n hx hb dX11_takeClause_74 rfl (lv_at hl 2 rfl) ?_
            refine xget (ref := "AbsentPraiseModel") (T := TX11) (v := .int (S_3 127 21)) hC hP hin_X11 xo_X11 rfl 21 (by decide) (List.mem_of_getElem? (i := 2) rfl) rfl rfl dX11_takeClause_75 ?_
            refine xcV_iW (b := 127) (As := [.int 1, .int (S_3 127 21)]) (rest := []) hC hP hS (k_X11_fails l X S_3 1 (S_3 127 21)) (cwV 2 hts gX11_takeClause_X11_fails rfl rfl rfl hd_X11_fails ⟨Nat.le_of_ble_eq_true rfl, Nat.le_of_ble_eq_true rfl⟩) xo_X11 rfl rfl rfl hl.1 (Nat.le_of_ble_eq_true rfl) dX11_takeClause_78 (fun r_58 S_59 hp_r_58 H locs hP hS => ?_)
            obtain ⟨hr_58, hS_59⟩ := hp_r_58
            exact xret_iW hC hP hS hb hr (by simp only [f_X11_takeClause, ← hr_2, ← hS_3, ← hr_58, ← hS_59, if_neg c_5, if_neg c_6, if_neg c_7, if_pos c_8, if_pos c_37]) dX11_takeClause_81 hlocks
      · refine lv_iconst (v := 2) hx hb dX11_takeClause_31 (by decide) ?_
        refine lv_goto (tgt := 56) hx hb dX11_takeClause_32 (by decide) ?_
        refine lv_istore_n (lv' := [(2, .int 2), (1, .int r_2), (0, .ref (X.2.1 127))]) hx hb dX11_takeClause_56 rfl hl (by decide) rfl (fun ls hl => ?_)
        refine lv_iload_n hx hb dX11_takeClause_57 rfl (lv_at hl 0 rfl) ?_
        refine lv_if_lt (tgt := 72) hx hb dX11_takeClause_58 (by decide) (fun c => absurd c (by decide)) (fun _ => ?_)
        refine lv_iload_n hx hb dX11_takeClause_61 rfl (lv_at hl 0 rfl) ?_
        refine lv_if_le (tgt := 82) hx hb dX11_takeClause_62 (by decide) (fun c => absurd c (by decide)) (fun _ => ?_)
        refine lv_aload_n hx hb dX11_takeClause_65 rfl (lv_at hl 2 rfl) ?_
        refine xget (ref := "AbsentPraiseModel") (T := TX11) (v := .int (S_3 127 24)) hC hP hin_X11 xo_X11 rfl 24 (by decide) (List.mem_of_getElem? (i := 1) rfl) rfl rfl dX11_takeClause_66 ?_
        refine lv_if_ne (tgt := 82) hx hb dX11_takeClause_69 (by decide) (fun c_61 => ?_) (fun c_61 => ?_)
        · refine lv_aload_n hx hb dX11_takeClause_82 rfl (lv_at hl 2 rfl) ?_
          refine lv_iload_n hx hb dX11_takeClause_83 rfl (lv_at hl 0 rfl) ?_
          refine xcV_iR (b := 127) (As := [.int 2]) (rest := []) hC hP hS (k_X11_isFull l X S_3 2) (cwV 1 hts gX11_takeClause_X11_isFull rfl rfl rfl hd_X11_isFull ⟨Nat.le_of_ble_eq_true rfl, Nat.le_of_ble_eq_true rfl⟩) xo_X11 rfl rfl rfl hl.1 (Nat.le_of_ble_eq_true rfl) dX11_takeClause_84 (fun r_62 hp_r_62 H locs hP hS => ?_)
          obtain ⟨hr_62, hzr_62⟩ := hp_r_62
          refine lv_if_eq (tgt := 100) hx hb dX11_takeClause_87 (by decide) (fun c_63 => ?_) (fun c_63 => ?_)
          · refine lv_aload_n hx hb dX11_takeClause_100 rfl (lv_at hl 2 rfl) ?_
            refine lv_dup hx hb dX11_takeClause_101 rfl ?_
            refine xget (ref := "AbsentPraiseModel") (T := TX11) (v := .int (S_3 127 21)) hC hP hin_X11 xo_X11 rfl 21 (by decide) (List.mem_of_getElem? (i := 2) rfl) rfl rfl dX11_takeClause_102 ?_
            refine lv_iconst (v := 1) hx hb dX11_takeClause_105 (by decide) ?_
            refine lv_iadd hx hb dX11_takeClause_106 ?_
            refine xput (ref := "AbsentPraiseModel") (T := TX11) (ty := .int) hC hP hS (by decide) hin_X11 tyX11 tyX11_ok nmX11 xo_X11 rfl 21 (by decide) (List.mem_of_getElem? (i := 2) rfl) rfl rfl rfl rfl rfl (Nat.le_of_ble_eq_true rfl) dX11_takeClause_107 rfl (fun S_64 hS_64 H locs hP hS => ?_)
            refine lv_aload_n hx hb dX11_takeClause_110 rfl (lv_at hl 2 rfl) ?_
            refine lv_iload_n hx hb dX11_takeClause_111 rfl (lv_at hl 0 rfl) ?_
            have hn_65 : s_X11_takeBody S_64 2 := (by have hr_2 := hr_2.symm; have hS_3 := hS_3.symm; have hr_62 := hr_62.symm; have hS_64 := hS_64.symm; subst hr_2 hS_3 hr_62 hS_64; exact nl (sp (sn (sp (sn (sn (nr hs) c_5) c_6) c_7) c_61) c_63))
            refine xcV_iW (b := 127) (As := [.int 2]) (rest := []) hC hP hS (k_X11_takeBody l X S_64 2 hn_65) (cwV 1 hts gX11_takeClause_X11_takeBody rfl rfl rfl hd_X11_takeBody ⟨Nat.le_of_ble_eq_true rfl, Nat.le_of_ble_eq_true rfl⟩) xo_X11 rfl rfl rfl hl.1 (Nat.le_of_ble_eq_true rfl) dX11_takeClause_112 (fun r_66 S_67 hp_r_66 H locs hP hS => ?_)
            obtain ⟨hr_66, hS_67⟩ := hp_r_66
            refine lv_istore_n (lv' := [(3, .int r_66), (2, .int 2), (1, .int r_2), (0, .ref (X.2.1 127))]) hx hb dX11_takeClause_115 rfl hl (by decide) rfl (fun ls hl => ?_)
            refine lv_iload_n hx hb dX11_takeClause_116 rfl (lv_at hl 0 rfl) ?_
            refine lv_if_le (tgt := 122) hx hb dX11_takeClause_117 (by decide) (fun c_69 => ?_) (fun c_69 => ?_)
            · refine lv_aload_n hx hb dX11_takeClause_122 rfl (lv_at hl 3 rfl) ?_
              have hn_70 : s_X11_here S_67 := (by have hr_2 := hr_2.symm; have hS_3 := hS_3.symm; have hr_62 := hr_62.symm; have hS_64 := hS_64.symm; have hr_66 := hr_66.symm; have hS_67 := hS_67.symm; subst hr_2 hS_3 hr_62 hS_64 hr_66 hS_67; exact nl (sp (nr (sp (sn (sp (sn (sn (nr hs) c_5) c_6) c_7) c_61) c_63)) c_69))
              refine xcV_iW (b := 127) (As := []) (rest := []) hC hP hS (k_X11_here l X S_67 hn_70) (cwV 0 hts gX11_takeClause_X11_here rfl rfl rfl hd_X11_here ⟨Nat.le_of_ble_eq_true rfl, Nat.le_of_ble_eq_true rfl⟩) xo_X11 rfl rfl rfl hl.1 (Nat.le_of_ble_eq_true rfl) dX11_takeClause_123 (fun r_71 S_72 hp_r_71 H locs hP hS => ?_)
              obtain ⟨hr_71, hS_72⟩ := hp_r_71
              refine lv_bipush (v := 59) hx hb dX11_takeClause_126 (by decide) ?_
              refine lv_icmp_eq (tgt := 141) hx hb dX11_takeClause_128 (by decide) (fun c_74 => ?_) (fun c_74 => ?_)
              · refine lv_aload_n hx hb dX11_takeClause_141 rfl (lv_at hl 3 rfl) ?_
                refine lv_dup hx hb dX11_takeClause_142 rfl ?_
                refine xget (ref := "AbsentPraiseModel") (T := TX11) (v := .int (S_72 127 21)) hC hP hin_X11 xo_X11 rfl 21 (by decide) (List.mem_of_getElem? (i := 2) rfl) rfl rfl dX11_takeClause_143 ?_
                refine lv_iconst (v := 1) hx hb dX11_takeClause_146 (by decide) ?_
                refine lv_iadd hx hb dX11_takeClause_147 ?_
                refine xput (ref := "AbsentPraiseModel") (T := TX11) (ty := .int) hC hP hS (by decide) hin_X11 tyX11 tyX11_ok nmX11 xo_X11 rfl 21 (by decide) (List.mem_of_getElem? (i := 2) rfl) rfl rfl rfl rfl rfl (Nat.le_of_ble_eq_true rfl) dX11_takeClause_148 rfl (fun S_75 hS_75 H locs hP hS => ?_)
                refine lv_iconst (v := 0) hx hb dX11_takeClause_151 (by decide) ?_
                exact xret_iW hC hP hS hb hr (by simp only [f_X11_takeClause, ← hr_2, ← hS_3, ← hr_62, ← hS_64, ← hr_66, ← hS_67, ← hr_71, ← hS_72, ← hS_75, if_neg c_5, if_neg c_6, if_pos c_7, if_neg c_61, if_pos c_63, if_pos c_69, if_pos c_74]) dX11_takeClause_152 hlocks
              · refine lv_aload_n hx hb dX11_takeClause_131 rfl (lv_at hl 3 rfl) ?_
                refine lv_iconst (v := 1) hx hb dX11_takeClause_132 (by decide) ?_
                refine lv_aload_n hx hb dX11_takeClause_133 rfl (lv_at hl 3 rfl) ?_
                refine xget (ref := "AbsentPraiseModel") (T := TX11) (v := .int (S_72 127 21)) hC hP hin_X11 xo_X11 rfl 21 (by decide) (List.mem_of_getElem? (i := 2) rfl) rfl rfl dX11_takeClause_134 ?_
                refine xcV_iW (b := 127) (As := [.int 1, .int (S_72 127 21)]) (rest := []) hC hP hS (k_X11_fails l X S_72 1 (S_72 127 21)) (cwV 2 hts gX11_takeClause_X11_fails rfl rfl rfl hd_X11_fails ⟨Nat.le_of_ble_eq_true rfl, Nat.le_of_ble_eq_true rfl⟩) xo_X11 rfl rfl rfl hl.1 (Nat.le_of_ble_eq_true rfl) dX11_takeClause_137 (fun r_76 S_77 hp_r_76 H locs hP hS => ?_)
                obtain ⟨hr_76, hS_77⟩ := hp_r_76
                exact xret_iW hC hP hS hb hr (by simp only [f_X11_takeClause, ← hr_2, ← hS_3, ← hr_62, ← hS_64, ← hr_66, ← hS_67, ← hr_71, ← hS_72, ← hr_76, ← hS_77, if_neg c_5, if_neg c_6, if_pos c_7, if_neg c_61, if_pos c_63, if_pos c_69, if_neg c_74]) dX11_takeClause_140 hlocks
            · refine lv_iload_n hx hb dX11_takeClause_120 rfl (lv_at hl 0 rfl) ?_
              exact xret_iW hC hP hS hb hr (by simp only [f_X11_takeClause, ← hr_2, ← hS_3, ← hr_62, ← hS_64, ← hr_66, ← hS_67, if_neg c_5, if_neg c_6, if_pos c_7, if_neg c_61, if_pos c_63, if_neg c_69]) dX11_takeClause_121 hlocks
          · refine lv_aload_n hx hb dX11_takeClause_90 rfl (lv_at hl 2 rfl) ?_
            refine lv_iconst (v := 3) hx hb dX11_takeClause_91 (by decide) ?_
            refine lv_aload_n hx hb dX11_takeClause_92 rfl (lv_at hl 2 rfl) ?_
            refine xget (ref := "AbsentPraiseModel") (T := TX11) (v := .int (S_3 127 21)) hC hP hin_X11 xo_X11 rfl 21 (by decide) (List.mem_of_getElem? (i := 2) rfl) rfl rfl dX11_takeClause_93 ?_
            refine xcV_iW (b := 127) (As := [.int 3, .int (S_3 127 21)]) (rest := []) hC hP hS (k_X11_fails l X S_3 3 (S_3 127 21)) (cwV 2 hts gX11_takeClause_X11_fails rfl rfl rfl hd_X11_fails ⟨Nat.le_of_ble_eq_true rfl, Nat.le_of_ble_eq_true rfl⟩) xo_X11 rfl rfl rfl hl.1 (Nat.le_of_ble_eq_true rfl) dX11_takeClause_96 (fun r_79 S_80 hp_r_79 H locs hP hS => ?_)
            obtain ⟨hr_79, hS_80⟩ := hp_r_79
            exact xret_iW hC hP hS hb hr (by simp only [f_X11_takeClause, ← hr_2, ← hS_3, ← hr_62, ← hr_79, ← hS_80, if_neg c_5, if_neg c_6, if_pos c_7, if_neg c_61, if_neg c_63]) dX11_takeClause_99 hlocks
        · refine lv_aload_n hx hb dX11_takeClause_72 rfl (lv_at hl 2 rfl) ?_
          refine lv_iconst (v := 1) hx hb dX11_takeClause_73 (by decide) ?_
          refine lv_aload_n hx hb dX11_takeClause_74 rfl (lv_at hl 2 rfl) ?_
          refine xget (ref := "AbsentPraiseModel") (T := TX11) (v := .int (S_3 127 21)) hC hP hin_X11 xo_X11 rfl 21 (by decide) (List.mem_of_getElem? (i := 2) rfl) rfl rfl dX11_takeClause_75 ?_
          refine xcV_iW (b := 127) (As := [.int 1, .int (S_3 127 21)]) (rest := []) hC hP hS (k_X11_fails l X S_3 1 (S_3 127 21)) (cwV 2 hts gX11_takeClause_X11_fails rfl rfl rfl hd_X11_fails ⟨Nat.le_of_ble_eq_true rfl, Nat.le_of_ble_eq_true rfl⟩) xo_X11 rfl rfl rfl hl.1 (Nat.le_of_ble_eq_true rfl) dX11_takeClause_78 (fun r_82 S_83 hp_r_82 H locs hP hS => ?_)
          obtain ⟨hr_82, hS_83⟩ := hp_r_82
          exact xret_iW hC hP hS hb hr (by simp only [f_X11_takeClause, ← hr_2, ← hS_3, ← hr_82, ← hS_83, if_neg c_5, if_neg c_6, if_pos c_7, if_pos c_61]) dX11_takeClause_81 hlocks
    · refine lv_iconst (v := 1) hx hb dX11_takeClause_21 (by decide) ?_
      refine lv_goto (tgt := 56) hx hb dX11_takeClause_22 (by decide) ?_
      refine lv_istore_n (lv' := [(2, .int 1), (1, .int r_2), (0, .ref (X.2.1 127))]) hx hb dX11_takeClause_56 rfl hl (by decide) rfl (fun ls hl => ?_)
      refine lv_iload_n hx hb dX11_takeClause_57 rfl (lv_at hl 0 rfl) ?_
      refine lv_if_lt (tgt := 72) hx hb dX11_takeClause_58 (by decide) (fun c => absurd c (by decide)) (fun _ => ?_)
      refine lv_iload_n hx hb dX11_takeClause_61 rfl (lv_at hl 0 rfl) ?_
      refine lv_if_le (tgt := 82) hx hb dX11_takeClause_62 (by decide) (fun c => absurd c (by decide)) (fun _ => ?_)
      refine lv_aload_n hx hb dX11_takeClause_65 rfl (lv_at hl 2 rfl) ?_
      refine xget (ref := "AbsentPraiseModel") (T := TX11) (v := .int (S_3 127 24)) hC hP hin_X11 xo_X11 rfl 24 (by decide) (List.mem_of_getElem? (i := 1) rfl) rfl rfl dX11_takeClause_66 ?_
      refine lv_if_ne (tgt := 82) hx hb dX11_takeClause_69 (by decide) (fun c_85 => ?_) (fun c_85 => ?_)
      · refine lv_aload_n hx hb dX11_takeClause_82 rfl (lv_at hl 2 rfl) ?_
        refine lv_iload_n hx hb dX11_takeClause_83 rfl (lv_at hl 0 rfl) ?_
        refine xcV_iR (b := 127) (As := [.int 1]) (rest := []) hC hP hS (k_X11_isFull l X S_3 1) (cwV 1 hts gX11_takeClause_X11_isFull rfl rfl rfl hd_X11_isFull ⟨Nat.le_of_ble_eq_true rfl, Nat.le_of_ble_eq_true rfl⟩) xo_X11 rfl rfl rfl hl.1 (Nat.le_of_ble_eq_true rfl) dX11_takeClause_84 (fun r_86 hp_r_86 H locs hP hS => ?_)
        obtain ⟨hr_86, hzr_86⟩ := hp_r_86
        refine lv_if_eq (tgt := 100) hx hb dX11_takeClause_87 (by decide) (fun c_87 => ?_) (fun c_87 => ?_)
        · refine lv_aload_n hx hb dX11_takeClause_100 rfl (lv_at hl 2 rfl) ?_
          refine lv_dup hx hb dX11_takeClause_101 rfl ?_
          refine xget (ref := "AbsentPraiseModel") (T := TX11) (v := .int (S_3 127 21)) hC hP hin_X11 xo_X11 rfl 21 (by decide) (List.mem_of_getElem? (i := 2) rfl) rfl rfl dX11_takeClause_102 ?_
          refine lv_iconst (v := 1) hx hb dX11_takeClause_105 (by decide) ?_
          refine lv_iadd hx hb dX11_takeClause_106 ?_
          refine xput (ref := "AbsentPraiseModel") (T := TX11) (ty := .int) hC hP hS (by decide) hin_X11 tyX11 tyX11_ok nmX11 xo_X11 rfl 21 (by decide) (List.mem_of_getElem? (i := 2) rfl) rfl rfl rfl rfl rfl (Nat.le_of_ble_eq_true rfl) dX11_takeClause_107 rfl (fun S_88 hS_88 H locs hP hS => ?_)
          refine lv_aload_n hx hb dX11_takeClause_110 rfl (lv_at hl 2 rfl) ?_
          refine lv_iload_n hx hb dX11_takeClause_111 rfl (lv_at hl 0 rfl) ?_
          have hn_89 : s_X11_takeBody S_88 1 := (by have hr_2 := hr_2.symm; have hS_3 := hS_3.symm; have hr_86 := hr_86.symm; have hS_88 := hS_88.symm; subst hr_2 hS_3 hr_86 hS_88; exact nl (sp (sn (sp (sn (nr hs) c_5) c_6) c_85) c_87))
          refine xcV_iW (b := 127) (As := [.int 1]) (rest := []) hC hP hS (k_X11_takeBody l X S_88 1 hn_89) (cwV 1 hts gX11_takeClause_X11_takeBody rfl rfl rfl hd_X11_takeBody ⟨Nat.le_of_ble_eq_true rfl, Nat.le_of_ble_eq_true rfl⟩) xo_X11 rfl rfl rfl hl.1 (Nat.le_of_ble_eq_true rfl) dX11_takeClause_112 (fun r_90 S_91 hp_r_90 H locs hP hS => ?_)
          obtain ⟨hr_90, hS_91⟩ := hp_r_90
          refine lv_istore_n (lv' := [(3, .int r_90), (2, .int 1), (1, .int r_2), (0, .ref (X.2.1 127))]) hx hb dX11_takeClause_115 rfl hl (by decide) rfl (fun ls hl => ?_)
          refine lv_iload_n hx hb dX11_takeClause_116 rfl (lv_at hl 0 rfl) ?_
          refine lv_if_le (tgt := 122) hx hb dX11_takeClause_117 (by decide) (fun c_93 => ?_) (fun c_93 => ?_)
          · refine lv_aload_n hx hb dX11_takeClause_122 rfl (lv_at hl 3 rfl) ?_
            have hn_94 : s_X11_here S_91 := (by have hr_2 := hr_2.symm; have hS_3 := hS_3.symm; have hr_86 := hr_86.symm; have hS_88 := hS_88.symm; have hr_90 := hr_90.symm; have hS_91 := hS_91.symm; subst hr_2 hS_3 hr_86 hS_88 hr_90 hS_91; exact nl (sp (nr (sp (sn (sp (sn (nr hs) c_5) c_6) c_85) c_87)) c_93))
            refine xcV_iW (b := 127) (As := []) (rest := []) hC hP hS (k_X11_here l X S_91 hn_94) (cwV 0 hts gX11_takeClause_X11_here rfl rfl rfl hd_X11_here ⟨Nat.le_of_ble_eq_true rfl, Nat.le_of_ble_eq_true rfl⟩) xo_X11 rfl rfl rfl hl.1 (Nat.le_of_ble_eq_true rfl) dX11_takeClause_123 (fun r_95 S_96 hp_r_95 H locs hP hS => ?_)
            obtain ⟨hr_95, hS_96⟩ := hp_r_95
            refine lv_bipush (v := 59) hx hb dX11_takeClause_126 (by decide) ?_
            refine lv_icmp_eq (tgt := 141) hx hb dX11_takeClause_128 (by decide) (fun c_98 => ?_) (fun c_98 => ?_)
            · refine lv_aload_n hx hb dX11_takeClause_141 rfl (lv_at hl 3 rfl) ?_
              refine lv_dup hx hb dX11_takeClause_142 rfl ?_
              refine xget (ref := "AbsentPraiseModel") (T := TX11) (v := .int (S_96 127 21)) hC hP hin_X11 xo_X11 rfl 21 (by decide) (List.mem_of_getElem? (i := 2) rfl) rfl rfl dX11_takeClause_143 ?_
              refine lv_iconst (v := 1) hx hb dX11_takeClause_146 (by decide) ?_
              refine lv_iadd hx hb dX11_takeClause_147 ?_
              refine xput (ref := "AbsentPraiseModel") (T := TX11) (ty := .int) hC hP hS (by decide) hin_X11 tyX11 tyX11_ok nmX11 xo_X11 rfl 21 (by decide) (List.mem_of_getElem? (i := 2) rfl) rfl rfl rfl rfl rfl (Nat.le_of_ble_eq_true rfl) dX11_takeClause_148 rfl (fun S_99 hS_99 H locs hP hS => ?_)
              refine lv_iconst (v := 0) hx hb dX11_takeClause_151 (by decide) ?_
              exact xret_iW hC hP hS hb hr (by simp only [f_X11_takeClause, ← hr_2, ← hS_3, ← hr_86, ← hS_88, ← hr_90, ← hS_91, ← hr_95, ← hS_96, ← hS_99, if_neg c_5, if_pos c_6, if_neg c_85, if_pos c_87, if_pos c_93, if_pos c_98]) dX11_takeClause_152 hlocks
            · refine lv_aload_n hx hb dX11_takeClause_131 rfl (lv_at hl 3 rfl) ?_
              refine lv_iconst (v := 1) hx hb dX11_takeClause_132 (by decide) ?_
              refine lv_aload_n hx hb dX11_takeClause_133 rfl (lv_at hl 3 rfl) ?_
              refine xget (ref := "AbsentPraiseModel") (T := TX11) (v := .int (S_96 127 21)) hC hP hin_X11 xo_X11 rfl 21 (by decide) (List.mem_of_getElem? (i := 2) rfl) rfl rfl dX11_takeClause_134 ?_
              refine xcV_iW (b := 127) (As := [.int 1, .int (S_96 127 21)]) (rest := []) hC hP hS (k_X11_fails l X S_96 1 (S_96 127 21)) (cwV 2 hts gX11_takeClause_X11_fails rfl rfl rfl hd_X11_fails ⟨Nat.le_of_ble_eq_true rfl, Nat.le_of_ble_eq_true rfl⟩) xo_X11 rfl rfl rfl hl.1 (Nat.le_of_ble_eq_true rfl) dX11_takeClause_137 (fun r_100 S_101 hp_r_100 H locs hP hS => ?_)
              obtain ⟨hr_100, hS_101⟩ := hp_r_100
              exact xret_iW hC hP hS hb hr (by simp only [f_X11_takeClause, ← hr_2, ← hS_3, ← hr_86, ← hS_88, ← hr_90, ← hS_91, ← hr_95, ← hS_96, ← hr_100, ← hS_101, if_neg c_5, if_pos c_6, if_neg c_85, if_pos c_87, if_pos c_93, if_neg c_98]) dX11_takeClause_140 hlocks
          · refine lv_iload_n hx hb dX11_takeClause_120 rfl (lv_at hl 0 rfl) ?_
            exact xret_iW hC hP hS hb hr (by simp only [f_X11_takeClause, ← hr_2, ← hS_3, ← hr_86, ← hS_88, ← hr_90, ← hS_91, if_neg c_5, if_pos c_6, if_neg c_85, if_pos c_87, if_neg c_93]) dX11_takeClause_121 hlocks
        · refine lv_aload_n hx hb dX11_takeClause_90 rfl (lv_at hl 2 rfl) ?_
          refine lv_iconst (v := 3) hx hb dX11_takeClause_91 (by decide) ?_
          refine lv_aload_n hx hb dX11_takeClause_92 rfl (lv_at hl 2 rfl) ?_
          refine xget (ref := "AbsentPraiseModel") (T := TX11) (v := .int (S_3 127 21)) hC hP hin_X11 xo_X11 rfl 21 (by decide) (List.mem_of_getElem? (i := 2) rfl) rfl rfl dX11_takeClause_93 ?_
          refine xcV_iW (b := 127) (As := [.int 3, .int (S_3 127 21)]) (rest := []) hC hP hS (k_X11_fails l X S_3 3 (S_3 127 21)) (cwV 2 hts gX11_takeClause_X11_fails rfl rfl rfl hd_X11_fails ⟨Nat.le_of_ble_eq_true rfl, Nat.le_of_ble_eq_true rfl⟩) xo_X11 rfl rfl rfl hl.1 (Nat.le_of_ble_eq_true rfl) dX11_takeClause_96 (fun r_103 S_104 hp_r_103 H locs hP hS => ?_)
          obtain ⟨hr_103, hS_104⟩ := hp_r_103
          exact xret_iW hC hP hS hb hr (by simp only [f_X11_takeClause, ← hr_2, ← hS_3, ← hr_86, ← hr_103, ← hS_104, if_neg c_5, if_pos c_6, if_neg c_85, if_neg c_87]) dX11_takeClause_99 hlocks
      · refine lv_aload_n hx hb dX11_takeClause_72 rfl (lv_at hl 2 rfl) ?_
        refine lv_iconst (v := 1) hx hb dX11_takeClause_73 (by decide) ?_
        refine lv_aload_n hx hb dX11_takeClause_74 rfl (lv_at hl 2 rfl) ?_
        refine xget (ref := "AbsentPraiseModel") (T := TX11) (v := .int (S_3 127 21)) hC hP hin_X11 xo_X11 rfl 21 (by decide) (List.mem_of_getElem? (i := 2) rfl) rfl rfl dX11_takeClause_75 ?_
        refine xcV_iW (b := 127) (As := [.int 1, .int (S_3 127 21)]) (rest := []) hC hP hS (k_X11_fails l X S_3 1 (S_3 127 21)) (cwV 2 hts gX11_takeClause_X11_fails rfl rfl rfl hd_X11_fails ⟨Nat.le_of_ble_eq_true rfl, Nat.le_of_ble_eq_true rfl⟩) xo_X11 rfl rfl rfl hl.1 (Nat.le_of_ble_eq_true rfl) dX11_takeClause_78 (fun r_106 S_107 hp_r_106 H locs hP hS => ?_)
        obtain ⟨hr_106, hS_107⟩ := hp_r_106
        exact xret_iW hC hP hS hb hr (by simp only [f_X11_takeClause, ← hr_2, ← hS_3, ← hr_106, ← hS_107, if_neg c_5, if_pos c_6, if_pos c_85]) dX11_takeClause_81 hlocks
  · refine lv_iconst (v := 0) hx hb dX11_takeClause_11 (by decide) ?_
    refine lv_goto (tgt := 56) hx hb dX11_takeClause_12 (by decide) ?_
    refine lv_istore_n (lv' := [(2, .int 0), (1, .int r_2), (0, .ref (X.2.1 127))]) hx hb dX11_takeClause_56 rfl hl (by decide) rfl (fun ls hl => ?_)
    refine lv_iload_n hx hb dX11_takeClause_57 rfl (lv_at hl 0 rfl) ?_
    refine lv_if_lt (tgt := 72) hx hb dX11_takeClause_58 (by decide) (fun c => absurd c (by decide)) (fun _ => ?_)
    refine lv_iload_n hx hb dX11_takeClause_61 rfl (lv_at hl 0 rfl) ?_
    refine lv_if_le (tgt := 82) hx hb dX11_takeClause_62 (by decide) (fun _ => ?_) (fun c => absurd c (by decide))
    refine lv_aload_n hx hb dX11_takeClause_82 rfl (lv_at hl 2 rfl) ?_
    refine lv_iload_n hx hb dX11_takeClause_83 rfl (lv_at hl 0 rfl) ?_
    refine xcV_iR (b := 127) (As := [.int 0]) (rest := []) hC hP hS (k_X11_isFull l X S_3 0) (cwV 1 hts gX11_takeClause_X11_isFull rfl rfl rfl hd_X11_isFull ⟨Nat.le_of_ble_eq_true rfl, Nat.le_of_ble_eq_true rfl⟩) xo_X11 rfl rfl rfl hl.1 (Nat.le_of_ble_eq_true rfl) dX11_takeClause_84 (fun r_109 hp_r_109 H locs hP hS => ?_)
    obtain ⟨hr_109, hzr_109⟩ := hp_r_109
    refine lv_if_eq (tgt := 100) hx hb dX11_takeClause_87 (by decide) (fun c_110 => ?_) (fun c_110 => ?_)
    · refine lv_aload_n hx hb dX11_takeClause_100 rfl (lv_at hl 2 rfl) ?_
      refine lv_dup hx hb dX11_takeClause_101 rfl ?_
      refine xget (ref := "AbsentPraiseModel") (T := TX11) (v := .int (S_3 127 21)) hC hP hin_X11 xo_X11 rfl 21 (by decide) (List.mem_of_getElem? (i := 2) rfl) rfl rfl dX11_takeClause_102 ?_
      refine lv_iconst (v := 1) hx hb dX11_takeClause_105 (by decide) ?_
      refine lv_iadd hx hb dX11_takeClause_106 ?_
      refine xput (ref := "AbsentPraiseModel") (T := TX11) (ty := .int) hC hP hS (by decide) hin_X11 tyX11 tyX11_ok nmX11 xo_X11 rfl 21 (by decide) (List.mem_of_getElem? (i := 2) rfl) rfl rfl rfl rfl rfl (Nat.le_of_ble_eq_true rfl) dX11_takeClause_107 rfl (fun S_111 hS_111 H locs hP hS => ?_)
      refine lv_aload_n hx hb dX11_takeClause_110 rfl (lv_at hl 2 rfl) ?_
      refine lv_iload_n hx hb dX11_takeClause_111 rfl (lv_at hl 0 rfl) ?_
      have hn_112 : s_X11_takeBody S_111 0 := (by have hr_2 := hr_2.symm; have hS_3 := hS_3.symm; have hr_109 := hr_109.symm; have hS_111 := hS_111.symm; subst hr_2 hS_3 hr_109 hS_111; exact nl (sp (sp (nr hs) c_5) c_110))
      refine xcV_iW (b := 127) (As := [.int 0]) (rest := []) hC hP hS (k_X11_takeBody l X S_111 0 hn_112) (cwV 1 hts gX11_takeClause_X11_takeBody rfl rfl rfl hd_X11_takeBody ⟨Nat.le_of_ble_eq_true rfl, Nat.le_of_ble_eq_true rfl⟩) xo_X11 rfl rfl rfl hl.1 (Nat.le_of_ble_eq_true rfl) dX11_takeClause_112 (fun r_113 S_114 hp_r_113 H locs hP hS => ?_)
      obtain ⟨hr_113, hS_114⟩ := hp_r_113
      refine lv_istore_n (lv' := [(3, .int r_113), (2, .int 0), (1, .int r_2), (0, .ref (X.2.1 127))]) hx hb dX11_takeClause_115 rfl hl (by decide) rfl (fun ls hl => ?_)
      refine lv_iload_n hx hb dX11_takeClause_116 rfl (lv_at hl 0 rfl) ?_
      refine lv_if_le (tgt := 122) hx hb dX11_takeClause_117 (by decide) (fun c_116 => ?_) (fun c_116 => ?_)
      · refine lv_aload_n hx hb dX11_takeClause_122 rfl (lv_at hl 3 rfl) ?_
        have hn_117 : s_X11_here S_114 := (by have hr_2 := hr_2.symm; have hS_3 := hS_3.symm; have hr_109 := hr_109.symm; have hS_111 := hS_111.symm; have hr_113 := hr_113.symm; have hS_114 := hS_114.symm; subst hr_2 hS_3 hr_109 hS_111 hr_113 hS_114; exact nl (sp (nr (sp (sp (nr hs) c_5) c_110)) c_116))
        refine xcV_iW (b := 127) (As := []) (rest := []) hC hP hS (k_X11_here l X S_114 hn_117) (cwV 0 hts gX11_takeClause_X11_here rfl rfl rfl hd_X11_here ⟨Nat.le_of_ble_eq_true rfl, Nat.le_of_ble_eq_true rfl⟩) xo_X11 rfl rfl rfl hl.1 (Nat.le_of_ble_eq_true rfl) dX11_takeClause_123 (fun r_118 S_119 hp_r_118 H locs hP hS => ?_)
        obtain ⟨hr_118, hS_119⟩ := hp_r_118
        refine lv_bipush (v := 59) hx hb dX11_takeClause_126 (by decide) ?_
        refine lv_icmp_eq (tgt := 141) hx hb dX11_takeClause_128 (by decide) (fun c_121 => ?_) (fun c_121 => ?_)
        · refine lv_aload_n hx hb dX11_takeClause_141 rfl (lv_at hl 3 rfl) ?_
          refine lv_dup hx hb dX11_takeClause_142 rfl ?_
          refine xget (ref := "AbsentPraiseModel") (T := TX11) (v := .int (S_119 127 21)) hC hP hin_X11 xo_X11 rfl 21 (by decide) (List.mem_of_getElem? (i := 2) rfl) rfl rfl dX11_takeClause_143 ?_
          refine lv_iconst (v := 1) hx hb dX11_takeClause_146 (by decide) ?_
          refine lv_iadd hx hb dX11_takeClause_147 ?_
          refine xput (ref := "AbsentPraiseModel") (T := TX11) (ty := .int) hC hP hS (by decide) hin_X11 tyX11 tyX11_ok nmX11 xo_X11 rfl 21 (by decide) (List.mem_of_getElem? (i := 2) rfl) rfl rfl rfl rfl rfl (Nat.le_of_ble_eq_true rfl) dX11_takeClause_148 rfl (fun S_122 hS_122 H locs hP hS => ?_)
          refine lv_iconst (v := 0) hx hb dX11_takeClause_151 (by decide) ?_
          exact xret_iW hC hP hS hb hr (by simp only [f_X11_takeClause, ← hr_2, ← hS_3, ← hr_109, ← hS_111, ← hr_113, ← hS_114, ← hr_118, ← hS_119, ← hS_122, if_pos c_5, if_pos c_110, if_pos c_116, if_pos c_121]) dX11_takeClause_152 hlocks
        · refine lv_aload_n hx hb dX11_takeClause_131 rfl (lv_at hl 3 rfl) ?_
          refine lv_iconst (v := 1) hx hb dX11_takeClause_132 (by decide) ?_
          refine lv_aload_n hx hb dX11_takeClause_133 rfl (lv_at hl 3 rfl) ?_
          refine xget (ref := "AbsentPraiseModel") (T := TX11) (v := .int (S_119 127 21)) hC hP hin_X11 xo_X11 rfl 21 (by decide) (List.mem_of_getElem? (i := 2) rfl) rfl rfl dX11_takeClause_134 ?_
          refine xcV_iW (b := 127) (As := [.int 1, .int (S_119 127 21)]) (rest := []) hC hP hS (k_X11_fails l X S_119 1 (S_119 127 21)) (cwV 2 hts gX11_takeClause_X11_fails rfl rfl rfl hd_X11_fails ⟨Nat.le_of_ble_eq_true rfl, Nat.le_of_ble_eq_true rfl⟩) xo_X11 rfl rfl rfl hl.1 (Nat.le_of_ble_eq_true rfl) dX11_takeClause_137 (fun r_123 S_124 hp_r_123 H locs hP hS => ?_)
          obtain ⟨hr_123, hS_124⟩ := hp_r_123
          exact xret_iW hC hP hS hb hr (by simp only [f_X11_takeClause, ← hr_2, ← hS_3, ← hr_109, ← hS_111, ← hr_113, ← hS_114, ← hr_118, ← hS_119, ← hr_123, ← hS_124, if_pos c_5, if_pos c_110, if_pos c_116, if_neg c_121]) dX11_takeClause_140 hlocks
      · refine lv_iload_n hx hb dX11_takeClause_120 rfl (lv_at hl 0 rfl) ?_
        exact xret_iW hC hP hS hb hr (by simp only [f_X11_takeClause, ← hr_2, ← hS_3, ← hr_109, ← hS_111, ← hr_113, ← hS_114, if_pos c_5, if_pos c_110, if_neg c_116]) dX11_takeClause_121 hlocks
    · refine lv_aload_n hx hb dX11_takeClause_90 rfl (lv_at hl 2 rfl) ?_
      refine lv_iconst (v := 3) hx hb dX11_takeClause_91 (by decide) ?_
      refine lv_aload_n hx hb dX11_takeClause_92 rfl (lv_at hl 2 rfl) ?_
      refine xget (ref := "AbsentPraiseModel") (T := TX11) (v := .int (S_3 127 21)) hC hP hin_X11 xo_X11 rfl 21 (by decide) (List.mem_of_getElem? (i := 2) rfl) rfl rfl dX11_takeClause_93 ?_
      refine xcV_iW (b := 127) (As := [.int 3, .int (S_3 127 21)]) (rest := []) hC hP hS (k_X11_fails l X S_3 3 (S_3 127 21)) (cwV 2 hts gX11_takeClause_X11_fails rfl rfl rfl hd_X11_fails ⟨Nat.le_of_ble_eq_true rfl, Nat.le_of_ble_eq_true rfl⟩) xo_X11 rfl rfl rfl hl.1 (Nat.le_of_ble_eq_true rfl) dX11_takeClause_96 (fun r_126 S_127 hp_r_126 H locs hP hS => ?_)
      obtain ⟨hr_126, hS_127⟩ := hp_r_126
      exact xret_iW hC hP hS hb hr (by simp only [f_X11_takeClause, ← hr_2, ← hS_3, ← hr_109, ← hr_126, ← hS_127, if_pos c_5, if_neg c_110]) dX11_takeClause_99 hlocks
