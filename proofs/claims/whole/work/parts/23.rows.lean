/-! contracts: X11_takeClause, X11_takeRead -/
theorem hd_X11_takeClause : yX11_takeClause.cls = RX11 ∧ yX11_takeClause.cls ≠ "java/lang/invoke/MethodHandle" ∧ yX11_takeClause.cls ≠ "java/lang/invoke/VarHandle" ∧ (parseMethodDescriptor yX11_takeClause.desc).map (fun d => d.parameters.length) = some 0 := by decide +kernel
set_option maxHeartbeats 4000000 in
set_option maxRecDepth 100000 in
theorem k_X11_takeClause (l : Launch) (X : xX) (S : xS) (hs : s_X11_takeClause S) : Met l yX11_takeClause wsX11_takeClause ({ frames := 5, cells := 0, slots := 0, locals := 112 } : Room) (va_Pc [.ref (X.2.1 127)] (xI X S)) (va_Qi (fun (r : Int32) (u : xS) => r = (f_X11_takeClause S).1 ∧ u = (f_X11_takeClause S).2) (xI X) (xA X)) 0 0 (xA X) := by
  refine Met.ofW (cc := cX11_takeClause) (maxL := 4) (ret := (some .int)) (by decide) rfl ?_
  intro p e s m args below meth c s₁ B hml hv
  obtain ⟨rfl, hP, hK, hN, hJ⟩ := hv
  have hx := B.exec
  have hb := B.bytes
  have hr := B.returns
  have hts := atoms_spec (ws := wsX11_takeClause) B.pre
  have hown : s.vm.findClass RX11 = some m.cls := findClass_of_methodNamed B.named
  have hlocks := B.notSynchronized
  have hC : xC X p m c cX11_takeClause 4 s _ wsX11_takeClause RX11 := ⟨⟨hx, hb, hml, hown, hts⟩, hK, hN, hJ⟩
  have hS : va_S (xA X) s.heap s.heap [] := va_S.rf
  have hin_X11 : ∀ w ∈ u_ws RX11 TX11 41, w ∈ wsX11_takeClause := by decide +kernel
  have hl := lv_entry ([.ref (X.2.1 127)]) (n := 4) (Nat.le_of_ble_eq_true rfl)
  rw [lg_entry_eq]
  generalize (lg_sl ([.ref (X.2.1 127)]) ++ List.replicate (4 - (lg_sl ([.ref (X.2.1 127)])).length) Slot.unset).toArray = ls at hl ⊢
  have hl : lv_has ls 4 [(0, .ref (X.2.1 127))] := hl
  refine lv_aload_n hx hb dX11_takeClause_0 rfl (lv_at hl 0 rfl) ?_
  have hn_1 : s_X11_here S := (nl hs)
  refine xcV_iW (b := 127) (As := []) (rest := []) hC hP hS (k_X11_here l X S hn_1) (cwV 0 hts gX11_takeClause_X11_here rfl rfl rfl hd_X11_here ⟨Nat.le_of_ble_eq_true rfl, Nat.le_of_ble_eq_true rfl⟩) xo_X11 rfl rfl rfl hl.1 (Nat.le_of_ble_eq_true rfl) dX11_takeClause_1 (fun r_2 S_3 hp_r_2 H locs hP hS => ?_)
  obtain ⟨hr_2, hS_3⟩ := hp_r_2
  refine lv_istore_n (lv' := [(1, .int r_2), (0, .ref (X.2.1 127))]) hx hb dX11_takeClause_4 rfl hl (by decide) rfl (fun ls hl => ?_)
  refine lv_iload_n hx hb dX11_takeClause_5 rfl (lv_at hl 0 rfl) ?_
  refine lv_bipush (v := 114) hx hb dX11_takeClause_6 (by decide) ?_
  refine lv_icmp_ne (tgt := 15) hx hb dX11_takeClause_8 (by decide) (fun c_5 => ?_) (fun c_5 => ?_)
  · refine lv_iload_n hx hb dX11_takeClause_15 rfl (lv_at hl 0 rfl) ?_
    refine lv_bipush (v := 98) hx hb dX11_takeClause_16 (by decide) ?_
    refine lv_icmp_ne (tgt := 25) hx hb dX11_takeClause_18 (by decide) (fun c_6 => ?_) (fun c_6 => ?_)
    · refine lv_iload_n hx hb dX11_takeClause_25 rfl (lv_at hl 0 rfl) ?_
      refine lv_bipush (v := 103) hx hb dX11_takeClause_26 (by decide) ?_
      refine lv_icmp_ne (tgt := 35) hx hb dX11_takeClause_28 (by decide) (fun c_7 => ?_) (fun c_7 => ?_)
      · refine lv_iload_n hx hb dX11_takeClause_35 rfl (lv_at hl 0 rfl) ?_
        refine lv_bipush (v := 112) hx hb dX11_takeClause_36 (by decide) ?_
        refine lv_icmp_ne (tgt := 45) hx hb dX11_takeClause_38 (by decide) (fun c_8 => ?_) (fun c_8 => ?_)
        · refine lv_iload_n hx hb dX11_takeClause_45 rfl (lv_at hl 0 rfl) ?_
          refine lv_bipush (v := 108) hx hb dX11_takeClause_46 (by decide) ?_
          refine lv_icmp_ne (tgt := 55) hx hb dX11_takeClause_48 (by decide) (fun c_9 => ?_) (fun c_9 => ?_)
          · refine lv_iconst (v := (-1)) hx hb dX11_takeClause_55 (by decide) ?_
            refine lv_istore_n (lv' := [(2, .int (-1)), (1, .int r_2), (0, .ref (X.2.1 127))]) hx hb dX11_takeClause_56 rfl hl (by decide) rfl (fun ls hl => ?_)
            refine lv_iload_n hx hb dX11_takeClause_57 rfl (lv_at hl 0 rfl) ?_
            refine lv_if_lt (tgt := 72) hx hb dX11_takeClause_58 (by decide) (fun _ => ?_) (fun c => absurd c (by decide))
            refine lv_aload_n hx hb dX11_takeClause_72 rfl (lv_at hl 2 rfl) ?_
            refine lv_iconst (v := 1) hx hb dX11_takeClause_73 (by decide) ?_
            refine lv_aload_n hx hb dX11_takeClause_74 rfl (lv_at hl 2 rfl) ?_
            refine xget (ref := "AbsentPraiseModel") (T := TX11) (v := .int (S_3 127 21)) hC hP hin_X11 xo_X11 rfl 21 (by decide) (List.mem_of_getElem? (i := 2) rfl) rfl rfl dX11_takeClause_75 ?_
            refine xcV_iW (b := 127) (As := [.int 1, .int (S_3 127 21)]) (rest := []) hC hP hS (k_X11_fails l X S_3 1 (S_3 127 21)) (cwV 2 hts gX11_takeClause_X11_fails rfl rfl rfl hd_X11_fails ⟨Nat.le_of_ble_eq_true rfl, Nat.le_of_ble_eq_true rfl⟩) xo_X11 rfl rfl rfl hl.1 (Nat.le_of_ble_eq_true rfl) dX11_takeClause_78 (fun r_10 S_11 hp_r_10 H locs hP hS => ?_)
            obtain ⟨hr_10, hS_11⟩ := hp_r_10
            exact xret_iW hC hP hS hb hr ((by subst hr_2 hS_3 hr_10 hS_11; exact (iN c_5 (iN c_6 (iN c_7 (iN c_8 (iN c_9 rfl))))))) dX11_takeClause_81 hlocks
          · refine lv_iconst (v := 4) hx hb dX11_takeClause_51 (by decide) ?_
            refine lv_goto (tgt := 56) hx hb dX11_takeClause_52 (by decide) ?_
            refine lv_istore_n (lv' := [(2, .int 4), (1, .int r_2), (0, .ref (X.2.1 127))]) hx hb dX11_takeClause_56 rfl hl (by decide) rfl (fun ls hl => ?_)
            refine lv_iload_n hx hb dX11_takeClause_57 rfl (lv_at hl 0 rfl) ?_
            refine lv_if_lt (tgt := 72) hx hb dX11_takeClause_58 (by decide) (fun c => absurd c (by decide)) (fun _ => ?_)
            refine lv_iload_n hx hb dX11_takeClause_61 rfl (lv_at hl 0 rfl) ?_
            refine lv_if_le (tgt := 82) hx hb dX11_takeClause_62 (by decide) (fun c => absurd c (by decide)) (fun _ => ?_)
            refine lv_aload_n hx hb dX11_takeClause_65 rfl (lv_at hl 2 rfl) ?_
            refine xget (ref := "AbsentPraiseModel") (T := TX11) (v := .int (S_3 127 24)) hC hP hin_X11 xo_X11 rfl 24 (by decide) (List.mem_of_getElem? (i := 1) rfl) rfl rfl dX11_takeClause_66 ?_
            refine lv_if_ne (tgt := 82) hx hb dX11_takeClause_69 (by decide) (fun c_13 => ?_) (fun c_13 => ?_)
            · refine lv_aload_n hx hb dX11_takeClause_82 rfl (lv_at hl 2 rfl) ?_
              refine lv_iload_n hx hb dX11_takeClause_83 rfl (lv_at hl 0 rfl) ?_
              refine xcV_iR (b := 127) (As := [.int 4]) (rest := []) hC hP hS (k_X11_isFull l X S_3 4) (cwV 1 hts gX11_takeClause_X11_isFull rfl rfl rfl hd_X11_isFull ⟨Nat.le_of_ble_eq_true rfl, Nat.le_of_ble_eq_true rfl⟩) xo_X11 rfl rfl rfl hl.1 (Nat.le_of_ble_eq_true rfl) dX11_takeClause_84 (fun r_14 hp_r_14 H locs hP hS => ?_)
              obtain ⟨hr_14, hzr_14⟩ := hp_r_14
              refine lv_if_eq (tgt := 100) hx hb dX11_takeClause_87 (by decide) (fun c_15 => ?_) (fun c_15 => ?_)
              · refine lv_aload_n hx hb dX11_takeClause_100 rfl (lv_at hl 2 rfl) ?_
                refine lv_dup hx hb dX11_takeClause_101 rfl ?_
                refine xget (ref := "AbsentPraiseModel") (T := TX11) (v := .int (S_3 127 21)) hC hP hin_X11 xo_X11 rfl 21 (by decide) (List.mem_of_getElem? (i := 2) rfl) rfl rfl dX11_takeClause_102 ?_
                refine lv_iconst (v := 1) hx hb dX11_takeClause_105 (by decide) ?_
                refine lv_iadd hx hb dX11_takeClause_106 ?_
                refine xput (ref := "AbsentPraiseModel") (T := TX11) (ty := .int) hC hP hS (by decide) hin_X11 tyX11 tyX11_ok nmX11 xo_X11 rfl 21 (by decide) (List.mem_of_getElem? (i := 2) rfl) rfl rfl rfl rfl rfl (Nat.le_of_ble_eq_true rfl) dX11_takeClause_107 rfl (fun S_16 hS_16 H locs hP hS => ?_)
                refine lv_aload_n hx hb dX11_takeClause_110 rfl (lv_at hl 2 rfl) ?_
                refine lv_iload_n hx hb dX11_takeClause_111 rfl (lv_at hl 0 rfl) ?_
                have hn_17 : s_X11_takeBody S_16 4 := (by subst hr_2 hS_3 hr_14 hS_16; exact nl (sp (sn (sp (sn (sn (sn (sn (nr hs) c_5) c_6) c_7) c_8) c_9) c_13) c_15))
                refine xcV_iW (b := 127) (As := [.int 4]) (rest := []) hC hP hS (k_X11_takeBody l X S_16 4 hn_17) (cwV 1 hts gX11_takeClause_X11_takeBody rfl rfl rfl hd_X11_takeBody ⟨Nat.le_of_ble_eq_true rfl, Nat.le_of_ble_eq_true rfl⟩) xo_X11 rfl rfl rfl hl.1 (Nat.le_of_ble_eq_true rfl) dX11_takeClause_112 (fun r_18 S_19 hp_r_18 H locs hP hS => ?_)
                obtain ⟨hr_18, hS_19⟩ := hp_r_18
                refine lv_istore_n (lv' := [(3, .int r_18), (2, .int 4), (1, .int r_2), (0, .ref (X.2.1 127))]) hx hb dX11_takeClause_115 rfl hl (by decide) rfl (fun ls hl => ?_)
                refine lv_iload_n hx hb dX11_takeClause_116 rfl (lv_at hl 0 rfl) ?_
                refine lv_if_le (tgt := 122) hx hb dX11_takeClause_117 (by decide) (fun c_21 => ?_) (fun c_21 => ?_)
                · refine lv_aload_n hx hb dX11_takeClause_122 rfl (lv_at hl 3 rfl) ?_
                  have hn_22 : s_X11_here S_19 := (by subst hr_2 hS_3 hr_14 hS_16 hr_18 hS_19; exact nl (sp (nr (sp (sn (sp (sn (sn (sn (sn (nr hs) c_5) c_6) c_7) c_8) c_9) c_13) c_15)) c_21))
                  refine xcV_iW (b := 127) (As := []) (rest := []) hC hP hS (k_X11_here l X S_19 hn_22) (cwV 0 hts gX11_takeClause_X11_here rfl rfl rfl hd_X11_here ⟨Nat.le_of_ble_eq_true rfl, Nat.le_of_ble_eq_true rfl⟩) xo_X11 rfl rfl rfl hl.1 (Nat.le_of_ble_eq_true rfl) dX11_takeClause_123 (fun r_23 S_24 hp_r_23 H locs hP hS => ?_)
                  obtain ⟨hr_23, hS_24⟩ := hp_r_23
                  refine lv_bipush (v := 59) hx hb dX11_takeClause_126 (by decide) ?_
                  refine lv_icmp_eq (tgt := 141) hx hb dX11_takeClause_128 (by decide) (fun c_26 => ?_) (fun c_26 => ?_)
                  · refine lv_aload_n hx hb dX11_takeClause_141 rfl (lv_at hl 3 rfl) ?_
                    refine lv_dup hx hb dX11_takeClause_142 rfl ?_
                    refine xget (ref := "AbsentPraiseModel") (T := TX11) (v := .int (S_24 127 21)) hC hP hin_X11 xo_X11 rfl 21 (by decide) (List.mem_of_getElem? (i := 2) rfl) rfl rfl dX11_takeClause_143 ?_
                    refine lv_iconst (v := 1) hx hb dX11_takeClause_146 (by decide) ?_
                    refine lv_iadd hx hb dX11_takeClause_147 ?_
                    refine xput (ref := "AbsentPraiseModel") (T := TX11) (ty := .int) hC hP hS (by decide) hin_X11 tyX11 tyX11_ok nmX11 xo_X11 rfl 21 (by decide) (List.mem_of_getElem? (i := 2) rfl) rfl rfl rfl rfl rfl (Nat.le_of_ble_eq_true rfl) dX11_takeClause_148 rfl (fun S_27 hS_27 H locs hP hS => ?_)
                    refine lv_iconst (v := 0) hx hb dX11_takeClause_151 (by decide) ?_
                    exact xret_iW hC hP hS hb hr ((by subst hr_2 hS_3 hr_14 hS_16 hr_18 hS_19 hr_23 hS_24 hS_27; exact (iN c_5 (iN c_6 (iN c_7 (iN c_8 (ip c_9 (iN c_13 (ip c_15 (ip c_21 (ip c_26 rfl))))))))))) dX11_takeClause_152 hlocks
                  · refine lv_aload_n hx hb dX11_takeClause_131 rfl (lv_at hl 3 rfl) ?_
                    refine lv_iconst (v := 1) hx hb dX11_takeClause_132 (by decide) ?_
                    refine lv_aload_n hx hb dX11_takeClause_133 rfl (lv_at hl 3 rfl) ?_
                    refine xget (ref := "AbsentPraiseModel") (T := TX11) (v := .int (S_24 127 21)) hC hP hin_X11 xo_X11 rfl 21 (by decide) (List.mem_of_getElem? (i := 2) rfl) rfl rfl dX11_takeClause_134 ?_
                    refine xcV_iW (b := 127) (As := [.int 1, .int (S_24 127 21)]) (rest := []) hC hP hS (k_X11_fails l X S_24 1 (S_24 127 21)) (cwV 2 hts gX11_takeClause_X11_fails rfl rfl rfl hd_X11_fails ⟨Nat.le_of_ble_eq_true rfl, Nat.le_of_ble_eq_true rfl⟩) xo_X11 rfl rfl rfl hl.1 (Nat.le_of_ble_eq_true rfl) dX11_takeClause_137 (fun r_28 S_29 hp_r_28 H locs hP hS => ?_)
                    obtain ⟨hr_28, hS_29⟩ := hp_r_28
                    exact xret_iW hC hP hS hb hr ((by subst hr_2 hS_3 hr_14 hS_16 hr_18 hS_19 hr_23 hS_24 hr_28 hS_29; exact (iN c_5 (iN c_6 (iN c_7 (iN c_8 (ip c_9 (iN c_13 (ip c_15 (ip c_21 (iN c_26 rfl))))))))))) dX11_takeClause_140 hlocks
                · refine lv_iload_n hx hb dX11_takeClause_120 rfl (lv_at hl 0 rfl) ?_
                  exact xret_iW hC hP hS hb hr ((by subst hr_2 hS_3 hr_14 hS_16 hr_18 hS_19; exact (iN c_5 (iN c_6 (iN c_7 (iN c_8 (ip c_9 (iN c_13 (ip c_15 (iN c_21 rfl)))))))))) dX11_takeClause_121 hlocks
              · refine lv_aload_n hx hb dX11_takeClause_90 rfl (lv_at hl 2 rfl) ?_
                refine lv_iconst (v := 3) hx hb dX11_takeClause_91 (by decide) ?_
                refine lv_aload_n hx hb dX11_takeClause_92 rfl (lv_at hl 2 rfl) ?_
                refine xget (ref := "AbsentPraiseModel") (T := TX11) (v := .int (S_3 127 21)) hC hP hin_X11 xo_X11 rfl 21 (by decide) (List.mem_of_getElem? (i := 2) rfl) rfl rfl dX11_takeClause_93 ?_
                refine xcV_iW (b := 127) (As := [.int 3, .int (S_3 127 21)]) (rest := []) hC hP hS (k_X11_fails l X S_3 3 (S_3 127 21)) (cwV 2 hts gX11_takeClause_X11_fails rfl rfl rfl hd_X11_fails ⟨Nat.le_of_ble_eq_true rfl, Nat.le_of_ble_eq_true rfl⟩) xo_X11 rfl rfl rfl hl.1 (Nat.le_of_ble_eq_true rfl) dX11_takeClause_96 (fun r_31 S_32 hp_r_31 H locs hP hS => ?_)
                obtain ⟨hr_31, hS_32⟩ := hp_r_31
                exact xret_iW hC hP hS hb hr ((by subst hr_2 hS_3 hr_14 hr_31 hS_32; exact (iN c_5 (iN c_6 (iN c_7 (iN c_8 (ip c_9 (iN c_13 (iN c_15 rfl))))))))) dX11_takeClause_99 hlocks
            · refine lv_aload_n hx hb dX11_takeClause_72 rfl (lv_at hl 2 rfl) ?_
              refine lv_iconst (v := 1) hx hb dX11_takeClause_73 (by decide) ?_
              refine lv_aload_n hx hb dX11_takeClause_74 rfl (lv_at hl 2 rfl) ?_
              refine xget (ref := "AbsentPraiseModel") (T := TX11) (v := .int (S_3 127 21)) hC hP hin_X11 xo_X11 rfl 21 (by decide) (List.mem_of_getElem? (i := 2) rfl) rfl rfl dX11_takeClause_75 ?_
              refine xcV_iW (b := 127) (As := [.int 1, .int (S_3 127 21)]) (rest := []) hC hP hS (k_X11_fails l X S_3 1 (S_3 127 21)) (cwV 2 hts gX11_takeClause_X11_fails rfl rfl rfl hd_X11_fails ⟨Nat.le_of_ble_eq_true rfl, Nat.le_of_ble_eq_true rfl⟩) xo_X11 rfl rfl rfl hl.1 (Nat.le_of_ble_eq_true rfl) dX11_takeClause_78 (fun r_34 S_35 hp_r_34 H locs hP hS => ?_)
              obtain ⟨hr_34, hS_35⟩ := hp_r_34
              exact xret_iW hC hP hS hb hr ((by subst hr_2 hS_3 hr_34 hS_35; exact (iN c_5 (iN c_6 (iN c_7 (iN c_8 (ip c_9 (ip c_13 rfl)))))))) dX11_takeClause_81 hlocks
        · refine lv_iconst (v := 3) hx hb dX11_takeClause_41 (by decide) ?_
          refine lv_goto (tgt := 56) hx hb dX11_takeClause_42 (by decide) ?_
          refine lv_istore_n (lv' := [(2, .int 3), (1, .int r_2), (0, .ref (X.2.1 127))]) hx hb dX11_takeClause_56 rfl hl (by decide) rfl (fun ls hl => ?_)
          refine lv_iload_n hx hb dX11_takeClause_57 rfl (lv_at hl 0 rfl) ?_
          refine lv_if_lt (tgt := 72) hx hb dX11_takeClause_58 (by decide) (fun c => absurd c (by decide)) (fun _ => ?_)
          refine lv_iload_n hx hb dX11_takeClause_61 rfl (lv_at hl 0 rfl) ?_
          refine lv_if_le (tgt := 82) hx hb dX11_takeClause_62 (by decide) (fun c => absurd c (by decide)) (fun _ => ?_)
          refine lv_aload_n hx hb dX11_takeClause_65 rfl (lv_at hl 2 rfl) ?_
          refine xget (ref := "AbsentPraiseModel") (T := TX11) (v := .int (S_3 127 24)) hC hP hin_X11 xo_X11 rfl 24 (by decide) (List.mem_of_getElem? (i := 1) rfl) rfl rfl dX11_takeClause_66 ?_
          refine lv_if_ne (tgt := 82) hx hb dX11_takeClause_69 (by decide) (fun c_37 => ?_) (fun c_37 => ?_)
          · refine lv_aload_n hx hb dX11_takeClause_82 rfl (lv_at hl 2 rfl) ?_
            refine lv_iload_n hx hb dX11_takeClause_83 rfl (lv_at hl 0 rfl) ?_
            refine xcV_iR (b := 127) (As := [.int 3]) (rest := []) hC hP hS (k_X11_isFull l X S_3 3) (cwV 1 hts gX11_takeClause_X11_isFull rfl rfl rfl hd_X11_isFull ⟨Nat.le_of_ble_eq_true rfl, Nat.le_of_ble_eq_true rfl⟩) xo_X11 rfl rfl rfl hl.1 (Nat.le_of_ble_eq_true rfl) dX11_takeClause_84 (fun r_38 hp_r_38 H locs hP hS => ?_)
            obtain ⟨hr_38, hzr_38⟩ := hp_r_38
            refine lv_if_eq (tgt := 100) hx hb dX11_takeClause_87 (by decide) (fun c_39 => ?_) (fun c_39 => ?_)
            · refine lv_aload_n hx hb dX11_takeClause_100 rfl (lv_at hl 2 rfl) ?_
              refine lv_dup hx hb dX11_takeClause_101 rfl ?_
              refine xget (ref := "AbsentPraiseModel") (T := TX11) (v := .int (S_3 127 21)) hC hP hin_X11 xo_X11 rfl 21 (by decide) (List.mem_of_getElem? (i := 2) rfl) rfl rfl dX11_takeClause_102 ?_
              refine lv_iconst (v := 1) hx hb dX11_takeClause_105 (by decide) ?_
              refine lv_iadd hx hb dX11_takeClause_106 ?_
              refine xput (ref := "AbsentPraiseModel") (T := TX11) (ty := .int) hC hP hS (by decide) hin_X11 tyX11 tyX11_ok nmX11 xo_X11 rfl 21 (by decide) (List.mem_of_getElem? (i := 2) rfl) rfl rfl rfl rfl rfl (Nat.le_of_ble_eq_true rfl) dX11_takeClause_107 rfl (fun S_40 hS_40 H locs hP hS => ?_)
              refine lv_aload_n hx hb dX11_takeClause_110 rfl (lv_at hl 2 rfl) ?_
              refine lv_iload_n hx hb dX11_takeClause_111 rfl (lv_at hl 0 rfl) ?_
              have hn_41 : s_X11_takeBody S_40 3 := (by subst hr_2 hS_3 hr_38 hS_40; exact nl (sp (sn (sp (sn (sn (sn (nr hs) c_5) c_6) c_7) c_8) c_37) c_39))
              refine xcV_iW (b := 127) (As := [.int 3]) (rest := []) hC hP hS (k_X11_takeBody l X S_40 3 hn_41) (cwV 1 hts gX11_takeClause_X11_takeBody rfl rfl rfl hd_X11_takeBody ⟨Nat.le_of_ble_eq_true rfl, Nat.le_of_ble_eq_true rfl⟩) xo_X11 rfl rfl rfl hl.1 (Nat.le_of_ble_eq_true rfl) dX11_takeClause_112 (fun r_42 S_43 hp_r_42 H locs hP hS => ?_)
              obtain ⟨hr_42, hS_43⟩ := hp_r_42
              refine lv_istore_n (lv' := [(3, .int r_42), (2, .int 3), (1, .int r_2), (0, .ref (X.2.1 127))]) hx hb dX11_takeClause_115 rfl hl (by decide) rfl (fun ls hl => ?_)
              refine lv_iload_n hx hb dX11_takeClause_116 rfl (lv_at hl 0 rfl) ?_
              refine lv_if_le (tgt := 122) hx hb dX11_takeClause_117 (by decide) (fun c_45 => ?_) (fun c_45 => ?_)
              · refine lv_aload_n hx hb dX11_takeClause_122 rfl (lv_at hl 3 rfl) ?_
                have hn_46 : s_X11_here S_43 := (by subst hr_2 hS_3 hr_38 hS_40 hr_42 hS_43; exact nl (sp (nr (sp (sn (sp (sn (sn (sn (nr hs) c_5) c_6) c_7) c_8) c_37) c_39)) c_45))
                refine xcV_iW (b := 127) (As := []) (rest := []) hC hP hS (k_X11_here l X S_43 hn_46) (cwV 0 hts gX11_takeClause_X11_here rfl rfl rfl hd_X11_here ⟨Nat.le_of_ble_eq_true rfl, Nat.le_of_ble_eq_true rfl⟩) xo_X11 rfl rfl rfl hl.1 (Nat.le_of_ble_eq_true rfl) dX11_takeClause_123 (fun r_47 S_48 hp_r_47 H locs hP hS => ?_)
                obtain ⟨hr_47, hS_48⟩ := hp_r_47
                refine lv_bipush (v := 59) hx hb dX11_takeClause_126 (by decide) ?_
                refine lv_icmp_eq (tgt := 141) hx hb dX11_takeClause_128 (by decide) (fun c_50 => ?_) (fun c_50 => ?_)
                · refine lv_aload_n hx hb dX11_takeClause_141 rfl (lv_at hl 3 rfl) ?_
                  refine lv_dup hx hb dX11_takeClause_142 rfl ?_
                  refine xget (ref := "AbsentPraiseModel") (T := TX11) (v := .int (S_48 127 21)) hC hP hin_X11 xo_X11 rfl 21 (by decide) (List.mem_of_getElem? (i := 2) rfl) rfl rfl dX11_takeClause_143 ?_
                  refine lv_iconst (v := 1) hx hb dX11_takeClause_146 (by decide) ?_
                  refine lv_iadd hx hb dX11_takeClause_147 ?_
                  refine xput (ref := "AbsentPraiseModel") (T := TX11) (ty := .int) hC hP hS (by decide) hin_X11 tyX11 tyX11_ok nmX11 xo_X11 rfl 21 (by decide) (List.mem_of_getElem? (i := 2) rfl) rfl rfl rfl rfl rfl (Nat.le_of_ble_eq_true rfl) dX11_takeClause_148 rfl (fun S_51 hS_51 H locs hP hS => ?_)
                  refine lv_iconst (v := 0) hx hb dX11_takeClause_151 (by decide) ?_
                  exact xret_iW hC hP hS hb hr ((by subst hr_2 hS_3 hr_38 hS_40 hr_42 hS_43 hr_47 hS_48 hS_51; exact (iN c_5 (iN c_6 (iN c_7 (ip c_8 (iN c_37 (ip c_39 (ip c_45 (ip c_50 rfl)))))))))) dX11_takeClause_152 hlocks
                · refine lv_aload_n hx hb dX11_takeClause_131 rfl (lv_at hl 3 rfl) ?_
                  refine lv_iconst (v := 1) hx hb dX11_takeClause_132 (by decide) ?_
                  refine lv_aload_n hx hb dX11_takeClause_133 rfl (lv_at hl 3 rfl) ?_
                  refine xget (ref := "AbsentPraiseModel") (T := TX11) (v := .int (S_48 127 21)) hC hP hin_X11 xo_X11 rfl 21 (by decide) (List.mem_of_getElem? (i := 2) rfl) rfl rfl dX11_takeClause_134 ?_
                  refine xcV_iW (b := 127) (As := [.int 1, .int (S_48 127 21)]) (rest := []) hC hP hS (k_X11_fails l X S_48 1 (S_48 127 21)) (cwV 2 hts gX11_takeClause_X11_fails rfl rfl rfl hd_X11_fails ⟨Nat.le_of_ble_eq_true rfl, Nat.le_of_ble_eq_true rfl⟩) xo_X11 rfl rfl rfl hl.1 (Nat.le_of_ble_eq_true rfl) dX11_takeClause_137 (fun r_52 S_53 hp_r_52 H locs hP hS => ?_)
                  obtain ⟨hr_52, hS_53⟩ := hp_r_52
                  exact xret_iW hC hP hS hb hr ((by subst hr_2 hS_3 hr_38 hS_40 hr_42 hS_43 hr_47 hS_48 hr_52 hS_53; exact (iN c_5 (iN c_6 (iN c_7 (ip c_8 (iN c_37 (ip c_39 (ip c_45 (iN c_50 rfl)))))))))) dX11_takeClause_140 hlocks
              · refine lv_iload_n hx hb dX11_takeClause_120 rfl (lv_at hl 0 rfl) ?_
                exact xret_iW hC hP hS hb hr ((by subst hr_2 hS_3 hr_38 hS_40 hr_42 hS_43; exact (iN c_5 (iN c_6 (iN c_7 (ip c_8 (iN c_37 (ip c_39 (iN c_45 rfl))))))))) dX11_takeClause_121 hlocks
            · refine lv_aload_n hx hb dX11_takeClause_90 rfl (lv_at hl 2 rfl) ?_
              refine lv_iconst (v := 3) hx hb dX11_takeClause_91 (by decide) ?_
              refine lv_aload_n hx hb dX11_takeClause_92 rfl (lv_at hl 2 rfl) ?_
              refine xget (ref := "AbsentPraiseModel") (T := TX11) (v := .int (S_3 127 21)) hC hP hin_X11 xo_X11 rfl 21 (by decide) (List.mem_of_getElem? (i := 2) rfl) rfl rfl dX11_takeClause_93 ?_
              refine xcV_iW (b := 127) (As := [.int 3, .int (S_3 127 21)]) (rest := []) hC hP hS (k_X11_fails l X S_3 3 (S_3 127 21)) (cwV 2 hts gX11_takeClause_X11_fails rfl rfl rfl hd_X11_fails ⟨Nat.le_of_ble_eq_true rfl, Nat.le_of_ble_eq_true rfl⟩) xo_X11 rfl rfl rfl hl.1 (Nat.le_of_ble_eq_true rfl) dX11_takeClause_96 (fun r_55 S_56 hp_r_55 H locs hP hS => ?_)
              obtain ⟨hr_55, hS_56⟩ := hp_r_55
              exact xret_iW hC hP hS hb hr ((by subst hr_2 hS_3 hr_38 hr_55 hS_56; exact (iN c_5 (iN c_6 (iN c_7 (ip c_8 (iN c_37 (iN c_39 rfl)))))))) dX11_takeClause_99 hlocks
          · refine lv_aload_n hx hb dX11_takeClause_72 rfl (lv_at hl 2 rfl) ?_
            refine lv_iconst (v := 1) hx hb dX11_takeClause_73 (by decide) ?_
            refine lv_aload_n hx hb dX11_takeClause_74 rfl (lv_at hl 2 rfl) ?_
            refine xget (ref := "AbsentPraiseModel") (T := TX11) (v := .int (S_3 127 21)) hC hP hin_X11 xo_X11 rfl 21 (by decide) (List.mem_of_getElem? (i := 2) rfl) rfl rfl dX11_takeClause_75 ?_
            refine xcV_iW (b := 127) (As := [.int 1, .int (S_3 127 21)]) (rest := []) hC hP hS (k_X11_fails l X S_3 1 (S_3 127 21)) (cwV 2 hts gX11_takeClause_X11_fails rfl rfl rfl hd_X11_fails ⟨Nat.le_of_ble_eq_true rfl, Nat.le_of_ble_eq_true rfl⟩) xo_X11 rfl rfl rfl hl.1 (Nat.le_of_ble_eq_true rfl) dX11_takeClause_78 (fun r_58 S_59 hp_r_58 H locs hP hS => ?_)
            obtain ⟨hr_58, hS_59⟩ := hp_r_58
            exact xret_iW hC hP hS hb hr ((by subst hr_2 hS_3 hr_58 hS_59; exact (iN c_5 (iN c_6 (iN c_7 (ip c_8 (ip c_37 rfl))))))) dX11_takeClause_81 hlocks
      · refine lv_iconst (v := 2) hx hb dX11_takeClause_31 (by decide) ?_
        refine lv_goto (tgt := 56) hx hb dX11_takeClause_32 (by decide) ?_
        refine lv_istore_n (lv' := [(2, .int 2), (1, .int r_2), (0, .ref (X.2.1 127))]) hx hb dX11_takeClause_56 rfl hl (by decide) rfl (fun ls hl => ?_)
        refine lv_iload_n hx hb dX11_takeClause_57 rfl (lv_at hl 0 rfl) ?_
        refine lv_if_lt (tgt := 72) hx hb dX11_takeClause_58 (by decide) (fun c => absurd c (by decide)) (fun _ => ?_)
        refine lv_iload_n hx hb dX11_takeClause_61 rfl (lv_at hl 0 rfl) ?_
        refine lv_if_le (tgt := 82) hx hb dX11_takeClause_62 (by decide) (fun c => absurd c (by decide)) (fun _ => ?_)
        refine lv_aload_n hx hb dX11_takeClause_65 rfl (lv_at hl 2 rfl) ?_
        refine xget (ref := "AbsentPraiseModel") (T := TX11) (v := .int (S_3 127 24)) hC hP hin_X11 xo_X11 rfl 24 (by decide) (List.mem_of_getElem? (i := 1) rfl) rfl rfl dX11_takeClause_66 ?_
        refine lv_if_ne (tgt := 82) hx hb dX11_takeClause_69 (by decide) (fun c_61 => ?_) (fun c_61 => ?_)
        · refine lv_aload_n hx hb dX11_takeClause_82 rfl (lv_at hl 2 rfl) ?_
          refine lv_iload_n hx hb dX11_takeClause_83 rfl (lv_at hl 0 rfl) ?_
          refine xcV_iR (b := 127) (As := [.int 2]) (rest := []) hC hP hS (k_X11_isFull l X S_3 2) (cwV 1 hts gX11_takeClause_X11_isFull rfl rfl rfl hd_X11_isFull ⟨Nat.le_of_ble_eq_true rfl, Nat.le_of_ble_eq_true rfl⟩) xo_X11 rfl rfl rfl hl.1 (Nat.le_of_ble_eq_true rfl) dX11_takeClause_84 (fun r_62 hp_r_62 H locs hP hS => ?_)
          obtain ⟨hr_62, hzr_62⟩ := hp_r_62
          refine lv_if_eq (tgt := 100) hx hb dX11_takeClause_87 (by decide) (fun c_63 => ?_) (fun c_63 => ?_)
          · refine lv_aload_n hx hb dX11_takeClause_100 rfl (lv_at hl 2 rfl) ?_
            refine lv_dup hx hb dX11_takeClause_101 rfl ?_
            refine xget (ref := "AbsentPraiseModel") (T := TX11) (v := .int (S_3 127 21)) hC hP hin_X11 xo_X11 rfl 21 (by decide) (List.mem_of_getElem? (i := 2) rfl) rfl rfl dX11_takeClause_102 ?_
            refine lv_iconst (v := 1) hx hb dX11_takeClause_105 (by decide) ?_
            refine lv_iadd hx hb dX11_takeClause_106 ?_
            refine xput (ref := "AbsentPraiseModel") (T := TX11) (ty := .int) hC hP hS (by decide) hin_X11 tyX11 tyX11_ok nmX11 xo_X11 rfl 21 (by decide) (List.mem_of_getElem? (i := 2) rfl) rfl rfl rfl rfl rfl (Nat.le_of_ble_eq_true rfl) dX11_takeClause_107 rfl (fun S_64 hS_64 H locs hP hS => ?_)
            refine lv_aload_n hx hb dX11_takeClause_110 rfl (lv_at hl 2 rfl) ?_
            refine lv_iload_n hx hb dX11_takeClause_111 rfl (lv_at hl 0 rfl) ?_
            have hn_65 : s_X11_takeBody S_64 2 := (by subst hr_2 hS_3 hr_62 hS_64; exact nl (sp (sn (sp (sn (sn (nr hs) c_5) c_6) c_7) c_61) c_63))
            refine xcV_iW (b := 127) (As := [.int 2]) (rest := []) hC hP hS (k_X11_takeBody l X S_64 2 hn_65) (cwV 1 hts gX11_takeClause_X11_takeBody rfl rfl rfl hd_X11_takeBody ⟨Nat.le_of_ble_eq_true rfl, Nat.le_of_ble_eq_true rfl⟩) xo_X11 rfl rfl rfl hl.1 (Nat.le_of_ble_eq_true rfl) dX11_takeClause_112 (fun r_66 S_67 hp_r_66 H locs hP hS => ?_)
            obtain ⟨hr_66, hS_67⟩ := hp_r_66
            refine lv_istore_n (lv' := [(3, .int r_66), (2, .int 2), (1, .int r_2), (0, .ref (X.2.1 127))]) hx hb dX11_takeClause_115 rfl hl (by decide) rfl (fun ls hl => ?_)
            refine lv_iload_n hx hb dX11_takeClause_116 rfl (lv_at hl 0 rfl) ?_
            refine lv_if_le (tgt := 122) hx hb dX11_takeClause_117 (by decide) (fun c_69 => ?_) (fun c_69 => ?_)
            · refine lv_aload_n hx hb dX11_takeClause_122 rfl (lv_at hl 3 rfl) ?_
              have hn_70 : s_X11_here S_67 := (by subst hr_2 hS_3 hr_62 hS_64 hr_66 hS_67; exact nl (sp (nr (sp (sn (sp (sn (sn (nr hs) c_5) c_6) c_7) c_61) c_63)) c_69))
              refine xcV_iW (b := 127) (As := []) (rest := []) hC hP hS (k_X11_here l X S_67 hn_70) (cwV 0 hts gX11_takeClause_X11_here rfl rfl rfl hd_X11_here ⟨Nat.le_of_ble_eq_true rfl, Nat.le_of_ble_eq_true rfl⟩) xo_X11 rfl rfl rfl hl.1 (Nat.le_of_ble_eq_true rfl) dX11_takeClause_123 (fun r_71 S_72 hp_r_71 H locs hP hS => ?_)
              obtain ⟨hr_71, hS_72⟩ := hp_r_71
              refine lv_bipush (v := 59) hx hb dX11_takeClause_126 (by decide) ?_
              refine lv_icmp_eq (tgt := 141) hx hb dX11_takeClause_128 (by decide) (fun c_74 => ?_) (fun c_74 => ?_)
              · refine lv_aload_n hx hb dX11_takeClause_141 rfl (lv_at hl 3 rfl) ?_
                refine lv_dup hx hb dX11_takeClause_142 rfl ?_
                refine xget (ref := "AbsentPraiseModel") (T := TX11) (v := .int (S_72 127 21)) hC hP hin_X11 xo_X11 rfl 21 (by decide) (List.mem_of_getElem? (i := 2) rfl) rfl rfl dX11_takeClause_143 ?_
                refine lv_iconst (v := 1) hx hb dX11_takeClause_146 (by decide) ?_
                refine lv_iadd hx hb dX11_takeClause_147 ?_
                refine xput (ref := "AbsentPraiseModel") (T := TX11) (ty := .int) hC hP hS (by decide) hin_X11 tyX11 tyX11_ok nmX11 xo_X11 rfl 21 (by decide) (List.mem_of_getElem? (i := 2) rfl) rfl rfl rfl rfl rfl (Nat.le_of_ble_eq_true rfl) dX11_takeClause_148 rfl (fun S_75 hS_75 H locs hP hS => ?_)
                refine lv_iconst (v := 0) hx hb dX11_takeClause_151 (by decide) ?_
                exact xret_iW hC hP hS hb hr ((by subst hr_2 hS_3 hr_62 hS_64 hr_66 hS_67 hr_71 hS_72 hS_75; exact (iN c_5 (iN c_6 (ip c_7 (iN c_61 (ip c_63 (ip c_69 (ip c_74 rfl))))))))) dX11_takeClause_152 hlocks
              · refine lv_aload_n hx hb dX11_takeClause_131 rfl (lv_at hl 3 rfl) ?_
                refine lv_iconst (v := 1) hx hb dX11_takeClause_132 (by decide) ?_
                refine lv_aload_n hx hb dX11_takeClause_133 rfl (lv_at hl 3 rfl) ?_
                refine xget (ref := "AbsentPraiseModel") (T := TX11) (v := .int (S_72 127 21)) hC hP hin_X11 xo_X11 rfl 21 (by decide) (List.mem_of_getElem? (i := 2) rfl) rfl rfl dX11_takeClause_134 ?_
                refine xcV_iW (b := 127) (As := [.int 1, .int (S_72 127 21)]) (rest := []) hC hP hS (k_X11_fails l X S_72 1 (S_72 127 21)) (cwV 2 hts gX11_takeClause_X11_fails rfl rfl rfl hd_X11_fails ⟨Nat.le_of_ble_eq_true rfl, Nat.le_of_ble_eq_true rfl⟩) xo_X11 rfl rfl rfl hl.1 (Nat.le_of_ble_eq_true rfl) dX11_takeClause_137 (fun r_76 S_77 hp_r_76 H locs hP hS => ?_)
                obtain ⟨hr_76, hS_77⟩ := hp_r_76
                exact xret_iW hC hP hS hb hr ((by subst hr_2 hS_3 hr_62 hS_64 hr_66 hS_67 hr_71 hS_72 hr_76 hS_77; exact (iN c_5 (iN c_6 (ip c_7 (iN c_61 (ip c_63 (ip c_69 (iN c_74 rfl))))))))) dX11_takeClause_140 hlocks
            · refine lv_iload_n hx hb dX11_takeClause_120 rfl (lv_at hl 0 rfl) ?_
              exact xret_iW hC hP hS hb hr ((by subst hr_2 hS_3 hr_62 hS_64 hr_66 hS_67; exact (iN c_5 (iN c_6 (ip c_7 (iN c_61 (ip c_63 (iN c_69 rfl)))))))) dX11_takeClause_121 hlocks
          · refine lv_aload_n hx hb dX11_takeClause_90 rfl (lv_at hl 2 rfl) ?_
            refine lv_iconst (v := 3) hx hb dX11_takeClause_91 (by decide) ?_
            refine lv_aload_n hx hb dX11_takeClause_92 rfl (lv_at hl 2 rfl) ?_
            refine xget (ref := "AbsentPraiseModel") (T := TX11) (v := .int (S_3 127 21)) hC hP hin_X11 xo_X11 rfl 21 (by decide) (List.mem_of_getElem? (i := 2) rfl) rfl rfl dX11_takeClause_93 ?_
            refine xcV_iW (b := 127) (As := [.int 3, .int (S_3 127 21)]) (rest := []) hC hP hS (k_X11_fails l X S_3 3 (S_3 127 21)) (cwV 2 hts gX11_takeClause_X11_fails rfl rfl rfl hd_X11_fails ⟨Nat.le_of_ble_eq_true rfl, Nat.le_of_ble_eq_true rfl⟩) xo_X11 rfl rfl rfl hl.1 (Nat.le_of_ble_eq_true rfl) dX11_takeClause_96 (fun r_79 S_80 hp_r_79 H locs hP hS => ?_)
            obtain ⟨hr_79, hS_80⟩ := hp_r_79
            exact xret_iW hC hP hS hb hr ((by subst hr_2 hS_3 hr_62 hr_79 hS_80; exact (iN c_5 (iN c_6 (ip c_7 (iN c_61 (iN c_63 rfl))))))) dX11_takeClause_99 hlocks
        · refine lv_aload_n hx hb dX11_takeClause_72 rfl (lv_at hl 2 rfl) ?_
          refine lv_iconst (v := 1) hx hb dX11_takeClause_73 (by decide) ?_
          refine lv_aload_n hx hb dX11_takeClause_74 rfl (lv_at hl 2 rfl) ?_
          refine xget (ref := "AbsentPraiseModel") (T := TX11) (v := .int (S_3 127 21)) hC hP hin_X11 xo_X11 rfl 21 (by decide) (List.mem_of_getElem? (i := 2) rfl) rfl rfl dX11_takeClause_75 ?_
          refine xcV_iW (b := 127) (As := [.int 1, .int (S_3 127 21)]) (rest := []) hC hP hS (k_X11_fails l X S_3 1 (S_3 127 21)) (cwV 2 hts gX11_takeClause_X11_fails rfl rfl rfl hd_X11_fails ⟨Nat.le_of_ble_eq_true rfl, Nat.le_of_ble_eq_true rfl⟩) xo_X11 rfl rfl rfl hl.1 (Nat.le_of_ble_eq_true rfl) dX11_takeClause_78 (fun r_82 S_83 hp_r_82 H locs hP hS => ?_)
          obtain ⟨hr_82, hS_83⟩ := hp_r_82
          exact xret_iW hC hP hS hb hr ((by subst hr_2 hS_3 hr_82 hS_83; exact (iN c_5 (iN c_6 (ip c_7 (ip c_61 rfl)))))) dX11_takeClause_81 hlocks
    · refine lv_iconst (v := 1) hx hb dX11_takeClause_21 (by decide) ?_
      refine lv_goto (tgt := 56) hx hb dX11_takeClause_22 (by decide) ?_
      refine lv_istore_n (lv' := [(2, .int 1), (1, .int r_2), (0, .ref (X.2.1 127))]) hx hb dX11_takeClause_56 rfl hl (by decide) rfl (fun ls hl => ?_)
      refine lv_iload_n hx hb dX11_takeClause_57 rfl (lv_at hl 0 rfl) ?_
      refine lv_if_lt (tgt := 72) hx hb dX11_takeClause_58 (by decide) (fun c => absurd c (by decide)) (fun _ => ?_)
      refine lv_iload_n hx hb dX11_takeClause_61 rfl (lv_at hl 0 rfl) ?_
      refine lv_if_le (tgt := 82) hx hb dX11_takeClause_62 (by decide) (fun c => absurd c (by decide)) (fun _ => ?_)
      refine lv_aload_n hx hb dX11_takeClause_65 rfl (lv_at hl 2 rfl) ?_
      refine xget (ref := "AbsentPraiseModel") (T := TX11) (v := .int (S_3 127 24)) hC hP hin_X11 xo_X11 rfl 24 (by decide) (List.mem_of_getElem? (i := 1) rfl) rfl rfl dX11_takeClause_66 ?_
      refine lv_if_ne (tgt := 82) hx hb dX11_takeClause_69 (by decide) (fun c_85 => ?_) (fun c_85 => ?_)
      · refine lv_aload_n hx hb dX11_takeClause_82 rfl (lv_at hl 2 rfl) ?_
        refine lv_iload_n hx hb dX11_takeClause_83 rfl (lv_at hl 0 rfl) ?_
        refine xcV_iR (b := 127) (As := [.int 1]) (rest := []) hC hP hS (k_X11_isFull l X S_3 1) (cwV 1 hts gX11_takeClause_X11_isFull rfl rfl rfl hd_X11_isFull ⟨Nat.le_of_ble_eq_true rfl, Nat.le_of_ble_eq_true rfl⟩) xo_X11 rfl rfl rfl hl.1 (Nat.le_of_ble_eq_true rfl) dX11_takeClause_84 (fun r_86 hp_r_86 H locs hP hS => ?_)
        obtain ⟨hr_86, hzr_86⟩ := hp_r_86
        refine lv_if_eq (tgt := 100) hx hb dX11_takeClause_87 (by decide) (fun c_87 => ?_) (fun c_87 => ?_)
        · refine lv_aload_n hx hb dX11_takeClause_100 rfl (lv_at hl 2 rfl) ?_
          refine lv_dup hx hb dX11_takeClause_101 rfl ?_
          refine xget (ref := "AbsentPraiseModel") (T := TX11) (v := .int (S_3 127 21)) hC hP hin_X11 xo_X11 rfl 21 (by decide) (List.mem_of_getElem? (i := 2) rfl) rfl rfl dX11_takeClause_102 ?_
          refine lv_iconst (v := 1) hx hb dX11_takeClause_105 (by decide) ?_
          refine lv_iadd hx hb dX11_takeClause_106 ?_
          refine xput (ref := "AbsentPraiseModel") (T := TX11) (ty := .int) hC hP hS (by decide) hin_X11 tyX11 tyX11_ok nmX11 xo_X11 rfl 21 (by decide) (List.mem_of_getElem? (i := 2) rfl) rfl rfl rfl rfl rfl (Nat.le_of_ble_eq_true rfl) dX11_takeClause_107 rfl (fun S_88 hS_88 H locs hP hS => ?_)
          refine lv_aload_n hx hb dX11_takeClause_110 rfl (lv_at hl 2 rfl) ?_
          refine lv_iload_n hx hb dX11_takeClause_111 rfl (lv_at hl 0 rfl) ?_
          have hn_89 : s_X11_takeBody S_88 1 := (by subst hr_2 hS_3 hr_86 hS_88; exact nl (sp (sn (sp (sn (nr hs) c_5) c_6) c_85) c_87))
          refine xcV_iW (b := 127) (As := [.int 1]) (rest := []) hC hP hS (k_X11_takeBody l X S_88 1 hn_89) (cwV 1 hts gX11_takeClause_X11_takeBody rfl rfl rfl hd_X11_takeBody ⟨Nat.le_of_ble_eq_true rfl, Nat.le_of_ble_eq_true rfl⟩) xo_X11 rfl rfl rfl hl.1 (Nat.le_of_ble_eq_true rfl) dX11_takeClause_112 (fun r_90 S_91 hp_r_90 H locs hP hS => ?_)
          obtain ⟨hr_90, hS_91⟩ := hp_r_90
          refine lv_istore_n (lv' := [(3, .int r_90), (2, .int 1), (1, .int r_2), (0, .ref (X.2.1 127))]) hx hb dX11_takeClause_115 rfl hl (by decide) rfl (fun ls hl => ?_)
          refine lv_iload_n hx hb dX11_takeClause_116 rfl (lv_at hl 0 rfl) ?_
          refine lv_if_le (tgt := 122) hx hb dX11_takeClause_117 (by decide) (fun c_93 => ?_) (fun c_93 => ?_)
          · refine lv_aload_n hx hb dX11_takeClause_122 rfl (lv_at hl 3 rfl) ?_
            have hn_94 : s_X11_here S_91 := (by subst hr_2 hS_3 hr_86 hS_88 hr_90 hS_91; exact nl (sp (nr (sp (sn (sp (sn (nr hs) c_5) c_6) c_85) c_87)) c_93))
            refine xcV_iW (b := 127) (As := []) (rest := []) hC hP hS (k_X11_here l X S_91 hn_94) (cwV 0 hts gX11_takeClause_X11_here rfl rfl rfl hd_X11_here ⟨Nat.le_of_ble_eq_true rfl, Nat.le_of_ble_eq_true rfl⟩) xo_X11 rfl rfl rfl hl.1 (Nat.le_of_ble_eq_true rfl) dX11_takeClause_123 (fun r_95 S_96 hp_r_95 H locs hP hS => ?_)
            obtain ⟨hr_95, hS_96⟩ := hp_r_95
            refine lv_bipush (v := 59) hx hb dX11_takeClause_126 (by decide) ?_
            refine lv_icmp_eq (tgt := 141) hx hb dX11_takeClause_128 (by decide) (fun c_98 => ?_) (fun c_98 => ?_)
            · refine lv_aload_n hx hb dX11_takeClause_141 rfl (lv_at hl 3 rfl) ?_
              refine lv_dup hx hb dX11_takeClause_142 rfl ?_
              refine xget (ref := "AbsentPraiseModel") (T := TX11) (v := .int (S_96 127 21)) hC hP hin_X11 xo_X11 rfl 21 (by decide) (List.mem_of_getElem? (i := 2) rfl) rfl rfl dX11_takeClause_143 ?_
              refine lv_iconst (v := 1) hx hb dX11_takeClause_146 (by decide) ?_
              refine lv_iadd hx hb dX11_takeClause_147 ?_
              refine xput (ref := "AbsentPraiseModel") (T := TX11) (ty := .int) hC hP hS (by decide) hin_X11 tyX11 tyX11_ok nmX11 xo_X11 rfl 21 (by decide) (List.mem_of_getElem? (i := 2) rfl) rfl rfl rfl rfl rfl (Nat.le_of_ble_eq_true rfl) dX11_takeClause_148 rfl (fun S_99 hS_99 H locs hP hS => ?_)
              refine lv_iconst (v := 0) hx hb dX11_takeClause_151 (by decide) ?_
              exact xret_iW hC hP hS hb hr ((by subst hr_2 hS_3 hr_86 hS_88 hr_90 hS_91 hr_95 hS_96 hS_99; exact (iN c_5 (ip c_6 (iN c_85 (ip c_87 (ip c_93 (ip c_98 rfl)))))))) dX11_takeClause_152 hlocks
            · refine lv_aload_n hx hb dX11_takeClause_131 rfl (lv_at hl 3 rfl) ?_
              refine lv_iconst (v := 1) hx hb dX11_takeClause_132 (by decide) ?_
              refine lv_aload_n hx hb dX11_takeClause_133 rfl (lv_at hl 3 rfl) ?_
              refine xget (ref := "AbsentPraiseModel") (T := TX11) (v := .int (S_96 127 21)) hC hP hin_X11 xo_X11 rfl 21 (by decide) (List.mem_of_getElem? (i := 2) rfl) rfl rfl dX11_takeClause_134 ?_
              refine xcV_iW (b := 127) (As := [.int 1, .int (S_96 127 21)]) (rest := []) hC hP hS (k_X11_fails l X S_96 1 (S_96 127 21)) (cwV 2 hts gX11_takeClause_X11_fails rfl rfl rfl hd_X11_fails ⟨Nat.le_of_ble_eq_true rfl, Nat.le_of_ble_eq_true rfl⟩) xo_X11 rfl rfl rfl hl.1 (Nat.le_of_ble_eq_true rfl) dX11_takeClause_137 (fun r_100 S_101 hp_r_100 H locs hP hS => ?_)
              obtain ⟨hr_100, hS_101⟩ := hp_r_100
              exact xret_iW hC hP hS hb hr ((by subst hr_2 hS_3 hr_86 hS_88 hr_90 hS_91 hr_95 hS_96 hr_100 hS_101; exact (iN c_5 (ip c_6 (iN c_85 (ip c_87 (ip c_93 (iN c_98 rfl)))))))) dX11_takeClause_140 hlocks
          · refine lv_iload_n hx hb dX11_takeClause_120 rfl (lv_at hl 0 rfl) ?_
            exact xret_iW hC hP hS hb hr ((by subst hr_2 hS_3 hr_86 hS_88 hr_90 hS_91; exact (iN c_5 (ip c_6 (iN c_85 (ip c_87 (iN c_93 rfl))))))) dX11_takeClause_121 hlocks
        · refine lv_aload_n hx hb dX11_takeClause_90 rfl (lv_at hl 2 rfl) ?_
          refine lv_iconst (v := 3) hx hb dX11_takeClause_91 (by decide) ?_
          refine lv_aload_n hx hb dX11_takeClause_92 rfl (lv_at hl 2 rfl) ?_
          refine xget (ref := "AbsentPraiseModel") (T := TX11) (v := .int (S_3 127 21)) hC hP hin_X11 xo_X11 rfl 21 (by decide) (List.mem_of_getElem? (i := 2) rfl) rfl rfl dX11_takeClause_93 ?_
          refine xcV_iW (b := 127) (As := [.int 3, .int (S_3 127 21)]) (rest := []) hC hP hS (k_X11_fails l X S_3 3 (S_3 127 21)) (cwV 2 hts gX11_takeClause_X11_fails rfl rfl rfl hd_X11_fails ⟨Nat.le_of_ble_eq_true rfl, Nat.le_of_ble_eq_true rfl⟩) xo_X11 rfl rfl rfl hl.1 (Nat.le_of_ble_eq_true rfl) dX11_takeClause_96 (fun r_103 S_104 hp_r_103 H locs hP hS => ?_)
          obtain ⟨hr_103, hS_104⟩ := hp_r_103
          exact xret_iW hC hP hS hb hr ((by subst hr_2 hS_3 hr_86 hr_103 hS_104; exact (iN c_5 (ip c_6 (iN c_85 (iN c_87 rfl)))))) dX11_takeClause_99 hlocks
      · refine lv_aload_n hx hb dX11_takeClause_72 rfl (lv_at hl 2 rfl) ?_
        refine lv_iconst (v := 1) hx hb dX11_takeClause_73 (by decide) ?_
        refine lv_aload_n hx hb dX11_takeClause_74 rfl (lv_at hl 2 rfl) ?_
        refine xget (ref := "AbsentPraiseModel") (T := TX11) (v := .int (S_3 127 21)) hC hP hin_X11 xo_X11 rfl 21 (by decide) (List.mem_of_getElem? (i := 2) rfl) rfl rfl dX11_takeClause_75 ?_
        refine xcV_iW (b := 127) (As := [.int 1, .int (S_3 127 21)]) (rest := []) hC hP hS (k_X11_fails l X S_3 1 (S_3 127 21)) (cwV 2 hts gX11_takeClause_X11_fails rfl rfl rfl hd_X11_fails ⟨Nat.le_of_ble_eq_true rfl, Nat.le_of_ble_eq_true rfl⟩) xo_X11 rfl rfl rfl hl.1 (Nat.le_of_ble_eq_true rfl) dX11_takeClause_78 (fun r_106 S_107 hp_r_106 H locs hP hS => ?_)
        obtain ⟨hr_106, hS_107⟩ := hp_r_106
        exact xret_iW hC hP hS hb hr ((by subst hr_2 hS_3 hr_106 hS_107; exact (iN c_5 (ip c_6 (ip c_85 rfl))))) dX11_takeClause_81 hlocks
  · refine lv_iconst (v := 0) hx hb dX11_takeClause_11 (by decide) ?_
    refine lv_goto (tgt := 56) hx hb dX11_takeClause_12 (by decide) ?_
    refine lv_istore_n (lv' := [(2, .int 0), (1, .int r_2), (0, .ref (X.2.1 127))]) hx hb dX11_takeClause_56 rfl hl (by decide) rfl (fun ls hl => ?_)
    refine lv_iload_n hx hb dX11_takeClause_57 rfl (lv_at hl 0 rfl) ?_
    refine lv_if_lt (tgt := 72) hx hb dX11_takeClause_58 (by decide) (fun c => absurd c (by decide)) (fun _ => ?_)
    refine lv_iload_n hx hb dX11_takeClause_61 rfl (lv_at hl 0 rfl) ?_
    refine lv_if_le (tgt := 82) hx hb dX11_takeClause_62 (by decide) (fun _ => ?_) (fun c => absurd c (by decide))
    refine lv_aload_n hx hb dX11_takeClause_82 rfl (lv_at hl 2 rfl) ?_
    refine lv_iload_n hx hb dX11_takeClause_83 rfl (lv_at hl 0 rfl) ?_
    refine xcV_iR (b := 127) (As := [.int 0]) (rest := []) hC hP hS (k_X11_isFull l X S_3 0) (cwV 1 hts gX11_takeClause_X11_isFull rfl rfl rfl hd_X11_isFull ⟨Nat.le_of_ble_eq_true rfl, Nat.le_of_ble_eq_true rfl⟩) xo_X11 rfl rfl rfl hl.1 (Nat.le_of_ble_eq_true rfl) dX11_takeClause_84 (fun r_109 hp_r_109 H locs hP hS => ?_)
    obtain ⟨hr_109, hzr_109⟩ := hp_r_109
    refine lv_if_eq (tgt := 100) hx hb dX11_takeClause_87 (by decide) (fun c_110 => ?_) (fun c_110 => ?_)
    · refine lv_aload_n hx hb dX11_takeClause_100 rfl (lv_at hl 2 rfl) ?_
      refine lv_dup hx hb dX11_takeClause_101 rfl ?_
      refine xget (ref := "AbsentPraiseModel") (T := TX11) (v := .int (S_3 127 21)) hC hP hin_X11 xo_X11 rfl 21 (by decide) (List.mem_of_getElem? (i := 2) rfl) rfl rfl dX11_takeClause_102 ?_
      refine lv_iconst (v := 1) hx hb dX11_takeClause_105 (by decide) ?_
      refine lv_iadd hx hb dX11_takeClause_106 ?_
      refine xput (ref := "AbsentPraiseModel") (T := TX11) (ty := .int) hC hP hS (by decide) hin_X11 tyX11 tyX11_ok nmX11 xo_X11 rfl 21 (by decide) (List.mem_of_getElem? (i := 2) rfl) rfl rfl rfl rfl rfl (Nat.le_of_ble_eq_true rfl) dX11_takeClause_107 rfl (fun S_111 hS_111 H locs hP hS => ?_)
      refine lv_aload_n hx hb dX11_takeClause_110 rfl (lv_at hl 2 rfl) ?_
      refine lv_iload_n hx hb dX11_takeClause_111 rfl (lv_at hl 0 rfl) ?_
      have hn_112 : s_X11_takeBody S_111 0 := (by subst hr_2 hS_3 hr_109 hS_111; exact nl (sp (sp (nr hs) c_5) c_110))
      refine xcV_iW (b := 127) (As := [.int 0]) (rest := []) hC hP hS (k_X11_takeBody l X S_111 0 hn_112) (cwV 1 hts gX11_takeClause_X11_takeBody rfl rfl rfl hd_X11_takeBody ⟨Nat.le_of_ble_eq_true rfl, Nat.le_of_ble_eq_true rfl⟩) xo_X11 rfl rfl rfl hl.1 (Nat.le_of_ble_eq_true rfl) dX11_takeClause_112 (fun r_113 S_114 hp_r_113 H locs hP hS => ?_)
      obtain ⟨hr_113, hS_114⟩ := hp_r_113
      refine lv_istore_n (lv' := [(3, .int r_113), (2, .int 0), (1, .int r_2), (0, .ref (X.2.1 127))]) hx hb dX11_takeClause_115 rfl hl (by decide) rfl (fun ls hl => ?_)
      refine lv_iload_n hx hb dX11_takeClause_116 rfl (lv_at hl 0 rfl) ?_
      refine lv_if_le (tgt := 122) hx hb dX11_takeClause_117 (by decide) (fun c_116 => ?_) (fun c_116 => ?_)
      · refine lv_aload_n hx hb dX11_takeClause_122 rfl (lv_at hl 3 rfl) ?_
        have hn_117 : s_X11_here S_114 := (by subst hr_2 hS_3 hr_109 hS_111 hr_113 hS_114; exact nl (sp (nr (sp (sp (nr hs) c_5) c_110)) c_116))
        refine xcV_iW (b := 127) (As := []) (rest := []) hC hP hS (k_X11_here l X S_114 hn_117) (cwV 0 hts gX11_takeClause_X11_here rfl rfl rfl hd_X11_here ⟨Nat.le_of_ble_eq_true rfl, Nat.le_of_ble_eq_true rfl⟩) xo_X11 rfl rfl rfl hl.1 (Nat.le_of_ble_eq_true rfl) dX11_takeClause_123 (fun r_118 S_119 hp_r_118 H locs hP hS => ?_)
        obtain ⟨hr_118, hS_119⟩ := hp_r_118
        refine lv_bipush (v := 59) hx hb dX11_takeClause_126 (by decide) ?_
        refine lv_icmp_eq (tgt := 141) hx hb dX11_takeClause_128 (by decide) (fun c_121 => ?_) (fun c_121 => ?_)
        · refine lv_aload_n hx hb dX11_takeClause_141 rfl (lv_at hl 3 rfl) ?_
          refine lv_dup hx hb dX11_takeClause_142 rfl ?_
          refine xget (ref := "AbsentPraiseModel") (T := TX11) (v := .int (S_119 127 21)) hC hP hin_X11 xo_X11 rfl 21 (by decide) (List.mem_of_getElem? (i := 2) rfl) rfl rfl dX11_takeClause_143 ?_
          refine lv_iconst (v := 1) hx hb dX11_takeClause_146 (by decide) ?_
          refine lv_iadd hx hb dX11_takeClause_147 ?_
          refine xput (ref := "AbsentPraiseModel") (T := TX11) (ty := .int) hC hP hS (by decide) hin_X11 tyX11 tyX11_ok nmX11 xo_X11 rfl 21 (by decide) (List.mem_of_getElem? (i := 2) rfl) rfl rfl rfl rfl rfl (Nat.le_of_ble_eq_true rfl) dX11_takeClause_148 rfl (fun S_122 hS_122 H locs hP hS => ?_)
          refine lv_iconst (v := 0) hx hb dX11_takeClause_151 (by decide) ?_
          exact xret_iW hC hP hS hb hr ((by subst hr_2 hS_3 hr_109 hS_111 hr_113 hS_114 hr_118 hS_119 hS_122; exact (ip c_5 (ip c_110 (ip c_116 (ip c_121 rfl)))))) dX11_takeClause_152 hlocks
        · refine lv_aload_n hx hb dX11_takeClause_131 rfl (lv_at hl 3 rfl) ?_
          refine lv_iconst (v := 1) hx hb dX11_takeClause_132 (by decide) ?_
          refine lv_aload_n hx hb dX11_takeClause_133 rfl (lv_at hl 3 rfl) ?_
          refine xget (ref := "AbsentPraiseModel") (T := TX11) (v := .int (S_119 127 21)) hC hP hin_X11 xo_X11 rfl 21 (by decide) (List.mem_of_getElem? (i := 2) rfl) rfl rfl dX11_takeClause_134 ?_
          refine xcV_iW (b := 127) (As := [.int 1, .int (S_119 127 21)]) (rest := []) hC hP hS (k_X11_fails l X S_119 1 (S_119 127 21)) (cwV 2 hts gX11_takeClause_X11_fails rfl rfl rfl hd_X11_fails ⟨Nat.le_of_ble_eq_true rfl, Nat.le_of_ble_eq_true rfl⟩) xo_X11 rfl rfl rfl hl.1 (Nat.le_of_ble_eq_true rfl) dX11_takeClause_137 (fun r_123 S_124 hp_r_123 H locs hP hS => ?_)
          obtain ⟨hr_123, hS_124⟩ := hp_r_123
          exact xret_iW hC hP hS hb hr ((by subst hr_2 hS_3 hr_109 hS_111 hr_113 hS_114 hr_118 hS_119 hr_123 hS_124; exact (ip c_5 (ip c_110 (ip c_116 (iN c_121 rfl)))))) dX11_takeClause_140 hlocks
      · refine lv_iload_n hx hb dX11_takeClause_120 rfl (lv_at hl 0 rfl) ?_
        exact xret_iW hC hP hS hb hr ((by subst hr_2 hS_3 hr_109 hS_111 hr_113 hS_114; exact (ip c_5 (ip c_110 (iN c_116 rfl))))) dX11_takeClause_121 hlocks
    · refine lv_aload_n hx hb dX11_takeClause_90 rfl (lv_at hl 2 rfl) ?_
      refine lv_iconst (v := 3) hx hb dX11_takeClause_91 (by decide) ?_
      refine lv_aload_n hx hb dX11_takeClause_92 rfl (lv_at hl 2 rfl) ?_
      refine xget (ref := "AbsentPraiseModel") (T := TX11) (v := .int (S_3 127 21)) hC hP hin_X11 xo_X11 rfl 21 (by decide) (List.mem_of_getElem? (i := 2) rfl) rfl rfl dX11_takeClause_93 ?_
      refine xcV_iW (b := 127) (As := [.int 3, .int (S_3 127 21)]) (rest := []) hC hP hS (k_X11_fails l X S_3 3 (S_3 127 21)) (cwV 2 hts gX11_takeClause_X11_fails rfl rfl rfl hd_X11_fails ⟨Nat.le_of_ble_eq_true rfl, Nat.le_of_ble_eq_true rfl⟩) xo_X11 rfl rfl rfl hl.1 (Nat.le_of_ble_eq_true rfl) dX11_takeClause_96 (fun r_126 S_127 hp_r_126 H locs hP hS => ?_)
      obtain ⟨hr_126, hS_127⟩ := hp_r_126
      exact xret_iW hC hP hS hb hr ((by subst hr_2 hS_3 hr_109 hr_126 hS_127; exact (ip c_5 (iN c_110 rfl)))) dX11_takeClause_99 hlocks
theorem hd_X11_takeRead : yX11_takeRead.cls = RX11 ∧ yX11_takeRead.cls ≠ "java/lang/invoke/MethodHandle" ∧ yX11_takeRead.cls ≠ "java/lang/invoke/VarHandle" ∧ (parseMethodDescriptor yX11_takeRead.desc).map (fun d => d.parameters.length) = some 0 := by decide +kernel
set_option maxHeartbeats 4000000 in
set_option maxRecDepth 100000 in
theorem k_X11_takeRead (l : Launch) (X : xX) (S : xS) (hs : s_X11_takeRead S) : Met l yX11_takeRead wsX11_takeRead ({ frames := 0, cells := 0, slots := 0, locals := 0 } : Room) (va_Pc [.ref (X.2.1 127)] (xI X S)) (va_Qv (fun u : xS => u = (f_X11_takeRead S)) (xI X) (xA X)) 0 0 (xA X) := by
  refine Met.ofW (cc := cX11_takeRead) (maxL := 2) (ret := none) (by decide) rfl ?_
  intro p e s m args below meth c s₁ B hml hv
  obtain ⟨rfl, hP, hK, hN, hJ⟩ := hv
  have hx := B.exec
  have hb := B.bytes
  have hr := B.returns
  have hts := atoms_spec (ws := wsX11_takeRead) B.pre
  have hown : s.vm.findClass RX11 = some m.cls := findClass_of_methodNamed B.named
  have hlocks := B.notSynchronized
  have hC : xC X p m c cX11_takeRead 2 s _ wsX11_takeRead RX11 := ⟨⟨hx, hb, hml, hown, hts⟩, hK, hN, hJ⟩
  have hS : va_S (xA X) s.heap s.heap [] := va_S.rf
  have hin_X11 : ∀ w ∈ u_ws RX11 TX11 41, w ∈ wsX11_takeRead := by decide +kernel
  have hl := lv_entry ([.ref (X.2.1 127)]) (n := 2) (Nat.le_of_ble_eq_true rfl)
  rw [lg_entry_eq]
  generalize (lg_sl ([.ref (X.2.1 127)]) ++ List.replicate (2 - (lg_sl ([.ref (X.2.1 127)])).length) Slot.unset).toArray = ls at hl ⊢
  have hl : lv_has ls 2 [(0, .ref (X.2.1 127))] := hl
  refine lv_aload_n hx hb dX11_takeRead_0 rfl (lv_at hl 0 rfl) ?_
  refine lv_aload_n hx hb dX11_takeRead_1 rfl (lv_at hl 0 rfl) ?_
  refine xget (ref := "AbsentPraiseModel") (T := TX11) (v := .int (S 127 24)) hC hP hin_X11 xo_X11 rfl 24 (by decide) (List.mem_of_getElem? (i := 1) rfl) rfl rfl dX11_takeRead_2 ?_
  refine xput (ref := "AbsentPraiseModel") (T := TX11) (ty := .int) hC hP hS (by decide) hin_X11 tyX11 tyX11_ok nmX11 xo_X11 rfl 0 (by decide) (List.mem_of_getElem? (i := 2) rfl) rfl rfl rfl rfl rfl (Nat.le_of_ble_eq_true rfl) dX11_takeRead_5 rfl (fun S_1 hS_1 H locs hP hS => ?_)
  refine lv_aload_n hx hb dX11_takeRead_8 rfl (lv_at hl 0 rfl) ?_
  refine lv_aload_n hx hb dX11_takeRead_9 rfl (lv_at hl 0 rfl) ?_
  refine xget (ref := "AbsentPraiseModel") (T := TX11) (v := .int (S_1 127 25)) hC hP hin_X11 xo_X11 rfl 25 (by decide) (List.mem_of_getElem? (i := 3) rfl) rfl rfl dX11_takeRead_10 ?_
  refine xput (ref := "AbsentPraiseModel") (T := TX11) (ty := .int) hC hP hS (by decide) hin_X11 tyX11 tyX11_ok nmX11 xo_X11 rfl 1 (by decide) (List.mem_of_getElem? (i := 4) rfl) rfl rfl rfl rfl rfl (Nat.le_of_ble_eq_true rfl) dX11_takeRead_13 rfl (fun S_2 hS_2 H locs hP hS => ?_)
  refine lv_aload_n hx hb dX11_takeRead_16 rfl (lv_at hl 0 rfl) ?_
  refine lv_aload_n hx hb dX11_takeRead_17 rfl (lv_at hl 0 rfl) ?_
  refine xget (ref := "AbsentPraiseModel") (T := TX11) (v := .int (S_2 127 26)) hC hP hin_X11 xo_X11 rfl 26 (by decide) (List.mem_of_getElem? (i := 5) rfl) rfl rfl dX11_takeRead_18 ?_
  refine xput (ref := "AbsentPraiseModel") (T := TX11) (ty := .int) hC hP hS (by decide) hin_X11 tyX11 tyX11_ok nmX11 xo_X11 rfl 2 (by decide) (List.mem_of_getElem? (i := 6) rfl) rfl rfl rfl rfl rfl (Nat.le_of_ble_eq_true rfl) dX11_takeRead_21 rfl (fun S_3 hS_3 H locs hP hS => ?_)
  refine lv_aload_n hx hb dX11_takeRead_24 rfl (lv_at hl 0 rfl) ?_
  refine lv_aload_n hx hb dX11_takeRead_25 rfl (lv_at hl 0 rfl) ?_
  refine xget (ref := "AbsentPraiseModel") (T := TX11) (v := .int (S_3 127 27)) hC hP hin_X11 xo_X11 rfl 27 (by decide) (List.mem_of_getElem? (i := 7) rfl) rfl rfl dX11_takeRead_26 ?_
  refine xput (ref := "AbsentPraiseModel") (T := TX11) (ty := .int) hC hP hS (by decide) hin_X11 tyX11 tyX11_ok nmX11 xo_X11 rfl 3 (by decide) (List.mem_of_getElem? (i := 8) rfl) rfl rfl rfl rfl rfl (Nat.le_of_ble_eq_true rfl) dX11_takeRead_29 rfl (fun S_4 hS_4 H locs hP hS => ?_)
  refine lv_aload_n hx hb dX11_takeRead_32 rfl (lv_at hl 0 rfl) ?_
  refine lv_aload_n hx hb dX11_takeRead_33 rfl (lv_at hl 0 rfl) ?_
  refine xget (ref := "AbsentPraiseModel") (T := TX11) (v := .int (S_4 127 30)) hC hP hin_X11 xo_X11 rfl 30 (by decide) (List.mem_of_getElem? (i := 9) rfl) rfl rfl dX11_takeRead_34 ?_
  refine xput (ref := "AbsentPraiseModel") (T := TX11) (ty := .int) hC hP hS (by decide) hin_X11 tyX11 tyX11_ok nmX11 xo_X11 rfl 6 (by decide) (List.mem_of_getElem? (i := 10) rfl) rfl rfl rfl rfl rfl (Nat.le_of_ble_eq_true rfl) dX11_takeRead_37 rfl (fun S_5 hS_5 H locs hP hS => ?_)
  refine lv_iconst (v := 0) hx hb dX11_takeRead_40 (by decide) ?_
  refine lv_istore_n (lv' := [(1, .int 0), (0, .ref (X.2.1 127))]) hx hb dX11_takeRead_41 rfl hl (by decide) rfl (fun ls hl => ?_)
  have hLp_42 : ∀ (n : Nat) (T_42 : xS) (x1_42 : Int32), s_X11_takeRead_L42 n T_42 x1_42 → (∀ q : xS, q = f_X11_takeRead_L42 n T_42 x1_42 → (∀ (H : Heap) (locs : List Loc), va_P X.1 vwCl (xW X q) H → va_S (xA X) s.heap H locs → ∀ (ls : Array Slot), lv_has ls 2 [(0, .ref (X.2.1 127))] → W p l e ({ frames := 0, cells := 0, slots := 0, locals := 0 } : Room) s m ([.ref (X.2.1 127)] : List Value).toArray below meth c H locs 0 0 (MQ below (va_Qv (fun u : xS => u = (f_X11_takeRead S)) (xI X) (xA X)) ([.ref (X.2.1 127)] : List Value).toArray s 0 0 (xA X)) (F0 m 78 ls []))) → ∀ (H : Heap) (locs : List Loc), va_P X.1 vwCl (xW X T_42) H → va_S (xA X) s.heap H locs → ∀ (ls : Array Slot), lv_has ls 2 [(0, .ref (X.2.1 127)), (1, .int x1_42)] → W p l e ({ frames := 0, cells := 0, slots := 0, locals := 0 } : Room) s m ([.ref (X.2.1 127)] : List Value).toArray below meth c H locs 0 0 (MQ below (va_Qv (fun u : xS => u = (f_X11_takeRead S)) (xI X) (xA X)) ([.ref (X.2.1 127)] : List Value).toArray s 0 0 (xA X)) (F0 m 42 ls []) := by
    intro n
    induction n with
    | zero => intro T_42 x1_42 hs; exact hs.elim
    | succ n ih_42 =>
      intro T_42 x1_42 hs_42 hex_42 H locs hP hS ls hl
      refine lv_iload_n hx hb dX11_takeRead_42 rfl (lv_at hl 1 rfl) ?_
      refine lv_bipush (v := 6) hx hb dX11_takeRead_43 (by decide) ?_
      refine lv_icmp_ge (tgt := 78) hx hb dX11_takeRead_45 (by decide) (fun c_6 => ?_) (fun c_6 => ?_)
      · have he_7 : f_X11_takeRead_L42 (n + 1) T_42 x1_42 = T_42 := ((ip c_6 rfl))
        exact hex_42 _ he_7.symm _ _ hP hS ls (lv_sub hl [0] rfl)
      · refine lv_aload_n hx hb dX11_takeRead_48 rfl (lv_at hl 0 rfl) ?_
        refine xget (ref := "AbsentPraiseModel") (T := TX11) (v := .ref (X.2.1 128)) hC hP hin_X11 xo_X11 rfl 4 (by decide) (List.mem_of_getElem? (i := 11) rfl) rfl rfl dX11_takeRead_49 ?_
        refine lv_iload_n hx hb dX11_takeRead_52 rfl (lv_at hl 1 rfl) ?_
        refine lv_aload_n hx hb dX11_takeRead_53 rfl (lv_at hl 0 rfl) ?_
        refine xget (ref := "AbsentPraiseModel") (T := TX11) (v := .ref (X.2.1 139)) hC hP hin_X11 xo_X11 rfl 28 (by decide) (List.mem_of_getElem? (i := 12) rfl) rfl rfl dX11_takeRead_54 ?_
        refine lv_iload_n hx hb dX11_takeRead_57 rfl (lv_at hl 1 rfl) ?_
        have hn_8 : vp_in x1_42 6 := (nl (sn hs_42 c_6))
        refine xiald hC hP rfl hn_8 dX11_takeRead_58 ?_
        refine xiast hC hP hS rfl hn_8 dX11_takeRead_59 (fun S_9 hS_9 H locs hP hS => ?_)
        refine lv_aload_n hx hb dX11_takeRead_60 rfl (lv_at hl 0 rfl) ?_
        refine xget (ref := "AbsentPraiseModel") (T := TX11) (v := .ref (X.2.1 129)) hC hP hin_X11 xo_X11 rfl 5 (by decide) (List.mem_of_getElem? (i := 13) rfl) rfl rfl dX11_takeRead_61 ?_
        refine lv_iload_n hx hb dX11_takeRead_64 rfl (lv_at hl 1 rfl) ?_
        refine lv_aload_n hx hb dX11_takeRead_65 rfl (lv_at hl 0 rfl) ?_
        refine xget (ref := "AbsentPraiseModel") (T := TX11) (v := .ref (X.2.1 140)) hC hP hin_X11 xo_X11 rfl 29 (by decide) (List.mem_of_getElem? (i := 14) rfl) rfl rfl dX11_takeRead_66 ?_
        refine lv_iload_n hx hb dX11_takeRead_69 rfl (lv_at hl 1 rfl) ?_
        refine xiald hC hP rfl hn_8 dX11_takeRead_70 ?_
        refine xiast hC hP hS rfl hn_8 dX11_takeRead_71 (fun S_10 hS_10 H locs hP hS => ?_)
        refine lv_iinc (v := (x1_42 + 1)) (lv' := [(1, .int (x1_42 + 1)), (0, .ref (X.2.1 127))]) hx hb dX11_takeRead_72 hl (k := 1) rfl rfl (by decide) rfl (fun ls hl => ?_)
        refine lv_goto (tgt := 42) hx hb dX11_takeRead_75 (by decide) ?_
        have he_11 : f_X11_takeRead_L42 (n + 1) T_42 x1_42 = f_X11_takeRead_L42 n S_10 (x1_42 + 1) := (by subst hS_9 hS_10; exact (iN c_6 rfl))
        exact ih_42 S_10 (x1_42 + 1) (by subst hS_9 hS_10; exact (nr (sn hs_42 c_6))) (fun q hq => hex_42 q (hq.trans he_11.symm)) _ _ hP hS ls (lv_sub hl [1, 0] rfl)
  refine hLp_42 ((fu 0 6)) S_5 0 (by subst hS_1 hS_2 hS_3 hS_4 hS_5; exact nl hs) (fun q_42 hq_42 H locs hP hS ls hl => ?_) _ _ hP hS ls (lv_sub hl [1, 0] rfl)
  refine lv_iconst (v := 0) hx hb dX11_takeRead_78 (by decide) ?_
  refine lv_istore_n (lv' := [(1, .int 0), (0, .ref (X.2.1 127))]) hx hb dX11_takeRead_79 rfl hl (by decide) rfl (fun ls hl => ?_)
  have hLp_80 : ∀ (n : Nat) (T_80 : xS) (x1_80 : Int32), s_X11_takeRead_L80 n T_80 x1_80 → (∀ q : xS, q = f_X11_takeRead_L80 n T_80 x1_80 → (∀ (H : Heap) (locs : List Loc), va_P X.1 vwCl (xW X q) H → va_S (xA X) s.heap H locs → ∀ (ls : Array Slot), lv_has ls 2 [(0, .ref (X.2.1 127))] → W p l e ({ frames := 0, cells := 0, slots := 0, locals := 0 } : Room) s m ([.ref (X.2.1 127)] : List Value).toArray below meth c H locs 0 0 (MQ below (va_Qv (fun u : xS => u = (f_X11_takeRead S)) (xI X) (xA X)) ([.ref (X.2.1 127)] : List Value).toArray s 0 0 (xA X)) (F0 m 99 ls []))) → ∀ (H : Heap) (locs : List Loc), va_P X.1 vwCl (xW X T_80) H → va_S (xA X) s.heap H locs → ∀ (ls : Array Slot), lv_has ls 2 [(0, .ref (X.2.1 127)), (1, .int x1_80)] → W p l e ({ frames := 0, cells := 0, slots := 0, locals := 0 } : Room) s m ([.ref (X.2.1 127)] : List Value).toArray below meth c H locs 0 0 (MQ below (va_Qv (fun u : xS => u = (f_X11_takeRead S)) (xI X) (xA X)) ([.ref (X.2.1 127)] : List Value).toArray s 0 0 (xA X)) (F0 m 80 ls []) := by
    intro n
    induction n with
    | zero => intro T_80 x1_80 hs; exact hs.elim
    | succ n ih_80 =>
      intro T_80 x1_80 hs_80 hex_80 H locs hP hS ls hl
      refine lv_iload_n hx hb dX11_takeRead_80 rfl (lv_at hl 1 rfl) ?_
      refine lv_bipush (v := 72) hx hb dX11_takeRead_81 (by decide) ?_
      refine lv_icmp_ge (tgt := 99) hx hb dX11_takeRead_83 (by decide) (fun c_12 => ?_) (fun c_12 => ?_)
      · have he_13 : f_X11_takeRead_L80 (n + 1) T_80 x1_80 = T_80 := ((ip c_12 rfl))
        exact hex_80 _ he_13.symm _ _ hP hS ls (lv_sub hl [0] rfl)
      · refine lv_aload_n hx hb dX11_takeRead_86 rfl (lv_at hl 0 rfl) ?_
        refine xget (ref := "AbsentPraiseModel") (T := TX11) (v := .ref (X.2.1 131)) hC hP hin_X11 xo_X11 rfl 8 (by decide) (List.mem_of_getElem? (i := 15) rfl) rfl rfl dX11_takeRead_87 ?_
        refine lv_iload_n hx hb dX11_takeRead_90 rfl (lv_at hl 1 rfl) ?_
        refine lv_iconst (v := 0) hx hb dX11_takeRead_91 (by decide) ?_
        have hn_14 : vp_in x1_80 72 := (nl (sn hs_80 c_12))
        refine xiast hC hP hS rfl hn_14 dX11_takeRead_92 (fun S_15 hS_15 H locs hP hS => ?_)
        refine lv_iinc (v := (x1_80 + 1)) (lv' := [(1, .int (x1_80 + 1)), (0, .ref (X.2.1 127))]) hx hb dX11_takeRead_93 hl (k := 1) rfl rfl (by decide) rfl (fun ls hl => ?_)
        refine lv_goto (tgt := 80) hx hb dX11_takeRead_96 (by decide) ?_
        have he_16 : f_X11_takeRead_L80 (n + 1) T_80 x1_80 = f_X11_takeRead_L80 n S_15 (x1_80 + 1) := (by subst hS_15; exact (iN c_12 rfl))
        exact ih_80 S_15 (x1_80 + 1) (by subst hS_15; exact (nr (sn hs_80 c_12))) (fun q hq => hex_80 q (hq.trans he_16.symm)) _ _ hP hS ls (lv_sub hl [1, 0] rfl)
  refine hLp_80 ((fu 0 72)) q_42 0 (by subst hS_1 hS_2 hS_3 hS_4 hS_5 hq_42; exact nl (nr hs)) (fun q_80 hq_80 H locs hP hS ls hl => ?_) _ _ hP hS ls (lv_sub hl [1, 0] rfl)
  refine lv_iconst (v := 0) hx hb dX11_takeRead_99 (by decide) ?_
  refine lv_istore_n (lv' := [(1, .int 0), (0, .ref (X.2.1 127))]) hx hb dX11_takeRead_100 rfl hl (by decide) rfl (fun ls hl => ?_)
  have hLp_101 : ∀ (n : Nat) (T_101 : xS) (x1_101 : Int32), s_X11_takeRead_L101 n T_101 x1_101 → (∀ q : xS, q = f_X11_takeRead_L101 n T_101 x1_101 → (∀ (H : Heap) (locs : List Loc), va_P X.1 vwCl (xW X q) H → va_S (xA X) s.heap H locs → ∀ (ls : Array Slot), lv_has ls 2 [(0, .ref (X.2.1 127))] → W p l e ({ frames := 0, cells := 0, slots := 0, locals := 0 } : Room) s m ([.ref (X.2.1 127)] : List Value).toArray below meth c H locs 0 0 (MQ below (va_Qv (fun u : xS => u = (f_X11_takeRead S)) (xI X) (xA X)) ([.ref (X.2.1 127)] : List Value).toArray s 0 0 (xA X)) (F0 m 151 ls []))) → ∀ (H : Heap) (locs : List Loc), va_P X.1 vwCl (xW X T_101) H → va_S (xA X) s.heap H locs → ∀ (ls : Array Slot), lv_has ls 2 [(0, .ref (X.2.1 127)), (1, .int x1_101)] → W p l e ({ frames := 0, cells := 0, slots := 0, locals := 0 } : Room) s m ([.ref (X.2.1 127)] : List Value).toArray below meth c H locs 0 0 (MQ below (va_Qv (fun u : xS => u = (f_X11_takeRead S)) (xI X) (xA X)) ([.ref (X.2.1 127)] : List Value).toArray s 0 0 (xA X)) (F0 m 101 ls []) := by
    intro n
    induction n with
    | zero => intro T_101 x1_101 hs; exact hs.elim
    | succ n ih_101 =>
      intro T_101 x1_101 hs_101 hex_101 H locs hP hS ls hl
      refine lv_iload_n hx hb dX11_takeRead_101 rfl (lv_at hl 1 rfl) ?_
      refine lv_bipush (v := 7) hx hb dX11_takeRead_102 (by decide) ?_
      refine lv_icmp_ge (tgt := 151) hx hb dX11_takeRead_104 (by decide) (fun c_17 => ?_) (fun c_17 => ?_)
      · have he_18 : f_X11_takeRead_L101 (n + 1) T_101 x1_101 = T_101 := ((ip c_17 rfl))
        exact hex_101 _ he_18.symm _ _ hP hS ls (lv_sub hl [0] rfl)
      · refine lv_aload_n hx hb dX11_takeRead_107 rfl (lv_at hl 0 rfl) ?_
        refine xget (ref := "AbsentPraiseModel") (T := TX11) (v := .ref (X.2.1 130)) hC hP hin_X11 xo_X11 rfl 7 (by decide) (List.mem_of_getElem? (i := 16) rfl) rfl rfl dX11_takeRead_108 ?_
        refine lv_iload_n hx hb dX11_takeRead_111 rfl (lv_at hl 1 rfl) ?_
        refine lv_aload_n hx hb dX11_takeRead_112 rfl (lv_at hl 0 rfl) ?_
        refine xget (ref := "AbsentPraiseModel") (T := TX11) (v := .ref (X.2.1 141)) hC hP hin_X11 xo_X11 rfl 31 (by decide) (List.mem_of_getElem? (i := 17) rfl) rfl rfl dX11_takeRead_113 ?_
        refine lv_iload_n hx hb dX11_takeRead_116 rfl (lv_at hl 1 rfl) ?_
        have hn_19 : vp_in x1_101 7 := (nl (sn hs_101 c_17))
        refine xiald hC hP rfl hn_19 dX11_takeRead_117 ?_
        refine xiast hC hP hS rfl hn_19 dX11_takeRead_118 (fun S_20 hS_20 H locs hP hS => ?_)
        refine lv_aload_n hx hb dX11_takeRead_119 rfl (lv_at hl 0 rfl) ?_
        refine xget (ref := "AbsentPraiseModel") (T := TX11) (v := .ref (X.2.1 131)) hC hP hin_X11 xo_X11 rfl 8 (by decide) (List.mem_of_getElem? (i := 15) rfl) rfl rfl dX11_takeRead_120 ?_
        refine lv_iconst (v := 2) hx hb dX11_takeRead_123 (by decide) ?_
        refine lv_iload_n hx hb dX11_takeRead_124 rfl (lv_at hl 1 rfl) ?_
        refine lv_iadd hx hb dX11_takeRead_125 ?_
        refine lv_iload_n hx hb dX11_takeRead_126 rfl (lv_at hl 1 rfl) ?_
        refine lv_aload_n hx hb dX11_takeRead_127 rfl (lv_at hl 0 rfl) ?_
        refine xget (ref := "AbsentPraiseModel") (T := TX11) (v := .int (S_20 127 6)) hC hP hin_X11 xo_X11 rfl 6 (by decide) (List.mem_of_getElem? (i := 10) rfl) rfl rfl dX11_takeRead_128 ?_
        refine lv_icmp_ge (tgt := 143) hx hb dX11_takeRead_131 (by decide) (fun c_21 => ?_) (fun c_21 => ?_)
        · refine lv_iconst (v := 0) hx hb dX11_takeRead_143 (by decide) ?_
          have hn_22 : vp_in (2 + x1_101) 72 := (by subst hS_20; exact nl (sp (nr (sn hs_101 c_17)) c_21))
          refine xiast hC hP hS rfl hn_22 dX11_takeRead_144 (fun S_23 hS_23 H locs hP hS => ?_)
          refine lv_iinc (v := (x1_101 + 1)) (lv' := [(1, .int (x1_101 + 1)), (0, .ref (X.2.1 127))]) hx hb dX11_takeRead_145 hl (k := 1) rfl rfl (by decide) rfl (fun ls hl => ?_)
          refine lv_goto (tgt := 101) hx hb dX11_takeRead_148 (by decide) ?_
          have he_24 : f_X11_takeRead_L101 (n + 1) T_101 x1_101 = f_X11_takeRead_L101 n S_23 (x1_101 + 1) := (by subst hS_20 hS_23; exact (iN c_17 (ip c_21 rfl)))
          exact ih_101 S_23 (x1_101 + 1) (by subst hS_20 hS_23; exact (nr (sp (nr (sn hs_101 c_17)) c_21))) (fun q hq => hex_101 q (hq.trans he_24.symm)) _ _ hP hS ls (lv_sub hl [1, 0] rfl)
        · refine lv_aload_n hx hb dX11_takeRead_134 rfl (lv_at hl 0 rfl) ?_
          refine xget (ref := "AbsentPraiseModel") (T := TX11) (v := .ref (X.2.1 142)) hC hP hin_X11 xo_X11 rfl 32 (by decide) (List.mem_of_getElem? (i := 18) rfl) rfl rfl dX11_takeRead_135 ?_
          refine lv_iload_n hx hb dX11_takeRead_138 rfl (lv_at hl 1 rfl) ?_
          refine xiald hC hP rfl hn_19 dX11_takeRead_139 ?_
          refine lv_goto (tgt := 144) hx hb dX11_takeRead_140 (by decide) ?_
          have hn_25 : vp_in (2 + x1_101) 72 := (by subst hS_20; exact nl (sn (nr (sn hs_101 c_17)) c_21))
          refine xiast hC hP hS rfl hn_25 dX11_takeRead_144 (fun S_26 hS_26 H locs hP hS => ?_)
          refine lv_iinc (v := (x1_101 + 1)) (lv' := [(1, .int (x1_101 + 1)), (0, .ref (X.2.1 127))]) hx hb dX11_takeRead_145 hl (k := 1) rfl rfl (by decide) rfl (fun ls hl => ?_)
          refine lv_goto (tgt := 101) hx hb dX11_takeRead_148 (by decide) ?_
          have he_27 : f_X11_takeRead_L101 (n + 1) T_101 x1_101 = f_X11_takeRead_L101 n S_26 (x1_101 + 1) := (by subst hS_20 hS_26; exact (iN c_17 (iN c_21 rfl)))
          exact ih_101 S_26 (x1_101 + 1) (by subst hS_20 hS_26; exact (nr (sn (nr (sn hs_101 c_17)) c_21))) (fun q hq => hex_101 q (hq.trans he_27.symm)) _ _ hP hS ls (lv_sub hl [1, 0] rfl)
  refine hLp_101 ((fu 0 7)) q_80 0 (by subst hS_1 hS_2 hS_3 hS_4 hS_5 hq_42 hq_80; exact nl (nr (nr hs))) (fun q_101 hq_101 H locs hP hS ls hl => ?_) _ _ hP hS ls (lv_sub hl [1, 0] rfl)
  refine lv_iconst (v := 0) hx hb dX11_takeRead_151 (by decide) ?_
  refine lv_istore_n (lv' := [(1, .int 0), (0, .ref (X.2.1 127))]) hx hb dX11_takeRead_152 rfl hl (by decide) rfl (fun ls hl => ?_)
  have hLp_153 : ∀ (n : Nat) (T_153 : xS) (x1_153 : Int32), s_X11_takeRead_L153 n T_153 x1_153 → (∀ q : xS, q = f_X11_takeRead_L153 n T_153 x1_153 → (∀ (H : Heap) (locs : List Loc), va_P X.1 vwCl (xW X q) H → va_S (xA X) s.heap H locs → ∀ (ls : Array Slot), lv_has ls 2 [] → W p l e ({ frames := 0, cells := 0, slots := 0, locals := 0 } : Room) s m ([.ref (X.2.1 127)] : List Value).toArray below meth c H locs 0 0 (MQ below (va_Qv (fun u : xS => u = (f_X11_takeRead S)) (xI X) (xA X)) ([.ref (X.2.1 127)] : List Value).toArray s 0 0 (xA X)) (F0 m 180 ls []))) → ∀ (H : Heap) (locs : List Loc), va_P X.1 vwCl (xW X T_153) H → va_S (xA X) s.heap H locs → ∀ (ls : Array Slot), lv_has ls 2 [(0, .ref (X.2.1 127)), (1, .int x1_153)] → W p l e ({ frames := 0, cells := 0, slots := 0, locals := 0 } : Room) s m ([.ref (X.2.1 127)] : List Value).toArray below meth c H locs 0 0 (MQ below (va_Qv (fun u : xS => u = (f_X11_takeRead S)) (xI X) (xA X)) ([.ref (X.2.1 127)] : List Value).toArray s 0 0 (xA X)) (F0 m 153 ls []) := by
    intro n
    induction n with
    | zero => intro T_153 x1_153 hs; exact hs.elim
    | succ n ih_153 =>
      intro T_153 x1_153 hs_153 hex_153 H locs hP hS ls hl
      refine lv_iload_n hx hb dX11_takeRead_153 rfl (lv_at hl 1 rfl) ?_
      refine lv_bipush (v := 49) hx hb dX11_takeRead_154 (by decide) ?_
      refine lv_icmp_ge (tgt := 180) hx hb dX11_takeRead_156 (by decide) (fun c_28 => ?_) (fun c_28 => ?_)
      · have he_29 : f_X11_takeRead_L153 (n + 1) T_153 x1_153 = T_153 := ((ip c_28 rfl))
        exact hex_153 _ he_29.symm _ _ hP hS ls (lv_sub hl [] rfl)
      · refine lv_aload_n hx hb dX11_takeRead_159 rfl (lv_at hl 0 rfl) ?_
        refine xget (ref := "AbsentPraiseModel") (T := TX11) (v := .ref (X.2.1 131)) hC hP hin_X11 xo_X11 rfl 8 (by decide) (List.mem_of_getElem? (i := 15) rfl) rfl rfl dX11_takeRead_160 ?_
        refine lv_bipush (v := 23) hx hb dX11_takeRead_163 (by decide) ?_
        refine lv_iload_n hx hb dX11_takeRead_165 rfl (lv_at hl 1 rfl) ?_
        refine lv_iadd hx hb dX11_takeRead_166 ?_
        refine lv_aload_n hx hb dX11_takeRead_167 rfl (lv_at hl 0 rfl) ?_
        refine xget (ref := "AbsentPraiseModel") (T := TX11) (v := .ref (X.2.1 143)) hC hP hin_X11 xo_X11 rfl 34 (by decide) (List.mem_of_getElem? (i := 19) rfl) rfl rfl dX11_takeRead_168 ?_
        refine lv_iload_n hx hb dX11_takeRead_171 rfl (lv_at hl 1 rfl) ?_
        have hn_30 : vp_in x1_153 49 := (nl (sn hs_153 c_28))
        refine xiald hC hP rfl hn_30 dX11_takeRead_172 ?_
        have hn_31 : vp_in (23 + x1_153) 72 := (nl (nr (sn hs_153 c_28)))
        refine xiast hC hP hS rfl hn_31 dX11_takeRead_173 (fun S_32 hS_32 H locs hP hS => ?_)
        refine lv_iinc (v := (x1_153 + 1)) (lv' := [(1, .int (x1_153 + 1)), (0, .ref (X.2.1 127))]) hx hb dX11_takeRead_174 hl (k := 1) rfl rfl (by decide) rfl (fun ls hl => ?_)
        refine lv_goto (tgt := 153) hx hb dX11_takeRead_177 (by decide) ?_
        have he_33 : f_X11_takeRead_L153 (n + 1) T_153 x1_153 = f_X11_takeRead_L153 n S_32 (x1_153 + 1) := (by subst hS_32; exact (iN c_28 rfl))
        exact ih_153 S_32 (x1_153 + 1) (by subst hS_32; exact (nr (nr (sn hs_153 c_28)))) (fun q hq => hex_153 q (hq.trans he_33.symm)) _ _ hP hS ls (lv_sub hl [1, 0] rfl)
  refine hLp_153 ((fu 0 49)) q_101 0 (by subst hS_1 hS_2 hS_3 hS_4 hS_5 hq_42 hq_80 hq_101; exact nl (nr (nr (nr hs)))) (fun q_153 hq_153 H locs hP hS ls hl => ?_) _ _ hP hS ls (lv_sub hl [1, 0] rfl)
  exact xret_v hC hP hS hb hr ((by subst hS_1 hS_2 hS_3 hS_4 hS_5 hq_42 hq_80 hq_101 hq_153; exact rfl)) dX11_takeRead_180 hlocks
