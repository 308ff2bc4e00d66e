set_option linter.all false
/-! contracts: X11_takeNumber, X11_takeRooms, X11_takePair, X11_takeBench, X11_takeWay -/
theorem hd_X11_takeNumber : yX11_takeNumber.cls = RX11 ∧ yX11_takeNumber.cls ≠ "java/lang/invoke/MethodHandle" ∧ yX11_takeNumber.cls ≠ "java/lang/invoke/VarHandle" ∧ (parseMethodDescriptor yX11_takeNumber.desc).map (fun d => d.parameters.length) = some 2 := by decide +kernel
set_option maxHeartbeats 4000000 in
set_option maxRecDepth 100000 in
theorem k_X11_takeNumber (l : Launch) (X : xX) (S : xS) (p0 : Int32) (p1 : Int32) (hs : s_X11_takeNumber S p0 p1) : Met l yX11_takeNumber wsX11_takeNumber ({ frames := 1, cells := 0, slots := 0, locals := 25 } : Room) (va_Pc [.ref (X.2.1 127), .int p0, .int p1] (xI X S)) (va_Qi (fun (r : Int32) (u : xS) => r = (f_X11_takeNumber S p0 p1).1 ∧ u = (f_X11_takeNumber S p0 p1).2) (xI X) (xA X)) 0 0 (xA X) := by
  refine Met.ofW (cc := cX11_takeNumber) (maxL := 4) (ret := (some .int)) (by decide +kernel) rfl ?_
  intro p e s m args below meth c s₁ B hml hv
  obtain ⟨rfl, hP, hK, hN, hJ⟩ := hv
  have hx := B.exec
  have hb := B.bytes
  have hr := B.returns
  have hts := atoms_spec (ws := wsX11_takeNumber) B.pre
  have hown : s.vm.findClass RX11 = some m.cls := findClass_of_methodNamed B.named
  have hlocks := B.notSynchronized
  have hC : xC X p m c cX11_takeNumber 4 s _ wsX11_takeNumber RX11 := ⟨⟨hx, hb, hml, hown, hts⟩, hK, hN, hJ⟩
  have hS : va_S (xA X) s.heap s.heap [] := va_S.rf
  have hin_X11 : ∀ w ∈ u_ws RX11 TX11 41, w ∈ wsX11_takeNumber := by decide +kernel
  have hl := lv_entry ([.ref (X.2.1 127), .int p0, .int p1]) (n := 4) (Nat.le_of_ble_eq_true rfl)
  rw [lg_entry_eq]
  generalize (lg_sl ([.ref (X.2.1 127), .int p0, .int p1]) ++ List.replicate (4 - (lg_sl ([.ref (X.2.1 127), .int p0, .int p1])).length) Slot.unset).toArray = ls at hl ⊢
  have hl : lv_has ls 4 [(0, .ref (X.2.1 127)), (1, .int p0), (2, .int p1)] := hl
  refine lv_aload_n hx hb dX11_takeNumber_0 rfl (lv_at hl 0 rfl) ?_
  have hn_1 : s_X11_here S := (nl hs)
  refine xcV_iW (b := 127) (As := []) (rest := []) hC hP hS (k_X11_here l X S hn_1) (cwV 0 hts gX11_takeNumber_X11_here rfl rfl rfl hd_X11_here ⟨Nat.le_of_ble_eq_true rfl, Nat.le_of_ble_eq_true rfl⟩) xo_X11 rfl rfl rfl hl.1 (Nat.le_of_ble_eq_true rfl) dX11_takeNumber_1 (fun r_2 S_3 hp_r_2 H locs hP hS => ?_)
  obtain ⟨hr_2, hS_3⟩ := hp_r_2
  refine lv_istore_n (lv' := [(3, .int r_2), (0, .ref (X.2.1 127)), (1, .int p0), (2, .int p1)]) hx hb dX11_takeNumber_4 rfl hl (by decide) rfl (fun ls hl => ?_)
  refine lv_iload_n hx hb dX11_takeNumber_5 rfl (lv_at hl 0 rfl) ?_
  refine lv_i2l (v := (r_2 : Int32).toInt64) hx hb dX11_takeNumber_6 rfl ?_
  refine lv_ldc2 (v := 48) hx hb hown (hts (.constantLong RX11 103 (48)) (List.mem_of_getElem? (i := 1) rfl)) dX11_takeNumber_7 ?_
  refine lv_ldc2 (v := 57) hx hb hown (hts (.constantLong RX11 105 (57)) (List.mem_of_getElem? (i := 2) rfl)) dX11_takeNumber_10 ?_
  refine xcS_iR (As := [.long (r_2 : Int32).toInt64, .long 48, .long 57]) (rest := []) hC hP hS (k_X11_in l X S_3 (r_2 : Int32).toInt64 48 57) (va_cwS 3 hts gX11_takeNumber_X11_in rfl rfl rfl hs_X11_in ⟨Nat.le_of_ble_eq_true rfl, Nat.le_of_ble_eq_true rfl⟩) rfl rfl hl.1 (Nat.le_of_ble_eq_true rfl) dX11_takeNumber_13 (fun r_5 hp_r_5 H locs hP hS => ?_)
  obtain ⟨hr_5, hzr_5⟩ := hp_r_5
  refine lv_if_ne (tgt := 29) hx hb dX11_takeNumber_16 (by decide) (fun c_6 => ?_) (fun c_6 => ?_)
  · refine lv_aload_n hx hb dX11_takeNumber_29 rfl (lv_at hl 1 rfl) ?_
    refine lv_aload_n hx hb dX11_takeNumber_30 rfl (lv_at hl 1 rfl) ?_
    refine xget (ref := "AbsentPraiseModel") (T := TX11) (v := .int (S_3 127 21)) hC hP hin_X11 xo_X11 rfl 21 (by decide) (List.mem_of_getElem? (i := 3) rfl) rfl rfl dX11_takeNumber_31 ?_
    refine xput (ref := "AbsentPraiseModel") (T := TX11) (ty := .int) hC hP hS (by decide) hin_X11 tyX11 tyX11_ok nmX11 xo_X11 rfl 23 (by decide) (List.mem_of_getElem? (i := 4) rfl) rfl rfl rfl rfl rfl (Nat.le_of_ble_eq_true rfl) dX11_takeNumber_34 rfl (fun S_7 hS_7 H locs hP hS => ?_)
    refine lv_aload_n hx hb dX11_takeNumber_37 rfl (lv_at hl 1 rfl) ?_
    refine lv_iconst (v := 0) hx hb dX11_takeNumber_38 (by decide) ?_
    refine xput (ref := "AbsentPraiseModel") (T := TX11) (ty := .int) hC hP hS (by decide) hin_X11 tyX11 tyX11_ok nmX11 xo_X11 rfl 22 (by decide) (List.mem_of_getElem? (i := 5) rfl) rfl rfl rfl rfl rfl (Nat.le_of_ble_eq_true rfl) dX11_takeNumber_39 rfl (fun S_8 hS_8 H locs hP hS => ?_)
    have hLp_42 : ∀ (n : Nat) (T_42 : xS) (x1_42 : Int32) (x2_42 : Int32), s_X11_takeNumber_L42 n T_42 x1_42 x2_42 → (∀ q : xS, q = f_X11_takeNumber_L42 n T_42 x1_42 x2_42 → (∀ (H : Heap) (locs : List Loc), va_P X.1 vwCl (xW X q) H → va_S (xA X) s.heap H locs → ∀ (ls : Array Slot), lv_has ls 4 [(0, .ref (X.2.1 127)), (1, .int x1_42), (2, .int x2_42)] → W p l e ({ frames := 1, cells := 0, slots := 0, locals := 25 } : Room) s m ([.ref (X.2.1 127), .int p0, .int p1] : List Value).toArray below meth c H locs 0 0 (MQ below (va_Qi (fun (r : Int32) (u : xS) => r = (f_X11_takeNumber S p0 p1).1 ∧ u = (f_X11_takeNumber S p0 p1).2) (xI X) (xA X)) ([.ref (X.2.1 127), .int p0, .int p1] : List Value).toArray s 0 0 (xA X)) (F0 m 129 ls []))) → ∀ (H : Heap) (locs : List Loc), va_P X.1 vwCl (xW X T_42) H → va_S (xA X) s.heap H locs → ∀ (ls : Array Slot), lv_has ls 4 [(0, .ref (X.2.1 127)), (1, .int x1_42), (2, .int x2_42)] → W p l e ({ frames := 1, cells := 0, slots := 0, locals := 25 } : Room) s m ([.ref (X.2.1 127), .int p0, .int p1] : List Value).toArray below meth c H locs 0 0 (MQ below (va_Qi (fun (r : Int32) (u : xS) => r = (f_X11_takeNumber S p0 p1).1 ∧ u = (f_X11_takeNumber S p0 p1).2) (xI X) (xA X)) ([.ref (X.2.1 127), .int p0, .int p1] : List Value).toArray s 0 0 (xA X)) (F0 m 42 ls []) := by
      intro n
      induction n with
      | zero => intro T_42 x1_42 x2_42 hs; exact hs.elim
      | succ n ih_42 =>
        intro T_42 x1_42 x2_42 hs_42 hex_42 H locs hP hS ls hl
        refine lv_aload_n hx hb dX11_takeNumber_42 rfl (lv_at hl 0 rfl) ?_
        refine xget (ref := "AbsentPraiseModel") (T := TX11) (v := .int (T_42 127 21)) hC hP hin_X11 xo_X11 rfl 21 (by decide) (List.mem_of_getElem? (i := 3) rfl) rfl rfl dX11_takeNumber_43 ?_
        refine lv_aload_n hx hb dX11_takeNumber_46 rfl (lv_at hl 0 rfl) ?_
        refine xget (ref := "AbsentPraiseModel") (T := TX11) (v := .int (T_42 127 19)) hC hP hin_X11 xo_X11 rfl 19 (by decide) (List.mem_of_getElem? (i := 6) rfl) rfl rfl dX11_takeNumber_47 ?_
        refine lv_icmp_ge (tgt := 129) hx hb dX11_takeNumber_50 (by decide) (fun c_9 => ?_) (fun c_9 => ?_)
        · have he_10 : f_X11_takeNumber_L42 (n + 1) T_42 x1_42 x2_42 = T_42 := ((ip c_9 rfl))
          exact hex_42 _ he_10.symm _ _ hP hS ls (lv_sub hl [0, 1, 2] rfl)
        · refine lv_aload_n hx hb dX11_takeNumber_53 rfl (lv_at hl 0 rfl) ?_
          refine xget (ref := "AbsentPraiseModel") (T := TX11) (v := .ref (X.2.1 138)) hC hP hin_X11 xo_X11 rfl 18 (by decide) (List.mem_of_getElem? (i := 7) rfl) rfl rfl dX11_takeNumber_54 ?_
          refine lv_aload_n hx hb dX11_takeNumber_57 rfl (lv_at hl 0 rfl) ?_
          refine xget (ref := "AbsentPraiseModel") (T := TX11) (v := .int (T_42 127 21)) hC hP hin_X11 xo_X11 rfl 21 (by decide) (List.mem_of_getElem? (i := 3) rfl) rfl rfl dX11_takeNumber_58 ?_
          have hn_11 : vp_in (T_42 127 21) 240 := (nl (sn hs_42 c_9))
          refine xiald hC hP rfl hn_11 dX11_takeNumber_61 ?_
          refine lv_i2l (v := ((T_42 138 ((T_42 127 21)).toNatClampNeg) : Int32).toInt64) hx hb dX11_takeNumber_62 rfl ?_
          refine lv_ldc2 (v := 48) hx hb hown (hts (.constantLong RX11 103 (48)) (List.mem_of_getElem? (i := 1) rfl)) dX11_takeNumber_63 ?_
          refine lv_ldc2 (v := 57) hx hb hown (hts (.constantLong RX11 105 (57)) (List.mem_of_getElem? (i := 2) rfl)) dX11_takeNumber_66 ?_
          refine xcS_iR (As := [.long ((T_42 138 ((T_42 127 21)).toNatClampNeg) : Int32).toInt64, .long 48, .long 57]) (rest := []) hC hP hS (k_X11_in l X T_42 ((T_42 138 ((T_42 127 21)).toNatClampNeg) : Int32).toInt64 48 57) (va_cwS 3 hts gX11_takeNumber_X11_in rfl rfl rfl hs_X11_in ⟨Nat.le_of_ble_eq_true rfl, Nat.le_of_ble_eq_true rfl⟩) rfl rfl hl.1 (Nat.le_of_ble_eq_true rfl) dX11_takeNumber_69 (fun r_12 hp_r_12 H locs hP hS => ?_)
          obtain ⟨hr_12, hzr_12⟩ := hp_r_12
          refine lv_if_eq (tgt := 129) hx hb dX11_takeNumber_72 (by decide) (fun c_13 => ?_) (fun c_13 => ?_)
          · have he_14 : f_X11_takeNumber_L42 (n + 1) T_42 x1_42 x2_42 = T_42 := (by have hr_12 := hr_12.symm; subst hr_12; exact (iN c_9 (ip c_13 rfl)))
            exact hex_42 _ he_14.symm _ _ hP hS ls (lv_sub hl [0, 1, 2] rfl)
          · refine lv_aload_n hx hb dX11_takeNumber_75 rfl (lv_at hl 0 rfl) ?_
            refine lv_aload_n hx hb dX11_takeNumber_76 rfl (lv_at hl 0 rfl) ?_
            refine xget (ref := "AbsentPraiseModel") (T := TX11) (v := .int (T_42 127 22)) hC hP hin_X11 xo_X11 rfl 22 (by decide) (List.mem_of_getElem? (i := 5) rfl) rfl rfl dX11_takeNumber_77 ?_
            refine lv_sipush (v := 10000) hx hb dX11_takeNumber_80 (by decide) ?_
            refine lv_icmp_le (tgt := 93) hx hb dX11_takeNumber_83 (by decide) (fun c_15 => ?_) (fun c_15 => ?_)
            · refine lv_bipush (v := 10) hx hb dX11_takeNumber_93 (by decide) ?_
              refine lv_aload_n hx hb dX11_takeNumber_95 rfl (lv_at hl 0 rfl) ?_
              refine xget (ref := "AbsentPraiseModel") (T := TX11) (v := .int (T_42 127 22)) hC hP hin_X11 xo_X11 rfl 22 (by decide) (List.mem_of_getElem? (i := 5) rfl) rfl rfl dX11_takeNumber_96 ?_
              refine lv_imul hx hb dX11_takeNumber_99 ?_
              refine lv_aload_n hx hb dX11_takeNumber_100 rfl (lv_at hl 0 rfl) ?_
              refine xget (ref := "AbsentPraiseModel") (T := TX11) (v := .ref (X.2.1 138)) hC hP hin_X11 xo_X11 rfl 18 (by decide) (List.mem_of_getElem? (i := 7) rfl) rfl rfl dX11_takeNumber_101 ?_
              refine lv_aload_n hx hb dX11_takeNumber_104 rfl (lv_at hl 0 rfl) ?_
              refine xget (ref := "AbsentPraiseModel") (T := TX11) (v := .int (T_42 127 21)) hC hP hin_X11 xo_X11 rfl 21 (by decide) (List.mem_of_getElem? (i := 3) rfl) rfl rfl dX11_takeNumber_105 ?_
              refine xiald hC hP rfl hn_11 dX11_takeNumber_108 ?_
              refine lv_iadd hx hb dX11_takeNumber_109 ?_
              refine lv_bipush (v := 48) hx hb dX11_takeNumber_110 (by decide) ?_
              refine lv_isub hx hb dX11_takeNumber_112 ?_
              refine xput (ref := "AbsentPraiseModel") (T := TX11) (ty := .int) hC hP hS (by decide) hin_X11 tyX11 tyX11_ok nmX11 xo_X11 rfl 22 (by decide) (List.mem_of_getElem? (i := 5) rfl) rfl rfl rfl rfl rfl (Nat.le_of_ble_eq_true rfl) dX11_takeNumber_113 rfl (fun S_16 hS_16 H locs hP hS => ?_)
              refine lv_aload_n hx hb dX11_takeNumber_116 rfl (lv_at hl 0 rfl) ?_
              refine lv_dup hx hb dX11_takeNumber_117 rfl ?_
              refine xget (ref := "AbsentPraiseModel") (T := TX11) (v := .int (S_16 127 21)) hC hP hin_X11 xo_X11 rfl 21 (by decide) (List.mem_of_getElem? (i := 3) rfl) rfl rfl dX11_takeNumber_118 ?_
              refine lv_iconst (v := 1) hx hb dX11_takeNumber_121 (by decide) ?_
              refine lv_iadd hx hb dX11_takeNumber_122 ?_
              refine xput (ref := "AbsentPraiseModel") (T := TX11) (ty := .int) hC hP hS (by decide) hin_X11 tyX11 tyX11_ok nmX11 xo_X11 rfl 21 (by decide) (List.mem_of_getElem? (i := 3) rfl) rfl rfl rfl rfl rfl (Nat.le_of_ble_eq_true rfl) dX11_takeNumber_123 rfl (fun S_17 hS_17 H locs hP hS => ?_)
              refine lv_goto (tgt := 42) hx hb dX11_takeNumber_126 (by decide) ?_
              have he_18 : f_X11_takeNumber_L42 (n + 1) T_42 x1_42 x2_42 = f_X11_takeNumber_L42 n S_17 x1_42 x2_42 := (by have hr_12 := hr_12.symm; have hS_16 := hS_16.symm; have hS_17 := hS_17.symm; subst hr_12 hS_16 hS_17; exact (iN c_9 (iN c_13 (ip c_15 rfl))))
              exact ih_42 S_17 x1_42 x2_42 (by have hr_12 := hr_12.symm; have hS_16 := hS_16.symm; have hS_17 := hS_17.symm; subst hr_12 hS_16 hS_17; exact (sp (sn (nr (sn hs_42 c_9)) c_13) c_15)) (fun q hq => hex_42 q (hq.trans he_18.symm)) _ _ hP hS ls (lv_sub hl [0, 1, 2] rfl)
            · refine lv_aload_n hx hb dX11_takeNumber_86 rfl (lv_at hl 0 rfl) ?_
              refine xget (ref := "AbsentPraiseModel") (T := TX11) (v := .int (T_42 127 22)) hC hP hin_X11 xo_X11 rfl 22 (by decide) (List.mem_of_getElem? (i := 5) rfl) rfl rfl dX11_takeNumber_87 ?_
              refine lv_goto (tgt := 113) hx hb dX11_takeNumber_90 (by decide) ?_
              refine xput (ref := "AbsentPraiseModel") (T := TX11) (ty := .int) hC hP hS (by decide) hin_X11 tyX11 tyX11_ok nmX11 xo_X11 rfl 22 (by decide) (List.mem_of_getElem? (i := 5) rfl) rfl rfl rfl rfl rfl (Nat.le_of_ble_eq_true rfl) dX11_takeNumber_113 rfl (fun S_19 hS_19 H locs hP hS => ?_)
              refine lv_aload_n hx hb dX11_takeNumber_116 rfl (lv_at hl 0 rfl) ?_
              refine lv_dup hx hb dX11_takeNumber_117 rfl ?_
              refine xget (ref := "AbsentPraiseModel") (T := TX11) (v := .int (S_19 127 21)) hC hP hin_X11 xo_X11 rfl 21 (by decide) (List.mem_of_getElem? (i := 3) rfl) rfl rfl dX11_takeNumber_118 ?_
              refine lv_iconst (v := 1) hx hb dX11_takeNumber_121 (by decide) ?_
              refine lv_iadd hx hb dX11_takeNumber_122 ?_
              refine xput (ref := "AbsentPraiseModel") (T := TX11) (ty := .int) hC hP hS (by decide) hin_X11 tyX11 tyX11_ok nmX11 xo_X11 rfl 21 (by decide) (List.mem_of_getElem? (i := 3) rfl) rfl rfl rfl rfl rfl (Nat.le_of_ble_eq_true rfl) dX11_takeNumber_123 rfl (fun S_20 hS_20 H locs hP hS => ?_)
              refine lv_goto (tgt := 42) hx hb dX11_takeNumber_126 (by decide) ?_
              have he_21 : f_X11_takeNumber_L42 (n + 1) T_42 x1_42 x2_42 = f_X11_takeNumber_L42 n S_20 x1_42 x2_42 := (by have hr_12 := hr_12.symm; have hS_19 := hS_19.symm; have hS_20 := hS_20.symm; subst hr_12 hS_19 hS_20; exact (iN c_9 (iN c_13 (iN c_15 rfl))))
              exact ih_42 S_20 x1_42 x2_42 (by have hr_12 := hr_12.symm; have hS_19 := hS_19.symm; have hS_20 := hS_20.symm; subst hr_12 hS_19 hS_20; exact (sn (sn (nr (sn hs_42 c_9)) c_13) c_15)) (fun q hq => hex_42 q (hq.trans he_21.symm)) _ _ hP hS ls (lv_sub hl [0, 1, 2] rfl)
    refine hLp_42 ((fu (S_8 127 21) (S_8 127 19))) S_8 p0 p1 (by have hr_2 := hr_2.symm; have hS_3 := hS_3.symm; have hr_5 := hr_5.symm; have hS_7 := hS_7.symm; have hS_8 := hS_8.symm; subst hr_2 hS_3 hr_5 hS_7 hS_8; exact nl (sn (nr hs) c_6)) (fun q_42 hq_42 H locs hP hS ls hl => ?_) _ _ hP hS ls (lv_sub hl [1, 2, 3] rfl)
    refine lv_aload_n hx hb dX11_takeNumber_129 rfl (lv_at hl 0 rfl) ?_
    refine xget (ref := "AbsentPraiseModel") (T := TX11) (v := .int (q_42 127 21)) hC hP hin_X11 xo_X11 rfl 21 (by decide) (List.mem_of_getElem? (i := 3) rfl) rfl rfl dX11_takeNumber_130 ?_
    refine lv_aload_n hx hb dX11_takeNumber_133 rfl (lv_at hl 0 rfl) ?_
    refine xget (ref := "AbsentPraiseModel") (T := TX11) (v := .int (q_42 127 23)) hC hP hin_X11 xo_X11 rfl 23 (by decide) (List.mem_of_getElem? (i := 4) rfl) rfl rfl dX11_takeNumber_134 ?_
    refine lv_isub hx hb dX11_takeNumber_137 ?_
    refine lv_iconst (v := 3) hx hb dX11_takeNumber_138 (by decide) ?_
    refine lv_icmp_gt (tgt := 157) hx hb dX11_takeNumber_139 (by decide) (fun c_22 => ?_) (fun c_22 => ?_)
    · refine lv_aload_n hx hb dX11_takeNumber_157 rfl (lv_at hl 0 rfl) ?_
      refine lv_iconst (v := 2) hx hb dX11_takeNumber_158 (by decide) ?_
      refine lv_aload_n hx hb dX11_takeNumber_159 rfl (lv_at hl 0 rfl) ?_
      refine xget (ref := "AbsentPraiseModel") (T := TX11) (v := .int (q_42 127 23)) hC hP hin_X11 xo_X11 rfl 23 (by decide) (List.mem_of_getElem? (i := 4) rfl) rfl rfl dX11_takeNumber_160 ?_
      refine xcV_iW (b := 127) (As := [.int 2, .int (q_42 127 23)]) (rest := []) hC hP hS (k_X11_fails l X q_42 2 (q_42 127 23)) (cwV 2 hts gX11_takeNumber_X11_fails rfl rfl rfl hd_X11_fails ⟨Nat.le_of_ble_eq_true rfl, Nat.le_of_ble_eq_true rfl⟩) xo_X11 rfl rfl rfl hl.1 (Nat.le_of_ble_eq_true rfl) dX11_takeNumber_163 (fun r_23 S_24 hp_r_23 H locs hP hS => ?_)
      obtain ⟨hr_23, hS_24⟩ := hp_r_23
      refine lv_goto (tgt := 170) hx hb dX11_takeNumber_166 (by decide) ?_
      exact xret_iW hC hP hS hb hr (by simp only [f_X11_takeNumber, ← hr_2, ← hS_3, ← hr_5, ← hS_7, ← hS_8, ← hq_42, ← hr_23, ← hS_24, if_neg c_6, if_pos c_22]) dX11_takeNumber_170 hlocks
    · refine lv_aload_n hx hb dX11_takeNumber_142 rfl (lv_at hl 0 rfl) ?_
      refine xget (ref := "AbsentPraiseModel") (T := TX11) (v := .int (q_42 127 22)) hC hP hin_X11 xo_X11 rfl 22 (by decide) (List.mem_of_getElem? (i := 5) rfl) rfl rfl dX11_takeNumber_143 ?_
      refine lv_i2l (v := ((q_42 127 22) : Int32).toInt64) hx hb dX11_takeNumber_146 rfl ?_
      refine lv_iload_n hx hb dX11_takeNumber_147 rfl (lv_at hl 1 rfl) ?_
      refine lv_i2l (v := (p0 : Int32).toInt64) hx hb dX11_takeNumber_148 rfl ?_
      refine lv_iload_n hx hb dX11_takeNumber_149 rfl (lv_at hl 2 rfl) ?_
      refine lv_i2l (v := (p1 : Int32).toInt64) hx hb dX11_takeNumber_150 rfl ?_
      refine xcS_iR (As := [.long ((q_42 127 22) : Int32).toInt64, .long (p0 : Int32).toInt64, .long (p1 : Int32).toInt64]) (rest := []) hC hP hS (k_X11_in l X q_42 ((q_42 127 22) : Int32).toInt64 (p0 : Int32).toInt64 (p1 : Int32).toInt64) (va_cwS 3 hts gX11_takeNumber_X11_in rfl rfl rfl hs_X11_in ⟨Nat.le_of_ble_eq_true rfl, Nat.le_of_ble_eq_true rfl⟩) rfl rfl hl.1 (Nat.le_of_ble_eq_true rfl) dX11_takeNumber_151 (fun r_26 hp_r_26 H locs hP hS => ?_)
      obtain ⟨hr_26, hzr_26⟩ := hp_r_26
      refine lv_if_ne (tgt := 169) hx hb dX11_takeNumber_154 (by decide) (fun c_27 => ?_) (fun c_27 => ?_)
      · refine lv_iconst (v := 0) hx hb dX11_takeNumber_169 (by decide) ?_
        exact xret_iW hC hP hS hb hr (by simp only [f_X11_takeNumber, ← hr_2, ← hS_3, ← hr_5, ← hS_7, ← hS_8, ← hq_42, ← hr_26, if_neg c_6, if_neg c_22, if_neg c_27]) dX11_takeNumber_170 hlocks
      · refine lv_aload_n hx hb dX11_takeNumber_157 rfl (lv_at hl 0 rfl) ?_
        refine lv_iconst (v := 2) hx hb dX11_takeNumber_158 (by decide) ?_
        refine lv_aload_n hx hb dX11_takeNumber_159 rfl (lv_at hl 0 rfl) ?_
        refine xget (ref := "AbsentPraiseModel") (T := TX11) (v := .int (q_42 127 23)) hC hP hin_X11 xo_X11 rfl 23 (by decide) (List.mem_of_getElem? (i := 4) rfl) rfl rfl dX11_takeNumber_160 ?_
        refine xcV_iW (b := 127) (As := [.int 2, .int (q_42 127 23)]) (rest := []) hC hP hS (k_X11_fails l X q_42 2 (q_42 127 23)) (cwV 2 hts gX11_takeNumber_X11_fails rfl rfl rfl hd_X11_fails ⟨Nat.le_of_ble_eq_true rfl, Nat.le_of_ble_eq_true rfl⟩) xo_X11 rfl rfl rfl hl.1 (Nat.le_of_ble_eq_true rfl) dX11_takeNumber_163 (fun r_28 S_29 hp_r_28 H locs hP hS => ?_)
        obtain ⟨hr_28, hS_29⟩ := hp_r_28
        refine lv_goto (tgt := 170) hx hb dX11_takeNumber_166 (by decide) ?_
        exact xret_iW hC hP hS hb hr (by simp only [f_X11_takeNumber, ← hr_2, ← hS_3, ← hr_5, ← hS_7, ← hS_8, ← hq_42, ← hr_26, ← hr_28, ← hS_29, if_neg c_6, if_neg c_22, if_pos c_27]) dX11_takeNumber_170 hlocks
  · refine lv_aload_n hx hb dX11_takeNumber_19 rfl (lv_at hl 1 rfl) ?_
    refine lv_iconst (v := 1) hx hb dX11_takeNumber_20 (by decide) ?_
    refine lv_aload_n hx hb dX11_takeNumber_21 rfl (lv_at hl 1 rfl) ?_
    refine xget (ref := "AbsentPraiseModel") (T := TX11) (v := .int (S_3 127 21)) hC hP hin_X11 xo_X11 rfl 21 (by decide) (List.mem_of_getElem? (i := 3) rfl) rfl rfl dX11_takeNumber_22 ?_
    refine xcV_iW (b := 127) (As := [.int 1, .int (S_3 127 21)]) (rest := []) hC hP hS (k_X11_fails l X S_3 1 (S_3 127 21)) (cwV 2 hts gX11_takeNumber_X11_fails rfl rfl rfl hd_X11_fails ⟨Nat.le_of_ble_eq_true rfl, Nat.le_of_ble_eq_true rfl⟩) xo_X11 rfl rfl rfl hl.1 (Nat.le_of_ble_eq_true rfl) dX11_takeNumber_25 (fun r_31 S_32 hp_r_31 H locs hP hS => ?_)
    obtain ⟨hr_31, hS_32⟩ := hp_r_31
    exact xret_iW hC hP hS hb hr (by simp only [f_X11_takeNumber, ← hr_2, ← hS_3, ← hr_5, ← hr_31, ← hS_32, if_pos c_6]) dX11_takeNumber_28 hlocks
theorem hd_X11_takeRooms : yX11_takeRooms.cls = RX11 ∧ yX11_takeRooms.cls ≠ "java/lang/invoke/MethodHandle" ∧ yX11_takeRooms.cls ≠ "java/lang/invoke/VarHandle" ∧ (parseMethodDescriptor yX11_takeRooms.desc).map (fun d => d.parameters.length) = some 0 := by decide +kernel
set_option maxHeartbeats 4000000 in
set_option maxRecDepth 100000 in
theorem k_X11_takeRooms (l : Launch) (X : xX) (S : xS) (hs : s_X11_takeRooms S) : Met l yX11_takeRooms wsX11_takeRooms ({ frames := 2, cells := 0, slots := 0, locals := 48 } : Room) (va_Pc [.ref (X.2.1 127)] (xI X S)) (va_Qi (fun (r : Int32) (u : xS) => r = (f_X11_takeRooms S).1 ∧ u = (f_X11_takeRooms S).2) (xI X) (xA X)) 0 0 (xA X) := by
  refine Met.ofW (cc := cX11_takeRooms) (maxL := 3) (ret := (some .int)) (by decide +kernel) rfl ?_
  intro p e s m args below meth c s₁ B hml hv
  obtain ⟨rfl, hP, hK, hN, hJ⟩ := hv
  have hx := B.exec
  have hb := B.bytes
  have hr := B.returns
  have hts := atoms_spec (ws := wsX11_takeRooms) B.pre
  have hown : s.vm.findClass RX11 = some m.cls := findClass_of_methodNamed B.named
  have hlocks := B.notSynchronized
  have hC : xC X p m c cX11_takeRooms 3 s _ wsX11_takeRooms RX11 := ⟨⟨hx, hb, hml, hown, hts⟩, hK, hN, hJ⟩
  have hS : va_S (xA X) s.heap s.heap [] := va_S.rf
  have hin_X11 : ∀ w ∈ u_ws RX11 TX11 41, w ∈ wsX11_takeRooms := by decide +kernel
  have hl := lv_entry ([.ref (X.2.1 127)]) (n := 3) (Nat.le_of_ble_eq_true rfl)
  rw [lg_entry_eq]
  generalize (lg_sl ([.ref (X.2.1 127)]) ++ List.replicate (3 - (lg_sl ([.ref (X.2.1 127)])).length) Slot.unset).toArray = ls at hl ⊢
  have hl : lv_has ls 3 [(0, .ref (X.2.1 127))] := hl
  refine lv_aload_n hx hb dX11_takeRooms_0 rfl (lv_at hl 0 rfl) ?_
  refine lv_iconst (v := 2) hx hb dX11_takeRooms_1 (by decide) ?_
  refine lv_bipush (v := 6) hx hb dX11_takeRooms_2 (by decide) ?_
  have hn_1 : s_X11_takeNumber S 2 6 := (nl hs)
  refine xcV_iW (b := 127) (As := [.int 2, .int 6]) (rest := []) hC hP hS (k_X11_takeNumber l X S 2 6 hn_1) (cwV 2 hts gX11_takeRooms_X11_takeNumber rfl rfl rfl hd_X11_takeNumber ⟨Nat.le_of_ble_eq_true rfl, Nat.le_of_ble_eq_true rfl⟩) xo_X11 rfl rfl rfl hl.1 (Nat.le_of_ble_eq_true rfl) dX11_takeRooms_4 (fun r_2 S_3 hp_r_2 H locs hP hS => ?_)
  obtain ⟨hr_2, hS_3⟩ := hp_r_2
  refine lv_istore_n (lv' := [(1, .int r_2), (0, .ref (X.2.1 127))]) hx hb dX11_takeRooms_7 rfl hl (by decide) rfl (fun ls hl => ?_)
  refine lv_iload_n hx hb dX11_takeRooms_8 rfl (lv_at hl 0 rfl) ?_
  refine lv_if_le (tgt := 14) hx hb dX11_takeRooms_9 (by decide) (fun c_5 => ?_) (fun c_5 => ?_)
  · refine lv_aload_n hx hb dX11_takeRooms_14 rfl (lv_at hl 1 rfl) ?_
    refine xget (ref := "AbsentPraiseModel") (T := TX11) (v := .int (S_3 127 22)) hC hP hin_X11 xo_X11 rfl 22 (by decide) (List.mem_of_getElem? (i := 1) rfl) rfl rfl dX11_takeRooms_15 ?_
    refine lv_istore_n (lv' := [(2, .int (S_3 127 22)), (1, .int r_2), (0, .ref (X.2.1 127))]) hx hb dX11_takeRooms_18 rfl hl (by decide) rfl (fun ls hl => ?_)
    refine lv_aload_n hx hb dX11_takeRooms_19 rfl (lv_at hl 2 rfl) ?_
    refine lv_iconst (v := 0) hx hb dX11_takeRooms_20 (by decide) ?_
    refine lv_iconst (v := 1) hx hb dX11_takeRooms_21 (by decide) ?_
    refine lv_iload_n hx hb dX11_takeRooms_22 rfl (lv_at hl 0 rfl) ?_
    refine lv_ishl hx hb dX11_takeRooms_23 ?_
    refine lv_iconst (v := 1) hx hb dX11_takeRooms_24 (by decide) ?_
    refine lv_isub hx hb dX11_takeRooms_25 ?_
    have hn_6 : s_X11_takeNumber S_3 0 ((1 <<< ((S_3 127 22) &&& 31)) - 1) := (by have hr_2 := hr_2.symm; have hS_3 := hS_3.symm; subst hr_2 hS_3; exact nl (sp (nr hs) c_5))
    refine xcV_iW (b := 127) (As := [.int 0, .int ((1 <<< ((S_3 127 22) &&& 31)) - 1)]) (rest := []) hC hP hS (k_X11_takeNumber l X S_3 0 ((1 <<< ((S_3 127 22) &&& 31)) - 1) hn_6) (cwV 2 hts gX11_takeRooms_X11_takeNumber rfl rfl rfl hd_X11_takeNumber ⟨Nat.le_of_ble_eq_true rfl, Nat.le_of_ble_eq_true rfl⟩) xo_X11 rfl rfl rfl hl.1 (Nat.le_of_ble_eq_true rfl) dX11_takeRooms_26 (fun r_7 S_8 hp_r_7 H locs hP hS => ?_)
    obtain ⟨hr_7, hS_8⟩ := hp_r_7
    refine lv_istore_n (lv' := [(1, .int r_7), (2, .int (S_3 127 22)), (0, .ref (X.2.1 127))]) hx hb dX11_takeRooms_29 rfl hl (by decide) rfl (fun ls hl => ?_)
    refine lv_aload_n hx hb dX11_takeRooms_30 rfl (lv_at hl 2 rfl) ?_
    refine lv_iload_n hx hb dX11_takeRooms_31 rfl (lv_at hl 1 rfl) ?_
    refine xput (ref := "AbsentPraiseModel") (T := TX11) (ty := .int) hC hP hS (by decide) hin_X11 tyX11 tyX11_ok nmX11 xo_X11 rfl 24 (by decide) (List.mem_of_getElem? (i := 2) rfl) rfl rfl rfl rfl rfl (Nat.le_of_ble_eq_true rfl) dX11_takeRooms_32 rfl (fun S_10 hS_10 H locs hP hS => ?_)
    refine lv_aload_n hx hb dX11_takeRooms_35 rfl (lv_at hl 2 rfl) ?_
    refine lv_aload_n hx hb dX11_takeRooms_36 rfl (lv_at hl 2 rfl) ?_
    refine xget (ref := "AbsentPraiseModel") (T := TX11) (v := .int (S_10 127 22)) hC hP hin_X11 xo_X11 rfl 22 (by decide) (List.mem_of_getElem? (i := 1) rfl) rfl rfl dX11_takeRooms_37 ?_
    refine xput (ref := "AbsentPraiseModel") (T := TX11) (ty := .int) hC hP hS (by decide) hin_X11 tyX11 tyX11_ok nmX11 xo_X11 rfl 25 (by decide) (List.mem_of_getElem? (i := 3) rfl) rfl rfl rfl rfl rfl (Nat.le_of_ble_eq_true rfl) dX11_takeRooms_40 rfl (fun S_11 hS_11 H locs hP hS => ?_)
    refine lv_iload_n hx hb dX11_takeRooms_43 rfl (lv_at hl 0 rfl) ?_
    exact xret_iW hC hP hS hb hr (by simp only [f_X11_takeRooms, ← hr_2, ← hS_3, ← hr_7, ← hS_8, ← hS_10, ← hS_11, if_pos c_5]) dX11_takeRooms_44 hlocks
  · refine lv_iload_n hx hb dX11_takeRooms_12 rfl (lv_at hl 0 rfl) ?_
    exact xret_iW hC hP hS hb hr (by simp only [f_X11_takeRooms, ← hr_2, ← hS_3, if_neg c_5]) dX11_takeRooms_13 hlocks
theorem hd_X11_takePair : yX11_takePair.cls = RX11 ∧ yX11_takePair.cls ≠ "java/lang/invoke/MethodHandle" ∧ yX11_takePair.cls ≠ "java/lang/invoke/VarHandle" ∧ (parseMethodDescriptor yX11_takePair.desc).map (fun d => d.parameters.length) = some 1 := by decide +kernel
set_option maxHeartbeats 4000000 in
set_option maxRecDepth 100000 in
theorem k_X11_takePair (l : Launch) (X : xX) (S : xS) (k0 : Nat) (hk0 : isI k0 = true) (hs : s_X11_takePair S k0) : Met l yX11_takePair wsX11_takePair ({ frames := 2, cells := 0, slots := 0, locals := 48 } : Room) (va_Pc [.ref (X.2.1 127), .ref (X.2.1 k0)] (xI X S)) (va_Qi (fun (r : Int32) (u : xS) => r = (f_X11_takePair S k0).1 ∧ u = (f_X11_takePair S k0).2) (xI X) (xA X)) 0 0 (xA X) := by
  refine Met.ofW (cc := cX11_takePair) (maxL := 3) (ret := (some .int)) (by decide +kernel) rfl ?_
  intro p e s m args below meth c s₁ B hml hv
  obtain ⟨rfl, hP, hK, hN, hJ⟩ := hv
  have hx := B.exec
  have hb := B.bytes
  have hr := B.returns
  have hts := atoms_spec (ws := wsX11_takePair) B.pre
  have hown : s.vm.findClass RX11 = some m.cls := findClass_of_methodNamed B.named
  have hlocks := B.notSynchronized
  have hC : xC X p m c cX11_takePair 3 s _ wsX11_takePair RX11 := ⟨⟨hx, hb, hml, hown, hts⟩, hK, hN, hJ⟩
  have hS : va_S (xA X) s.heap s.heap [] := va_S.rf
  have hin_X11 : ∀ w ∈ u_ws RX11 TX11 41, w ∈ wsX11_takePair := by decide +kernel
  have hl := lv_entry ([.ref (X.2.1 127), .ref (X.2.1 k0)]) (n := 3) (Nat.le_of_ble_eq_true rfl)
  rw [lg_entry_eq]
  generalize (lg_sl ([.ref (X.2.1 127), .ref (X.2.1 k0)]) ++ List.replicate (3 - (lg_sl ([.ref (X.2.1 127), .ref (X.2.1 k0)])).length) Slot.unset).toArray = ls at hl ⊢
  have hl : lv_has ls 3 [(0, .ref (X.2.1 127)), (1, .ref (X.2.1 k0))] := hl
  refine lv_aload_n hx hb dX11_takePair_0 rfl (lv_at hl 0 rfl) ?_
  refine lv_iconst (v := 0) hx hb dX11_takePair_1 (by decide) ?_
  refine lv_aload_n hx hb dX11_takePair_2 rfl (lv_at hl 0 rfl) ?_
  refine xget (ref := "AbsentPraiseModel") (T := TX11) (v := .int (S 127 24)) hC hP hin_X11 xo_X11 rfl 24 (by decide) (List.mem_of_getElem? (i := 1) rfl) rfl rfl dX11_takePair_3 ?_
  refine lv_iconst (v := 1) hx hb dX11_takePair_6 (by decide) ?_
  refine lv_isub hx hb dX11_takePair_7 ?_
  have hn_1 : s_X11_takeNumber S 0 ((S 127 24) - 1) := (nl hs)
  refine xcV_iW (b := 127) (As := [.int 0, .int ((S 127 24) - 1)]) (rest := []) hC hP hS (k_X11_takeNumber l X S 0 ((S 127 24) - 1) hn_1) (cwV 2 hts gX11_takePair_X11_takeNumber rfl rfl rfl hd_X11_takeNumber ⟨Nat.le_of_ble_eq_true rfl, Nat.le_of_ble_eq_true rfl⟩) xo_X11 rfl rfl rfl hl.1 (Nat.le_of_ble_eq_true rfl) dX11_takePair_8 (fun r_2 S_3 hp_r_2 H locs hP hS => ?_)
  obtain ⟨hr_2, hS_3⟩ := hp_r_2
  refine lv_istore_n (lv' := [(2, .int r_2), (0, .ref (X.2.1 127)), (1, .ref (X.2.1 k0))]) hx hb dX11_takePair_11 rfl hl (by decide) rfl (fun ls hl => ?_)
  refine lv_iload_n hx hb dX11_takePair_12 rfl (lv_at hl 0 rfl) ?_
  refine lv_if_le (tgt := 18) hx hb dX11_takePair_13 (by decide) (fun c_5 => ?_) (fun c_5 => ?_)
  · refine lv_aload_n hx hb dX11_takePair_18 rfl (lv_at hl 1 rfl) ?_
    refine lv_aload_n hx hb dX11_takePair_19 rfl (lv_at hl 1 rfl) ?_
    refine xget (ref := "AbsentPraiseModel") (T := TX11) (v := .int (S_3 127 22)) hC hP hin_X11 xo_X11 rfl 22 (by decide) (List.mem_of_getElem? (i := 2) rfl) rfl rfl dX11_takePair_20 ?_
    refine xput (ref := "AbsentPraiseModel") (T := TX11) (ty := .int) hC hP hS (by decide) hin_X11 tyX11 tyX11_ok nmX11 xo_X11 rfl 35 (by decide) (List.mem_of_getElem? (i := 3) rfl) rfl rfl rfl rfl rfl (Nat.le_of_ble_eq_true rfl) dX11_takePair_23 rfl (fun S_6 hS_6 H locs hP hS => ?_)
    refine lv_aload_n hx hb dX11_takePair_26 rfl (lv_at hl 1 rfl) ?_
    refine lv_iconst (v := 0) hx hb dX11_takePair_27 (by decide) ?_
    refine lv_aload_n hx hb dX11_takePair_28 rfl (lv_at hl 1 rfl) ?_
    refine xget (ref := "AbsentPraiseModel") (T := TX11) (v := .int (S_6 127 24)) hC hP hin_X11 xo_X11 rfl 24 (by decide) (List.mem_of_getElem? (i := 1) rfl) rfl rfl dX11_takePair_29 ?_
    refine lv_iconst (v := 1) hx hb dX11_takePair_32 (by decide) ?_
    refine lv_isub hx hb dX11_takePair_33 ?_
    have hn_7 : s_X11_takeNumber S_6 0 ((S_6 127 24) - 1) := (by have hr_2 := hr_2.symm; have hS_3 := hS_3.symm; have hS_6 := hS_6.symm; subst hr_2 hS_3 hS_6; exact nl (sp (nr hs) c_5))
    refine xcV_iW (b := 127) (As := [.int 0, .int ((S_6 127 24) - 1)]) (rest := []) hC hP hS (k_X11_takeNumber l X S_6 0 ((S_6 127 24) - 1) hn_7) (cwV 2 hts gX11_takePair_X11_takeNumber rfl rfl rfl hd_X11_takeNumber ⟨Nat.le_of_ble_eq_true rfl, Nat.le_of_ble_eq_true rfl⟩) xo_X11 rfl rfl rfl hl.1 (Nat.le_of_ble_eq_true rfl) dX11_takePair_34 (fun r_8 S_9 hp_r_8 H locs hP hS => ?_)
    obtain ⟨hr_8, hS_9⟩ := hp_r_8
    refine lv_istore_n (lv' := [(2, .int r_8), (0, .ref (X.2.1 127)), (1, .ref (X.2.1 k0))]) hx hb dX11_takePair_37 rfl hl (by decide) rfl (fun ls hl => ?_)
    refine lv_iload_n hx hb dX11_takePair_38 rfl (lv_at hl 0 rfl) ?_
    refine lv_if_le (tgt := 44) hx hb dX11_takePair_39 (by decide) (fun c_11 => ?_) (fun c_11 => ?_)
    · refine lv_aload_n hx hb dX11_takePair_44 rfl (lv_at hl 1 rfl) ?_
      refine xget (ref := "AbsentPraiseModel") (T := TX11) (v := .int (S_9 127 22)) hC hP hin_X11 xo_X11 rfl 22 (by decide) (List.mem_of_getElem? (i := 2) rfl) rfl rfl dX11_takePair_45 ?_
      refine lv_aload_n hx hb dX11_takePair_48 rfl (lv_at hl 1 rfl) ?_
      refine xget (ref := "AbsentPraiseModel") (T := TX11) (v := .int (S_9 127 35)) hC hP hin_X11 xo_X11 rfl 35 (by decide) (List.mem_of_getElem? (i := 3) rfl) rfl rfl dX11_takePair_49 ?_
      refine lv_icmp_eq (tgt := 71) hx hb dX11_takePair_52 (by decide) (fun c_12 => ?_) (fun c_12 => ?_)
      · refine lv_aload_n hx hb dX11_takePair_71 rfl (lv_at hl 1 rfl) ?_
        refine lv_iconst (v := 4) hx hb dX11_takePair_72 (by decide) ?_
        refine lv_aload_n hx hb dX11_takePair_73 rfl (lv_at hl 1 rfl) ?_
        refine xget (ref := "AbsentPraiseModel") (T := TX11) (v := .int (S_9 127 23)) hC hP hin_X11 xo_X11 rfl 23 (by decide) (List.mem_of_getElem? (i := 4) rfl) rfl rfl dX11_takePair_74 ?_
        refine xcV_iW (b := 127) (As := [.int 4, .int (S_9 127 23)]) (rest := []) hC hP hS (k_X11_fails l X S_9 4 (S_9 127 23)) (cwV 2 hts gX11_takePair_X11_fails rfl rfl rfl hd_X11_fails ⟨Nat.le_of_ble_eq_true rfl, Nat.le_of_ble_eq_true rfl⟩) xo_X11 rfl rfl rfl hl.1 (Nat.le_of_ble_eq_true rfl) dX11_takePair_77 (fun r_13 S_14 hp_r_13 H locs hP hS => ?_)
        obtain ⟨hr_13, hS_14⟩ := hp_r_13
        refine lv_goto (tgt := 84) hx hb dX11_takePair_80 (by decide) ?_
        exact xret_iW hC hP hS hb hr (by simp only [f_X11_takePair, ← hr_2, ← hS_3, ← hS_6, ← hr_8, ← hS_9, ← hr_13, ← hS_14, if_pos c_5, if_pos c_11, if_pos c_12]) dX11_takePair_84 hlocks
      · refine lv_aload_n hx hb dX11_takePair_55 rfl (lv_at hl 2 rfl) ?_
        refine lv_aload_n hx hb dX11_takePair_56 rfl (lv_at hl 1 rfl) ?_
        refine xget (ref := "AbsentPraiseModel") (T := TX11) (v := .int (S_9 127 35)) hC hP hin_X11 xo_X11 rfl 35 (by decide) (List.mem_of_getElem? (i := 3) rfl) rfl rfl dX11_takePair_57 ?_
        have hn_16 : vp_in (S_9 127 35) (xlen k0) := (by have hr_2 := hr_2.symm; have hS_3 := hS_3.symm; have hS_6 := hS_6.symm; have hr_8 := hr_8.symm; have hS_9 := hS_9.symm; subst hr_2 hS_3 hS_6 hr_8 hS_9; exact nl (sn (sp (nr (sp (nr hs) c_5)) c_11) c_12))
        refine xiald hC hP hk0 hn_16 dX11_takePair_60 ?_
        refine lv_aload_n hx hb dX11_takePair_61 rfl (lv_at hl 1 rfl) ?_
        refine xget (ref := "AbsentPraiseModel") (T := TX11) (v := .int (S_9 127 22)) hC hP hin_X11 xo_X11 rfl 22 (by decide) (List.mem_of_getElem? (i := 2) rfl) rfl rfl dX11_takePair_62 ?_
        refine xcS_iR (As := [.int (S_9 k0 ((S_9 127 35)).toNatClampNeg), .int (S_9 127 22)]) (rest := []) hC hP hS (k_X11_has l X S_9 (S_9 k0 ((S_9 127 35)).toNatClampNeg) (S_9 127 22)) (va_cwS 2 hts gX11_takePair_X11_has rfl rfl rfl hs_X11_has ⟨Nat.le_of_ble_eq_true rfl, Nat.le_of_ble_eq_true rfl⟩) rfl rfl hl.1 (Nat.le_of_ble_eq_true rfl) dX11_takePair_65 (fun r_17 hp_r_17 H locs hP hS => ?_)
        obtain ⟨hr_17, hzr_17⟩ := hp_r_17
        refine lv_if_eq (tgt := 83) hx hb dX11_takePair_68 (by decide) (fun c_18 => ?_) (fun c_18 => ?_)
        · refine lv_iconst (v := 0) hx hb dX11_takePair_83 (by decide) ?_
          exact xret_iW hC hP hS hb hr (by simp only [f_X11_takePair, ← hr_2, ← hS_3, ← hS_6, ← hr_8, ← hS_9, ← hr_17, if_pos c_5, if_pos c_11, if_neg c_12, if_pos c_18]) dX11_takePair_84 hlocks
        · refine lv_aload_n hx hb dX11_takePair_71 rfl (lv_at hl 1 rfl) ?_
          refine lv_iconst (v := 4) hx hb dX11_takePair_72 (by decide) ?_
          refine lv_aload_n hx hb dX11_takePair_73 rfl (lv_at hl 1 rfl) ?_
          refine xget (ref := "AbsentPraiseModel") (T := TX11) (v := .int (S_9 127 23)) hC hP hin_X11 xo_X11 rfl 23 (by decide) (List.mem_of_getElem? (i := 4) rfl) rfl rfl dX11_takePair_74 ?_
          refine xcV_iW (b := 127) (As := [.int 4, .int (S_9 127 23)]) (rest := []) hC hP hS (k_X11_fails l X S_9 4 (S_9 127 23)) (cwV 2 hts gX11_takePair_X11_fails rfl rfl rfl hd_X11_fails ⟨Nat.le_of_ble_eq_true rfl, Nat.le_of_ble_eq_true rfl⟩) xo_X11 rfl rfl rfl hl.1 (Nat.le_of_ble_eq_true rfl) dX11_takePair_77 (fun r_19 S_20 hp_r_19 H locs hP hS => ?_)
          obtain ⟨hr_19, hS_20⟩ := hp_r_19
          refine lv_goto (tgt := 84) hx hb dX11_takePair_80 (by decide) ?_
          exact xret_iW hC hP hS hb hr (by simp only [f_X11_takePair, ← hr_2, ← hS_3, ← hS_6, ← hr_8, ← hS_9, ← hr_17, ← hr_19, ← hS_20, if_pos c_5, if_pos c_11, if_neg c_12, if_neg c_18]) dX11_takePair_84 hlocks
    · refine lv_iload_n hx hb dX11_takePair_42 rfl (lv_at hl 0 rfl) ?_
      exact xret_iW hC hP hS hb hr (by simp only [f_X11_takePair, ← hr_2, ← hS_3, ← hS_6, ← hr_8, ← hS_9, if_pos c_5, if_neg c_11]) dX11_takePair_43 hlocks
  · refine lv_iload_n hx hb dX11_takePair_16 rfl (lv_at hl 0 rfl) ?_
    exact xret_iW hC hP hS hb hr (by simp only [f_X11_takePair, ← hr_2, ← hS_3, if_neg c_5]) dX11_takePair_17 hlocks
theorem hd_X11_takeBench : yX11_takeBench.cls = RX11 ∧ yX11_takeBench.cls ≠ "java/lang/invoke/MethodHandle" ∧ yX11_takeBench.cls ≠ "java/lang/invoke/VarHandle" ∧ (parseMethodDescriptor yX11_takeBench.desc).map (fun d => d.parameters.length) = some 0 := by decide +kernel
set_option maxHeartbeats 4000000 in
set_option maxRecDepth 100000 in
theorem k_X11_takeBench (l : Launch) (X : xX) (S : xS) (hs : s_X11_takeBench S) : Met l yX11_takeBench wsX11_takeBench ({ frames := 3, cells := 0, slots := 0, locals := 70 } : Room) (va_Pc [.ref (X.2.1 127)] (xI X S)) (va_Qi (fun (r : Int32) (u : xS) => r = (f_X11_takeBench S).1 ∧ u = (f_X11_takeBench S).2) (xI X) (xA X)) 0 0 (xA X) := by
  refine Met.ofW (cc := cX11_takeBench) (maxL := 2) (ret := (some .int)) (by decide +kernel) rfl ?_
  intro p e s m args below meth c s₁ B hml hv
  obtain ⟨rfl, hP, hK, hN, hJ⟩ := hv
  have hx := B.exec
  have hb := B.bytes
  have hr := B.returns
  have hts := atoms_spec (ws := wsX11_takeBench) B.pre
  have hown : s.vm.findClass RX11 = some m.cls := findClass_of_methodNamed B.named
  have hlocks := B.notSynchronized
  have hC : xC X p m c cX11_takeBench 2 s _ wsX11_takeBench RX11 := ⟨⟨hx, hb, hml, hown, hts⟩, hK, hN, hJ⟩
  have hS : va_S (xA X) s.heap s.heap [] := va_S.rf
  have hin_X11 : ∀ w ∈ u_ws RX11 TX11 41, w ∈ wsX11_takeBench := by decide +kernel
  have hl := lv_entry ([.ref (X.2.1 127)]) (n := 2) (Nat.le_of_ble_eq_true rfl)
  rw [lg_entry_eq]
  generalize (lg_sl ([.ref (X.2.1 127)]) ++ List.replicate (2 - (lg_sl ([.ref (X.2.1 127)])).length) Slot.unset).toArray = ls at hl ⊢
  have hl : lv_has ls 2 [(0, .ref (X.2.1 127))] := hl
  refine lv_aload_n hx hb dX11_takeBench_0 rfl (lv_at hl 0 rfl) ?_
  refine lv_aload_n hx hb dX11_takeBench_1 rfl (lv_at hl 0 rfl) ?_
  refine xget (ref := "AbsentPraiseModel") (T := TX11) (v := .ref (X.2.1 139)) hC hP hin_X11 xo_X11 rfl 28 (by decide) (List.mem_of_getElem? (i := 1) rfl) rfl rfl dX11_takeBench_2 ?_
  have hn_1 : s_X11_takePair S 139 := (nl hs)
  refine xcV_iW (b := 127) (As := [.ref (X.2.1 139)]) (rest := []) hC hP hS (k_X11_takePair l X S 139 rfl hn_1) (cwV 1 hts gX11_takeBench_X11_takePair rfl rfl rfl hd_X11_takePair ⟨Nat.le_of_ble_eq_true rfl, Nat.le_of_ble_eq_true rfl⟩) xo_X11 rfl rfl rfl hl.1 (Nat.le_of_ble_eq_true rfl) dX11_takeBench_5 (fun r_2 S_3 hp_r_2 H locs hP hS => ?_)
  obtain ⟨hr_2, hS_3⟩ := hp_r_2
  refine lv_istore_n (lv' := [(1, .int r_2), (0, .ref (X.2.1 127))]) hx hb dX11_takeBench_8 rfl hl (by decide) rfl (fun ls hl => ?_)
  refine lv_iload_n hx hb dX11_takeBench_9 rfl (lv_at hl 0 rfl) ?_
  refine lv_if_ne (tgt := 41) hx hb dX11_takeBench_10 (by decide) (fun c_5 => ?_) (fun c_5 => ?_)
  · refine lv_iload_n hx hb dX11_takeBench_41 rfl (lv_at hl 0 rfl) ?_
    exact xret_iW hC hP hS hb hr (by simp only [f_X11_takeBench, ← hr_2, ← hS_3, if_neg c_5]) dX11_takeBench_42 hlocks
  · refine lv_aload_n hx hb dX11_takeBench_13 rfl (lv_at hl 1 rfl) ?_
    refine xget (ref := "AbsentPraiseModel") (T := TX11) (v := .ref (X.2.1 139)) hC hP hin_X11 xo_X11 rfl 28 (by decide) (List.mem_of_getElem? (i := 1) rfl) rfl rfl dX11_takeBench_14 ?_
    refine lv_aload_n hx hb dX11_takeBench_17 rfl (lv_at hl 1 rfl) ?_
    refine xget (ref := "AbsentPraiseModel") (T := TX11) (v := .int (S_3 127 35)) hC hP hin_X11 xo_X11 rfl 35 (by decide) (List.mem_of_getElem? (i := 2) rfl) rfl rfl dX11_takeBench_18 ?_
    refine lv_dup2_11 hx hb dX11_takeBench_21 rfl rfl ?_
    have hn_6 : vp_in (S_3 127 35) 6 := (by have hr_2 := hr_2.symm; have hS_3 := hS_3.symm; subst hr_2 hS_3; exact nl (sp (nr hs) c_5))
    refine xiald hC hP rfl hn_6 dX11_takeBench_22 ?_
    refine lv_iconst (v := 1) hx hb dX11_takeBench_23 (by decide) ?_
    refine lv_aload_n hx hb dX11_takeBench_24 rfl (lv_at hl 1 rfl) ?_
    refine xget (ref := "AbsentPraiseModel") (T := TX11) (v := .int (S_3 127 22)) hC hP hin_X11 xo_X11 rfl 22 (by decide) (List.mem_of_getElem? (i := 3) rfl) rfl rfl dX11_takeBench_25 ?_
    refine lv_ishl hx hb dX11_takeBench_28 ?_
    refine lv_ior hx hb dX11_takeBench_29 ?_
    refine xiast hC hP hS rfl hn_6 dX11_takeBench_30 (fun S_7 hS_7 H locs hP hS => ?_)
    refine lv_aload_n hx hb dX11_takeBench_31 rfl (lv_at hl 1 rfl) ?_
    refine lv_dup hx hb dX11_takeBench_32 rfl ?_
    refine xget (ref := "AbsentPraiseModel") (T := TX11) (v := .int (S_7 127 26)) hC hP hin_X11 xo_X11 rfl 26 (by decide) (List.mem_of_getElem? (i := 4) rfl) rfl rfl dX11_takeBench_33 ?_
    refine lv_iconst (v := 1) hx hb dX11_takeBench_36 (by decide) ?_
    refine lv_iadd hx hb dX11_takeBench_37 ?_
    refine xput (ref := "AbsentPraiseModel") (T := TX11) (ty := .int) hC hP hS (by decide) hin_X11 tyX11 tyX11_ok nmX11 xo_X11 rfl 26 (by decide) (List.mem_of_getElem? (i := 4) rfl) rfl rfl rfl rfl rfl (Nat.le_of_ble_eq_true rfl) dX11_takeBench_38 rfl (fun S_8 hS_8 H locs hP hS => ?_)
    refine lv_iload_n hx hb dX11_takeBench_41 rfl (lv_at hl 0 rfl) ?_
    exact xret_iW hC hP hS hb hr (by simp only [f_X11_takeBench, ← hr_2, ← hS_3, ← hS_7, ← hS_8, if_pos c_5]) dX11_takeBench_42 hlocks
theorem hd_X11_takeWay : yX11_takeWay.cls = RX11 ∧ yX11_takeWay.cls ≠ "java/lang/invoke/MethodHandle" ∧ yX11_takeWay.cls ≠ "java/lang/invoke/VarHandle" ∧ (parseMethodDescriptor yX11_takeWay.desc).map (fun d => d.parameters.length) = some 0 := by decide +kernel
set_option maxHeartbeats 4000000 in
set_option maxRecDepth 100000 in
theorem k_X11_takeWay (l : Launch) (X : xX) (S : xS) (hs : s_X11_takeWay S) : Met l yX11_takeWay wsX11_takeWay ({ frames := 3, cells := 0, slots := 0, locals := 70 } : Room) (va_Pc [.ref (X.2.1 127)] (xI X S)) (va_Qi (fun (r : Int32) (u : xS) => r = (f_X11_takeWay S).1 ∧ u = (f_X11_takeWay S).2) (xI X) (xA X)) 0 0 (xA X) := by
  refine Met.ofW (cc := cX11_takeWay) (maxL := 2) (ret := (some .int)) (by decide +kernel) rfl ?_
  intro p e s m args below meth c s₁ B hml hv
  obtain ⟨rfl, hP, hK, hN, hJ⟩ := hv
  have hx := B.exec
  have hb := B.bytes
  have hr := B.returns
  have hts := atoms_spec (ws := wsX11_takeWay) B.pre
  have hown : s.vm.findClass RX11 = some m.cls := findClass_of_methodNamed B.named
  have hlocks := B.notSynchronized
  have hC : xC X p m c cX11_takeWay 2 s _ wsX11_takeWay RX11 := ⟨⟨hx, hb, hml, hown, hts⟩, hK, hN, hJ⟩
  have hS : va_S (xA X) s.heap s.heap [] := va_S.rf
  have hin_X11 : ∀ w ∈ u_ws RX11 TX11 41, w ∈ wsX11_takeWay := by decide +kernel
  have hl := lv_entry ([.ref (X.2.1 127)]) (n := 2) (Nat.le_of_ble_eq_true rfl)
  rw [lg_entry_eq]
  generalize (lg_sl ([.ref (X.2.1 127)]) ++ List.replicate (2 - (lg_sl ([.ref (X.2.1 127)])).length) Slot.unset).toArray = ls at hl ⊢
  have hl : lv_has ls 2 [(0, .ref (X.2.1 127))] := hl
  refine lv_aload_n hx hb dX11_takeWay_0 rfl (lv_at hl 0 rfl) ?_
  refine lv_aload_n hx hb dX11_takeWay_1 rfl (lv_at hl 0 rfl) ?_
  refine xget (ref := "AbsentPraiseModel") (T := TX11) (v := .ref (X.2.1 140)) hC hP hin_X11 xo_X11 rfl 29 (by decide) (List.mem_of_getElem? (i := 1) rfl) rfl rfl dX11_takeWay_2 ?_
  have hn_1 : s_X11_takePair S 140 := (nl hs)
  refine xcV_iW (b := 127) (As := [.ref (X.2.1 140)]) (rest := []) hC hP hS (k_X11_takePair l X S 140 rfl hn_1) (cwV 1 hts gX11_takeWay_X11_takePair rfl rfl rfl hd_X11_takePair ⟨Nat.le_of_ble_eq_true rfl, Nat.le_of_ble_eq_true rfl⟩) xo_X11 rfl rfl rfl hl.1 (Nat.le_of_ble_eq_true rfl) dX11_takeWay_5 (fun r_2 S_3 hp_r_2 H locs hP hS => ?_)
  obtain ⟨hr_2, hS_3⟩ := hp_r_2
  refine lv_istore_n (lv' := [(1, .int r_2), (0, .ref (X.2.1 127))]) hx hb dX11_takeWay_8 rfl hl (by decide) rfl (fun ls hl => ?_)
  refine lv_iload_n hx hb dX11_takeWay_9 rfl (lv_at hl 0 rfl) ?_
  refine lv_if_ne (tgt := 59) hx hb dX11_takeWay_10 (by decide) (fun c_5 => ?_) (fun c_5 => ?_)
  · refine lv_iload_n hx hb dX11_takeWay_59 rfl (lv_at hl 0 rfl) ?_
    exact xret_iW hC hP hS hb hr (by simp only [f_X11_takeWay, ← hr_2, ← hS_3, if_neg c_5]) dX11_takeWay_60 hlocks
  · refine lv_aload_n hx hb dX11_takeWay_13 rfl (lv_at hl 1 rfl) ?_
    refine xget (ref := "AbsentPraiseModel") (T := TX11) (v := .ref (X.2.1 140)) hC hP hin_X11 xo_X11 rfl 29 (by decide) (List.mem_of_getElem? (i := 1) rfl) rfl rfl dX11_takeWay_14 ?_
    refine lv_aload_n hx hb dX11_takeWay_17 rfl (lv_at hl 1 rfl) ?_
    refine xget (ref := "AbsentPraiseModel") (T := TX11) (v := .int (S_3 127 35)) hC hP hin_X11 xo_X11 rfl 35 (by decide) (List.mem_of_getElem? (i := 2) rfl) rfl rfl dX11_takeWay_18 ?_
    refine lv_dup2_11 hx hb dX11_takeWay_21 rfl rfl ?_
    have hn_6 : vp_in (S_3 127 35) 6 := (by have hr_2 := hr_2.symm; have hS_3 := hS_3.symm; subst hr_2 hS_3; exact nl (sp (nr hs) c_5))
    refine xiald hC hP rfl hn_6 dX11_takeWay_22 ?_
    refine lv_iconst (v := 1) hx hb dX11_takeWay_23 (by decide) ?_
    refine lv_aload_n hx hb dX11_takeWay_24 rfl (lv_at hl 1 rfl) ?_
    refine xget (ref := "AbsentPraiseModel") (T := TX11) (v := .int (S_3 127 22)) hC hP hin_X11 xo_X11 rfl 22 (by decide) (List.mem_of_getElem? (i := 3) rfl) rfl rfl dX11_takeWay_25 ?_
    refine lv_ishl hx hb dX11_takeWay_28 ?_
    refine lv_ior hx hb dX11_takeWay_29 ?_
    refine xiast hC hP hS rfl hn_6 dX11_takeWay_30 (fun S_7 hS_7 H locs hP hS => ?_)
    refine lv_aload_n hx hb dX11_takeWay_31 rfl (lv_at hl 1 rfl) ?_
    refine xget (ref := "AbsentPraiseModel") (T := TX11) (v := .ref (X.2.1 140)) hC hP hin_X11 xo_X11 rfl 29 (by decide) (List.mem_of_getElem? (i := 1) rfl) rfl rfl dX11_takeWay_32 ?_
    refine lv_aload_n hx hb dX11_takeWay_35 rfl (lv_at hl 1 rfl) ?_
    refine xget (ref := "AbsentPraiseModel") (T := TX11) (v := .int (S_7 127 22)) hC hP hin_X11 xo_X11 rfl 22 (by decide) (List.mem_of_getElem? (i := 3) rfl) rfl rfl dX11_takeWay_36 ?_
    refine lv_dup2_11 hx hb dX11_takeWay_39 rfl rfl ?_
    have hn_8 : vp_in (S_7 127 22) 6 := (by have hr_2 := hr_2.symm; have hS_3 := hS_3.symm; have hS_7 := hS_7.symm; subst hr_2 hS_3 hS_7; exact nl (nr (sp (nr hs) c_5)))
    refine xiald hC hP rfl hn_8 dX11_takeWay_40 ?_
    refine lv_iconst (v := 1) hx hb dX11_takeWay_41 (by decide) ?_
    refine lv_aload_n hx hb dX11_takeWay_42 rfl (lv_at hl 1 rfl) ?_
    refine xget (ref := "AbsentPraiseModel") (T := TX11) (v := .int (S_7 127 35)) hC hP hin_X11 xo_X11 rfl 35 (by decide) (List.mem_of_getElem? (i := 2) rfl) rfl rfl dX11_takeWay_43 ?_
    refine lv_ishl hx hb dX11_takeWay_46 ?_
    refine lv_ior hx hb dX11_takeWay_47 ?_
    refine xiast hC hP hS rfl hn_8 dX11_takeWay_48 (fun S_9 hS_9 H locs hP hS => ?_)
    refine lv_aload_n hx hb dX11_takeWay_49 rfl (lv_at hl 1 rfl) ?_
    refine lv_dup hx hb dX11_takeWay_50 rfl ?_
    refine xget (ref := "AbsentPraiseModel") (T := TX11) (v := .int (S_9 127 27)) hC hP hin_X11 xo_X11 rfl 27 (by decide) (List.mem_of_getElem? (i := 4) rfl) rfl rfl dX11_takeWay_51 ?_
    refine lv_iconst (v := 1) hx hb dX11_takeWay_54 (by decide) ?_
    refine lv_iadd hx hb dX11_takeWay_55 ?_
    refine xput (ref := "AbsentPraiseModel") (T := TX11) (ty := .int) hC hP hS (by decide) hin_X11 tyX11 tyX11_ok nmX11 xo_X11 rfl 27 (by decide) (List.mem_of_getElem? (i := 4) rfl) rfl rfl rfl rfl rfl (Nat.le_of_ble_eq_true rfl) dX11_takeWay_56 rfl (fun S_10 hS_10 H locs hP hS => ?_)
    refine lv_iload_n hx hb dX11_takeWay_59 rfl (lv_at hl 0 rfl) ?_
    exact xret_iW hC hP hS hb hr (by simp only [f_X11_takeWay, ← hr_2, ← hS_3, ← hS_7, ← hS_9, ← hS_10, if_pos c_5]) dX11_takeWay_60 hlocks
