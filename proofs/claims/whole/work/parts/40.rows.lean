set_option linter.all false
/-! contracts: X11_leavers, X11_silent, X11_knowThen, X11_carried -/
theorem hd_X11_leavers : yX11_leavers.cls = RX11 ∧ yX11_leavers.cls ≠ "java/lang/invoke/MethodHandle" ∧ yX11_leavers.cls ≠ "java/lang/invoke/VarHandle" ∧ (parseMethodDescriptor yX11_leavers.desc).map (fun d => d.parameters.length) = some 2 := by decide +kernel
set_option maxHeartbeats 4000000 in
set_option maxRecDepth 100000 in
theorem k_X11_leavers (l : Launch) (X : xX) (S : xS) (p0 : Int32) (p1 : Int32) (hs : s_X11_leavers S p0 p1) : Met l yX11_leavers wsX11_leavers ({ frames := 4, cells := 0, slots := 0, locals := 92 } : Room) (va_Pc [.ref (X.2.1 127), .int p0, .int p1] (xI X S)) (va_Qi (fun (r : Int32) (u : xS) => r = (f_X11_leavers S p0 p1).1 ∧ u = (f_X11_leavers S p0 p1).2) (xI X) (xA X)) 0 0 (xA X) := by
  refine Met.ofW (cc := cX11_leavers) (maxL := 8) (ret := (some .int)) (by decide +kernel) rfl ?_
  intro p e s m args below meth c s₁ B hml hv
  obtain ⟨rfl, hP, hK, hN, hJ⟩ := hv
  have hx := B.exec
  have hb := B.bytes
  have hr := B.returns
  have hts := atoms_spec (ws := wsX11_leavers) B.pre
  have hown : s.vm.findClass RX11 = some m.cls := findClass_of_methodNamed B.named
  have hlocks := B.notSynchronized
  have hC : xC X p m c cX11_leavers 8 s _ wsX11_leavers RX11 := ⟨⟨hx, hb, hml, hown, hts⟩, hK, hN, hJ⟩
  have hS : va_S (xA X) s.heap s.heap [] := va_S.rf
  have hin_X11 : ∀ w ∈ u_ws RX11 TX11 41, w ∈ wsX11_leavers := by decide +kernel
  have hl := lv_entry ([.ref (X.2.1 127), .int p0, .int p1]) (n := 8) (Nat.le_of_ble_eq_true rfl)
  rw [lg_entry_eq]
  generalize (lg_sl ([.ref (X.2.1 127), .int p0, .int p1]) ++ List.replicate (8 - (lg_sl ([.ref (X.2.1 127), .int p0, .int p1])).length) Slot.unset).toArray = ls at hl ⊢
  have hl : lv_has ls 8 [(0, .ref (X.2.1 127)), (1, .int p0), (2, .int p1)] := hl
  refine lv_aload_n hx hb dX11_leavers_0 rfl (lv_at hl 0 rfl) ?_
  refine lv_iload_n hx hb dX11_leavers_1 rfl (lv_at hl 1 rfl) ?_
  refine xcV_iR (b := 127) (As := [.int p0]) (rest := []) hC hP hS (k_X11_isRoom l X S p0) (cwV 1 hts gX11_leavers_X11_isRoom rfl rfl rfl hd_X11_isRoom ⟨Nat.le_of_ble_eq_true rfl, Nat.le_of_ble_eq_true rfl⟩) xo_X11 rfl rfl rfl hl.1 (Nat.le_of_ble_eq_true rfl) dX11_leavers_2 (fun r_1 hp_r_1 H locs hP hS => ?_)
  obtain ⟨hr_1, hzr_1⟩ := hp_r_1
  refine lv_if_ne (tgt := 11) hx hb dX11_leavers_5 (by decide) (fun c_2 => ?_) (fun c_2 => ?_)
  · refine lv_iload_n hx hb dX11_leavers_11 rfl (lv_at hl 2 rfl) ?_
    refine lv_i2l (v := (p1 : Int32).toInt64) hx hb dX11_leavers_12 rfl ?_
    refine lv_lconst (v := 0) hx hb dX11_leavers_13 (by decide) ?_
    refine lv_lconst (v := 1) hx hb dX11_leavers_14 (by decide) ?_
    refine xcS_iR (As := [.long (p1 : Int32).toInt64, .long 0, .long 1]) (rest := []) hC hP hS (k_X11_in l X S (p1 : Int32).toInt64 0 1) (va_cwS 3 hts gX11_leavers_X11_in rfl rfl rfl hs_X11_in ⟨Nat.le_of_ble_eq_true rfl, Nat.le_of_ble_eq_true rfl⟩) rfl rfl hl.1 (Nat.le_of_ble_eq_true rfl) dX11_leavers_15 (fun r_3 hp_r_3 H locs hP hS => ?_)
    obtain ⟨hr_3, hzr_3⟩ := hp_r_3
    refine lv_if_ne (tgt := 24) hx hb dX11_leavers_18 (by decide) (fun c_4 => ?_) (fun c_4 => ?_)
    · refine lv_iconst (v := 0) hx hb dX11_leavers_24 (by decide) ?_
      refine lv_istore_n (lv' := [(3, .int 0), (0, .ref (X.2.1 127)), (1, .int p0), (2, .int p1)]) hx hb dX11_leavers_25 rfl hl (by decide) rfl (fun ls hl => ?_)
      refine lv_ldc (v := (-1000000)) hx hb hown (hts (.constant RX11 214 (-1000000)) (List.mem_of_getElem? (i := 3) rfl)) dX11_leavers_26 ?_
      refine lv_istore (lv' := [(4, .int (-1000000)), (3, .int 0), (0, .ref (X.2.1 127)), (1, .int p0), (2, .int p1)]) hx hb dX11_leavers_28 hl (by decide) rfl (fun ls hl => ?_)
      refine lv_iconst (v := 0) hx hb dX11_leavers_30 (by decide) ?_
      refine lv_istore (lv' := [(5, .int 0), (4, .int (-1000000)), (3, .int 0), (0, .ref (X.2.1 127)), (1, .int p0), (2, .int p1)]) hx hb dX11_leavers_31 hl (by decide) rfl (fun ls hl => ?_)
      have hLp_33 : ∀ (n : Nat) (T_33 : xS) (x1_33 : Int32) (x2_33 : Int32) (x3_33 : Int32) (x4_33 : Int32) (x5_33 : Int32), s_X11_leavers_L33 n T_33 x1_33 x2_33 x3_33 x4_33 x5_33 → (∀ q : Int32 × Int32 × xS, q = f_X11_leavers_L33 n T_33 x1_33 x2_33 x3_33 x4_33 x5_33 → (∀ (H : Heap) (locs : List Loc), va_P X.1 vwCl (xW X q.2.2) H → va_S (xA X) s.heap H locs → ∀ (ls : Array Slot), lv_has ls 8 [(2, .int x2_33), (3, .int q.1), (4, .int q.2.1)] → W p l e ({ frames := 4, cells := 0, slots := 0, locals := 92 } : Room) s m ([.ref (X.2.1 127), .int p0, .int p1] : List Value).toArray below meth c H locs 0 0 (MQ below (va_Qi (fun (r : Int32) (u : xS) => r = (f_X11_leavers S p0 p1).1 ∧ u = (f_X11_leavers S p0 p1).2) (xI X) (xA X)) ([.ref (X.2.1 127), .int p0, .int p1] : List Value).toArray s 0 0 (xA X)) (F0 m 173 ls []))) → ∀ (H : Heap) (locs : List Loc), va_P X.1 vwCl (xW X T_33) H → va_S (xA X) s.heap H locs → ∀ (ls : Array Slot), lv_has ls 8 [(0, .ref (X.2.1 127)), (1, .int x1_33), (2, .int x2_33), (3, .int x3_33), (4, .int x4_33), (5, .int x5_33)] → W p l e ({ frames := 4, cells := 0, slots := 0, locals := 92 } : Room) s m ([.ref (X.2.1 127), .int p0, .int p1] : List Value).toArray below meth c H locs 0 0 (MQ below (va_Qi (fun (r : Int32) (u : xS) => r = (f_X11_leavers S p0 p1).1 ∧ u = (f_X11_leavers S p0 p1).2) (xI X) (xA X)) ([.ref (X.2.1 127), .int p0, .int p1] : List Value).toArray s 0 0 (xA X)) (F0 m 33 ls []) := by
        intro n
        induction n with
        | zero => intro T_33 x1_33 x2_33 x3_33 x4_33 x5_33 hs; exact hs.elim
        | succ n ih_33 =>
          intro T_33 x1_33 x2_33 x3_33 x4_33 x5_33 hs_33 hex_33 H locs hP hS ls hl
          refine lv_iload hx hb dX11_leavers_33 (lv_at hl 5 rfl) ?_
          refine lv_iconst (v := 1) hx hb dX11_leavers_35 (by decide) ?_
          refine lv_aload_n hx hb dX11_leavers_36 rfl (lv_at hl 0 rfl) ?_
          refine xget (ref := "AbsentPraiseModel") (T := TX11) (v := .int (T_33 127 6)) hC hP hin_X11 xo_X11 rfl 6 (by decide) (List.mem_of_getElem? (i := 4) rfl) rfl rfl dX11_leavers_37 ?_
          refine lv_ishl hx hb dX11_leavers_40 ?_
          refine lv_icmp_ge (tgt := 173) hx hb dX11_leavers_41 (by decide) (fun c_5 => ?_) (fun c_5 => ?_)
          · have he_6 : f_X11_leavers_L33 (n + 1) T_33 x1_33 x2_33 x3_33 x4_33 x5_33 = (x3_33, x4_33, T_33) := ((ip c_5 rfl))
            exact hex_33 _ he_6.symm _ _ hP hS ls (lv_sub hl [2, 3, 4] rfl)
          · refine lv_aload_n hx hb dX11_leavers_44 rfl (lv_at hl 0 rfl) ?_
            have hn_7 : s_X11_tries T_33 := (nl (sn hs_33 c_5))
            refine xcV_vW (b := 127) (As := []) (rest := []) hC hP hS (k_X11_tries l X T_33 hn_7) (cwV 0 hts gX11_leavers_X11_tries rfl rfl rfl hd_X11_tries ⟨Nat.le_of_ble_eq_true rfl, Nat.le_of_ble_eq_true rfl⟩) xo_X11 rfl rfl rfl hl.1 (Nat.le_of_ble_eq_true rfl) dX11_leavers_45 (fun S_8 hS_8 H locs hP hS => ?_)
            refine lv_iconst (v := 0) hx hb dX11_leavers_48 (by decide) ?_
            refine lv_istore (lv' := [(6, .int 0), (0, .ref (X.2.1 127)), (1, .int x1_33), (2, .int x2_33), (3, .int x3_33), (4, .int x4_33), (5, .int x5_33)]) hx hb dX11_leavers_49 hl (by decide) rfl (fun ls hl => ?_)
            have hLp_51 : ∀ (n : Nat) (T_51 : xS) (x1_51 : Int32) (x2_51 : Int32) (x3_51 : Int32) (x4_51 : Int32) (x5_51 : Int32) (x6_51 : Int32), s_X11_leavers_L51 n T_51 x1_51 x2_51 x3_51 x4_51 x5_51 x6_51 → (∀ q : xS, q = f_X11_leavers_L51 n T_51 x1_51 x2_51 x3_51 x4_51 x5_51 x6_51 → (∀ (H : Heap) (locs : List Loc), va_P X.1 vwCl (xW X q) H → va_S (xA X) s.heap H locs → ∀ (ls : Array Slot), lv_has ls 8 [(0, .ref (X.2.1 127)), (1, .int x1_51), (2, .int x2_51), (3, .int x3_51), (4, .int x4_51), (5, .int x5_51)] → W p l e ({ frames := 4, cells := 0, slots := 0, locals := 92 } : Room) s m ([.ref (X.2.1 127), .int p0, .int p1] : List Value).toArray below meth c H locs 0 0 (MQ below (va_Qi (fun (r : Int32) (u : xS) => r = (f_X11_leavers S p0 p1).1 ∧ u = (f_X11_leavers S p0 p1).2) (xI X) (xA X)) ([.ref (X.2.1 127), .int p0, .int p1] : List Value).toArray s 0 0 (xA X)) (F0 m 98 ls []))) → ∀ (H : Heap) (locs : List Loc), va_P X.1 vwCl (xW X T_51) H → va_S (xA X) s.heap H locs → ∀ (ls : Array Slot), lv_has ls 8 [(0, .ref (X.2.1 127)), (1, .int x1_51), (2, .int x2_51), (3, .int x3_51), (4, .int x4_51), (5, .int x5_51), (6, .int x6_51)] → W p l e ({ frames := 4, cells := 0, slots := 0, locals := 92 } : Room) s m ([.ref (X.2.1 127), .int p0, .int p1] : List Value).toArray below meth c H locs 0 0 (MQ below (va_Qi (fun (r : Int32) (u : xS) => r = (f_X11_leavers S p0 p1).1 ∧ u = (f_X11_leavers S p0 p1).2) (xI X) (xA X)) ([.ref (X.2.1 127), .int p0, .int p1] : List Value).toArray s 0 0 (xA X)) (F0 m 51 ls []) := by
              intro n
              induction n with
              | zero => intro T_51 x1_51 x2_51 x3_51 x4_51 x5_51 x6_51 hs; exact hs.elim
              | succ n ih_51 =>
                intro T_51 x1_51 x2_51 x3_51 x4_51 x5_51 x6_51 hs_51 hex_51 H locs hP hS ls hl
                refine lv_iload hx hb dX11_leavers_51 (lv_at hl 6 rfl) ?_
                refine lv_aload_n hx hb dX11_leavers_53 rfl (lv_at hl 0 rfl) ?_
                refine xget (ref := "AbsentPraiseModel") (T := TX11) (v := .int (T_51 127 6)) hC hP hin_X11 xo_X11 rfl 6 (by decide) (List.mem_of_getElem? (i := 4) rfl) rfl rfl dX11_leavers_54 ?_
                refine lv_icmp_ge (tgt := 98) hx hb dX11_leavers_57 (by decide) (fun c_9 => ?_) (fun c_9 => ?_)
                · have he_10 : f_X11_leavers_L51 (n + 1) T_51 x1_51 x2_51 x3_51 x4_51 x5_51 x6_51 = T_51 := ((ip c_9 rfl))
                  exact hex_51 _ he_10.symm _ _ hP hS ls (lv_sub hl [0, 1, 2, 3, 4, 5] rfl)
                · refine lv_aload_n hx hb dX11_leavers_60 rfl (lv_at hl 0 rfl) ?_
                  refine xget (ref := "AbsentPraiseModel") (T := TX11) (v := .ref (X.2.1 132)) hC hP hin_X11 xo_X11 rfl 9 (by decide) (List.mem_of_getElem? (i := 5) rfl) rfl rfl dX11_leavers_61 ?_
                  refine lv_iconst (v := 2) hx hb dX11_leavers_64 (by decide) ?_
                  refine lv_iload hx hb dX11_leavers_65 (lv_at hl 6 rfl) ?_
                  refine lv_iadd hx hb dX11_leavers_67 ?_
                  refine lv_iload hx hb dX11_leavers_68 (lv_at hl 5 rfl) ?_
                  refine lv_iload hx hb dX11_leavers_70 (lv_at hl 6 rfl) ?_
                  refine xcS_iR (As := [.int x5_51, .int x6_51]) (rest := [.int (2 + x6_51), .ref (X.2.1 132)]) hC hP hS (k_X11_has l X T_51 x5_51 x6_51) (va_cwS 2 hts gX11_leavers_X11_has rfl rfl rfl hs_X11_has ⟨Nat.le_of_ble_eq_true rfl, Nat.le_of_ble_eq_true rfl⟩) rfl rfl hl.1 (Nat.le_of_ble_eq_true rfl) dX11_leavers_72 (fun r_11 hp_r_11 H locs hP hS => ?_)
                  obtain ⟨hr_11, hzr_11⟩ := hp_r_11
                  refine lv_if_eq (tgt := 82) hx hb dX11_leavers_75 (by decide) (fun c_12 => ?_) (fun c_12 => ?_)
                  · refine lv_aload_n hx hb dX11_leavers_82 rfl (lv_at hl 0 rfl) ?_
                    refine xget (ref := "AbsentPraiseModel") (T := TX11) (v := .ref (X.2.1 131)) hC hP hin_X11 xo_X11 rfl 8 (by decide) (List.mem_of_getElem? (i := 6) rfl) rfl rfl dX11_leavers_83 ?_
                    refine lv_iconst (v := 2) hx hb dX11_leavers_86 (by decide) ?_
                    refine lv_iload hx hb dX11_leavers_87 (lv_at hl 6 rfl) ?_
                    refine lv_iadd hx hb dX11_leavers_89 ?_
                    have hn_13 : vp_in (2 + x6_51) 72 := (by have hr_11 := hr_11.symm; subst hr_11; exact nl (sp (sn hs_51 c_9) c_12))
                    refine xiald hC hP rfl hn_13 dX11_leavers_90 ?_
                    refine xiast hC hP hS rfl hn_13 dX11_leavers_91 (fun S_14 hS_14 H locs hP hS => ?_)
                    refine lv_iinc (v := (x6_51 + 1)) (lv' := [(6, .int (x6_51 + 1)), (0, .ref (X.2.1 127)), (1, .int x1_51), (2, .int x2_51), (3, .int x3_51), (4, .int x4_51), (5, .int x5_51)]) hx hb dX11_leavers_92 hl (k := 6) rfl rfl (by decide) rfl (fun ls hl => ?_)
                    refine lv_goto (tgt := 51) hx hb dX11_leavers_95 (by decide) ?_
                    have he_15 : f_X11_leavers_L51 (n + 1) T_51 x1_51 x2_51 x3_51 x4_51 x5_51 x6_51 = f_X11_leavers_L51 n S_14 x1_51 x2_51 x3_51 x4_51 x5_51 (x6_51 + 1) := (by have hr_11 := hr_11.symm; have hS_14 := hS_14.symm; subst hr_11 hS_14; exact (iN c_9 (ip c_12 rfl)))
                    exact ih_51 S_14 x1_51 x2_51 x3_51 x4_51 x5_51 (x6_51 + 1) (by have hr_11 := hr_11.symm; have hS_14 := hS_14.symm; subst hr_11 hS_14; exact (nr (sp (sn hs_51 c_9) c_12))) (fun q hq => hex_51 q (hq.trans he_15.symm)) _ _ hP hS ls (lv_sub hl [1, 2, 3, 4, 5, 6, 0] rfl)
                  · refine lv_iload_n hx hb dX11_leavers_78 rfl (lv_at hl 1 rfl) ?_
                    refine lv_goto (tgt := 91) hx hb dX11_leavers_79 (by decide) ?_
                    have hn_16 : vp_in (2 + x6_51) 72 := (by have hr_11 := hr_11.symm; subst hr_11; exact nl (sn (sn hs_51 c_9) c_12))
                    refine xiast hC hP hS rfl hn_16 dX11_leavers_91 (fun S_17 hS_17 H locs hP hS => ?_)
                    refine lv_iinc (v := (x6_51 + 1)) (lv' := [(6, .int (x6_51 + 1)), (0, .ref (X.2.1 127)), (1, .int x1_51), (2, .int x2_51), (3, .int x3_51), (4, .int x4_51), (5, .int x5_51)]) hx hb dX11_leavers_92 hl (k := 6) rfl rfl (by decide) rfl (fun ls hl => ?_)
                    refine lv_goto (tgt := 51) hx hb dX11_leavers_95 (by decide) ?_
                    have he_18 : f_X11_leavers_L51 (n + 1) T_51 x1_51 x2_51 x3_51 x4_51 x5_51 x6_51 = f_X11_leavers_L51 n S_17 x1_51 x2_51 x3_51 x4_51 x5_51 (x6_51 + 1) := (by have hr_11 := hr_11.symm; have hS_17 := hS_17.symm; subst hr_11 hS_17; exact (iN c_9 (iN c_12 rfl)))
                    exact ih_51 S_17 x1_51 x2_51 x3_51 x4_51 x5_51 (x6_51 + 1) (by have hr_11 := hr_11.symm; have hS_17 := hS_17.symm; subst hr_11 hS_17; exact (nr (sn (sn hs_51 c_9) c_12))) (fun q hq => hex_51 q (hq.trans he_18.symm)) _ _ hP hS ls (lv_sub hl [1, 2, 3, 4, 5, 6, 0] rfl)
            refine hLp_51 ((fu 0 (S_8 127 6))) S_8 x1_33 x2_33 x3_33 x4_33 x5_33 0 (by have hS_8 := hS_8.symm; subst hS_8; exact nl (nr (sn hs_33 c_5))) (fun q_51 hq_51 H locs hP hS ls hl => ?_) _ _ hP hS ls (lv_sub hl [1, 2, 3, 4, 5, 6, 0] rfl)
            refine lv_aload_n hx hb dX11_leavers_98 rfl (lv_at hl 0 rfl) ?_
            refine lv_aload_n hx hb dX11_leavers_99 rfl (lv_at hl 0 rfl) ?_
            refine xget (ref := "AbsentPraiseModel") (T := TX11) (v := .ref (X.2.1 132)) hC hP hin_X11 xo_X11 rfl 9 (by decide) (List.mem_of_getElem? (i := 5) rfl) rfl rfl dX11_leavers_100 ?_
            have hn_19 : s_X11_saidAll q_51 132 := (by have hS_8 := hS_8.symm; have hq_51 := hq_51.symm; subst hS_8 hq_51; exact nl (nr (nr (sn hs_33 c_5))))
            refine xcV_iR (b := 127) (As := [.ref (X.2.1 132)]) (rest := []) hC hP hS (k_X11_saidAll l X q_51 132 rfl hn_19) (cwV 1 hts gX11_leavers_X11_saidAll rfl rfl rfl hd_X11_saidAll ⟨Nat.le_of_ble_eq_true rfl, Nat.le_of_ble_eq_true rfl⟩) xo_X11 rfl rfl rfl hl.1 (Nat.le_of_ble_eq_true rfl) dX11_leavers_103 (fun r_20 hr_20 H locs hP hS => ?_)
            refine lv_istore (lv' := [(6, .int r_20), (0, .ref (X.2.1 127)), (1, .int x1_33), (2, .int x2_33), (3, .int x3_33), (4, .int x4_33), (5, .int x5_33)]) hx hb dX11_leavers_106 hl (by decide) rfl (fun ls hl => ?_)
            refine lv_iload hx hb dX11_leavers_108 (lv_at hl 0 rfl) ?_
            refine lv_iload hx hb dX11_leavers_110 (lv_at hl 5 rfl) ?_
            refine lv_icmp_gt (tgt := 134) hx hb dX11_leavers_112 (by decide) (fun c_21 => ?_) (fun c_21 => ?_)
            · refine lv_iconst (v := 1) hx hb dX11_leavers_134 (by decide) ?_
              refine lv_goto (tgt := 139) hx hb dX11_leavers_135 (by decide) ?_
              refine lv_istore (lv' := [(7, .int 1), (6, .int r_20), (0, .ref (X.2.1 127)), (1, .int x1_33), (2, .int x2_33), (3, .int x3_33), (4, .int x4_33), (5, .int x5_33)]) hx hb dX11_leavers_139 hl (by decide) rfl (fun ls hl => ?_)
              refine lv_iload hx hb dX11_leavers_141 (lv_at hl 0 rfl) ?_
              refine lv_if_eq (tgt := 151) hx hb dX11_leavers_143 (by decide) (fun c => absurd c (by decide)) (fun _ => ?_)
              refine lv_iload hx hb dX11_leavers_146 (lv_at hl 7 rfl) ?_
              refine lv_goto (tgt := 152) hx hb dX11_leavers_148 (by decide) ?_
              refine lv_istore_n (lv' := [(3, .int x5_33), (7, .int 1), (6, .int r_20), (0, .ref (X.2.1 127)), (1, .int x1_33), (2, .int x2_33), (4, .int x4_33), (5, .int x5_33)]) hx hb dX11_leavers_152 rfl hl (by decide) rfl (fun ls hl => ?_)
              refine lv_iload hx hb dX11_leavers_153 (lv_at hl 1 rfl) ?_
              refine lv_if_eq (tgt := 163) hx hb dX11_leavers_155 (by decide) (fun c => absurd c (by decide)) (fun _ => ?_)
              refine lv_iload hx hb dX11_leavers_158 (lv_at hl 2 rfl) ?_
              refine lv_goto (tgt := 165) hx hb dX11_leavers_160 (by decide) ?_
              refine lv_istore (lv' := [(4, .int r_20), (3, .int x5_33), (7, .int 1), (6, .int r_20), (0, .ref (X.2.1 127)), (1, .int x1_33), (2, .int x2_33), (5, .int x5_33)]) hx hb dX11_leavers_165 hl (by decide) rfl (fun ls hl => ?_)
              refine lv_iinc (v := (x5_33 + 1)) (lv' := [(5, .int (x5_33 + 1)), (4, .int r_20), (3, .int x5_33), (7, .int 1), (6, .int r_20), (0, .ref (X.2.1 127)), (1, .int x1_33), (2, .int x2_33)]) hx hb dX11_leavers_167 hl (k := 7) rfl rfl (by decide) rfl (fun ls hl => ?_)
              refine lv_goto (tgt := 33) hx hb dX11_leavers_170 (by decide) ?_
              have he_22 : f_X11_leavers_L33 (n + 1) T_33 x1_33 x2_33 x3_33 x4_33 x5_33 = f_X11_leavers_L33 n q_51 x1_33 x2_33 x5_33 r_20 (x5_33 + 1) := (by have hS_8 := hS_8.symm; have hq_51 := hq_51.symm; have hr_20 := hr_20.symm; subst hS_8 hq_51 hr_20; exact (iN c_5 (ip c_21 rfl)))
              exact ih_33 q_51 x1_33 x2_33 x5_33 r_20 (x5_33 + 1) (by have hS_8 := hS_8.symm; have hq_51 := hq_51.symm; have hr_20 := hr_20.symm; subst hS_8 hq_51 hr_20; exact (sp (nr (nr (nr (sn hs_33 c_5)))) c_21)) (fun q hq => hex_33 q (hq.trans he_22.symm)) _ _ hP hS ls (lv_sub hl [5, 6, 7, 2, 1, 0] rfl)
            · refine lv_iload hx hb dX11_leavers_115 (lv_at hl 0 rfl) ?_
              refine lv_iload hx hb dX11_leavers_117 (lv_at hl 5 rfl) ?_
              refine lv_icmp_ne (tgt := 138) hx hb dX11_leavers_119 (by decide) (fun c_23 => ?_) (fun c_23 => ?_)
              · refine lv_iconst (v := 0) hx hb dX11_leavers_138 (by decide) ?_
                refine lv_istore (lv' := [(7, .int 0), (6, .int r_20), (0, .ref (X.2.1 127)), (1, .int x1_33), (2, .int x2_33), (3, .int x3_33), (4, .int x4_33), (5, .int x5_33)]) hx hb dX11_leavers_139 hl (by decide) rfl (fun ls hl => ?_)
                refine lv_iload hx hb dX11_leavers_141 (lv_at hl 0 rfl) ?_
                refine lv_if_eq (tgt := 151) hx hb dX11_leavers_143 (by decide) (fun _ => ?_) (fun c => absurd c (by decide))
                refine lv_iload_n hx hb dX11_leavers_151 rfl (lv_at hl 5 rfl) ?_
                refine lv_istore_n (lv' := [(3, .int x3_33), (7, .int 0), (6, .int r_20), (0, .ref (X.2.1 127)), (1, .int x1_33), (2, .int x2_33), (4, .int x4_33), (5, .int x5_33)]) hx hb dX11_leavers_152 rfl hl (by decide) rfl (fun ls hl => ?_)
                refine lv_iload hx hb dX11_leavers_153 (lv_at hl 1 rfl) ?_
                refine lv_if_eq (tgt := 163) hx hb dX11_leavers_155 (by decide) (fun _ => ?_) (fun c => absurd c (by decide))
                refine lv_iload hx hb dX11_leavers_163 (lv_at hl 6 rfl) ?_
                refine lv_istore (lv' := [(4, .int x4_33), (3, .int x3_33), (7, .int 0), (6, .int r_20), (0, .ref (X.2.1 127)), (1, .int x1_33), (2, .int x2_33), (5, .int x5_33)]) hx hb dX11_leavers_165 hl (by decide) rfl (fun ls hl => ?_)
                refine lv_iinc (v := (x5_33 + 1)) (lv' := [(5, .int (x5_33 + 1)), (4, .int x4_33), (3, .int x3_33), (7, .int 0), (6, .int r_20), (0, .ref (X.2.1 127)), (1, .int x1_33), (2, .int x2_33)]) hx hb dX11_leavers_167 hl (k := 7) rfl rfl (by decide) rfl (fun ls hl => ?_)
                refine lv_goto (tgt := 33) hx hb dX11_leavers_170 (by decide) ?_
                have he_24 : f_X11_leavers_L33 (n + 1) T_33 x1_33 x2_33 x3_33 x4_33 x5_33 = f_X11_leavers_L33 n q_51 x1_33 x2_33 x3_33 x4_33 (x5_33 + 1) := (by have hS_8 := hS_8.symm; have hq_51 := hq_51.symm; have hr_20 := hr_20.symm; subst hS_8 hq_51 hr_20; exact (iN c_5 (iN c_21 (iN c_23 rfl))))
                exact ih_33 q_51 x1_33 x2_33 x3_33 x4_33 (x5_33 + 1) (by have hS_8 := hS_8.symm; have hq_51 := hq_51.symm; have hr_20 := hr_20.symm; subst hS_8 hq_51 hr_20; exact (sn (sn (nr (nr (nr (sn hs_33 c_5)))) c_21) c_23)) (fun q hq => hex_33 q (hq.trans he_24.symm)) _ _ hP hS ls (lv_sub hl [5, 6, 7, 2, 1, 0] rfl)
              · refine lv_iload hx hb dX11_leavers_122 (lv_at hl 6 rfl) ?_
                have hn_25 : s_X11_ones q_51 x5_33 := (by have hS_8 := hS_8.symm; have hq_51 := hq_51.symm; have hr_20 := hr_20.symm; subst hS_8 hq_51 hr_20; exact nl (sp (sn (nr (nr (nr (sn hs_33 c_5)))) c_21) c_23))
                refine xcS_iR (As := [.int x5_33]) (rest := []) hC hP hS (k_X11_ones l X q_51 x5_33 hn_25) (va_cwS 1 hts gX11_leavers_X11_ones rfl rfl rfl hs_X11_ones ⟨Nat.le_of_ble_eq_true rfl, Nat.le_of_ble_eq_true rfl⟩) rfl rfl hl.1 (Nat.le_of_ble_eq_true rfl) dX11_leavers_124 (fun r_26 hr_26 H locs hP hS => ?_)
                refine lv_iload_n hx hb dX11_leavers_127 rfl (lv_at hl 4 rfl) ?_
                have hn_27 : s_X11_ones q_51 x3_33 := (by have hS_8 := hS_8.symm; have hq_51 := hq_51.symm; have hr_20 := hr_20.symm; have hr_26 := hr_26.symm; subst hS_8 hq_51 hr_20 hr_26; exact nl (nr (sp (sn (nr (nr (nr (sn hs_33 c_5)))) c_21) c_23)))
                refine xcS_iR (As := [.int x3_33]) (rest := [.int r_26]) hC hP hS (k_X11_ones l X q_51 x3_33 hn_27) (va_cwS 1 hts gX11_leavers_X11_ones rfl rfl rfl hs_X11_ones ⟨Nat.le_of_ble_eq_true rfl, Nat.le_of_ble_eq_true rfl⟩) rfl rfl hl.1 (Nat.le_of_ble_eq_true rfl) dX11_leavers_128 (fun r_28 hr_28 H locs hP hS => ?_)
                refine lv_icmp_ge (tgt := 138) hx hb dX11_leavers_131 (by decide) (fun c_29 => ?_) (fun c_29 => ?_)
                · refine lv_iconst (v := 0) hx hb dX11_leavers_138 (by decide) ?_
                  refine lv_istore (lv' := [(7, .int 0), (6, .int r_20), (0, .ref (X.2.1 127)), (1, .int x1_33), (2, .int x2_33), (3, .int x3_33), (4, .int x4_33), (5, .int x5_33)]) hx hb dX11_leavers_139 hl (by decide) rfl (fun ls hl => ?_)
                  refine lv_iload hx hb dX11_leavers_141 (lv_at hl 0 rfl) ?_
                  refine lv_if_eq (tgt := 151) hx hb dX11_leavers_143 (by decide) (fun _ => ?_) (fun c => absurd c (by decide))
                  refine lv_iload_n hx hb dX11_leavers_151 rfl (lv_at hl 5 rfl) ?_
                  refine lv_istore_n (lv' := [(3, .int x3_33), (7, .int 0), (6, .int r_20), (0, .ref (X.2.1 127)), (1, .int x1_33), (2, .int x2_33), (4, .int x4_33), (5, .int x5_33)]) hx hb dX11_leavers_152 rfl hl (by decide) rfl (fun ls hl => ?_)
                  refine lv_iload hx hb dX11_leavers_153 (lv_at hl 1 rfl) ?_
                  refine lv_if_eq (tgt := 163) hx hb dX11_leavers_155 (by decide) (fun _ => ?_) (fun c => absurd c (by decide))
                  refine lv_iload hx hb dX11_leavers_163 (lv_at hl 6 rfl) ?_
                  refine lv_istore (lv' := [(4, .int x4_33), (3, .int x3_33), (7, .int 0), (6, .int r_20), (0, .ref (X.2.1 127)), (1, .int x1_33), (2, .int x2_33), (5, .int x5_33)]) hx hb dX11_leavers_165 hl (by decide) rfl (fun ls hl => ?_)
                  refine lv_iinc (v := (x5_33 + 1)) (lv' := [(5, .int (x5_33 + 1)), (4, .int x4_33), (3, .int x3_33), (7, .int 0), (6, .int r_20), (0, .ref (X.2.1 127)), (1, .int x1_33), (2, .int x2_33)]) hx hb dX11_leavers_167 hl (k := 7) rfl rfl (by decide) rfl (fun ls hl => ?_)
                  refine lv_goto (tgt := 33) hx hb dX11_leavers_170 (by decide) ?_
                  have he_30 : f_X11_leavers_L33 (n + 1) T_33 x1_33 x2_33 x3_33 x4_33 x5_33 = f_X11_leavers_L33 n q_51 x1_33 x2_33 x3_33 x4_33 (x5_33 + 1) := (by have hS_8 := hS_8.symm; have hq_51 := hq_51.symm; have hr_20 := hr_20.symm; have hr_26 := hr_26.symm; have hr_28 := hr_28.symm; subst hS_8 hq_51 hr_20 hr_26 hr_28; exact (iN c_5 (iN c_21 (ip c_23 (ip c_29 rfl)))))
                  exact ih_33 q_51 x1_33 x2_33 x3_33 x4_33 (x5_33 + 1) (by have hS_8 := hS_8.symm; have hq_51 := hq_51.symm; have hr_20 := hr_20.symm; have hr_26 := hr_26.symm; have hr_28 := hr_28.symm; subst hS_8 hq_51 hr_20 hr_26 hr_28; exact (sp (nr (nr (sp (sn (nr (nr (nr (sn hs_33 c_5)))) c_21) c_23))) c_29)) (fun q hq => hex_33 q (hq.trans he_30.symm)) _ _ hP hS ls (lv_sub hl [5, 6, 7, 2, 1, 0] rfl)
                · refine lv_iconst (v := 1) hx hb dX11_leavers_134 (by decide) ?_
                  refine lv_goto (tgt := 139) hx hb dX11_leavers_135 (by decide) ?_
                  refine lv_istore (lv' := [(7, .int 1), (6, .int r_20), (0, .ref (X.2.1 127)), (1, .int x1_33), (2, .int x2_33), (3, .int x3_33), (4, .int x4_33), (5, .int x5_33)]) hx hb dX11_leavers_139 hl (by decide) rfl (fun ls hl => ?_)
                  refine lv_iload hx hb dX11_leavers_141 (lv_at hl 0 rfl) ?_
                  refine lv_if_eq (tgt := 151) hx hb dX11_leavers_143 (by decide) (fun c => absurd c (by decide)) (fun _ => ?_)
                  refine lv_iload hx hb dX11_leavers_146 (lv_at hl 7 rfl) ?_
                  refine lv_goto (tgt := 152) hx hb dX11_leavers_148 (by decide) ?_
                  refine lv_istore_n (lv' := [(3, .int x5_33), (7, .int 1), (6, .int r_20), (0, .ref (X.2.1 127)), (1, .int x1_33), (2, .int x2_33), (4, .int x4_33), (5, .int x5_33)]) hx hb dX11_leavers_152 rfl hl (by decide) rfl (fun ls hl => ?_)
                  refine lv_iload hx hb dX11_leavers_153 (lv_at hl 1 rfl) ?_
                  refine lv_if_eq (tgt := 163) hx hb dX11_leavers_155 (by decide) (fun c => absurd c (by decide)) (fun _ => ?_)
                  refine lv_iload hx hb dX11_leavers_158 (lv_at hl 2 rfl) ?_
                  refine lv_goto (tgt := 165) hx hb dX11_leavers_160 (by decide) ?_
                  refine lv_istore (lv' := [(4, .int r_20), (3, .int x5_33), (7, .int 1), (6, .int r_20), (0, .ref (X.2.1 127)), (1, .int x1_33), (2, .int x2_33), (5, .int x5_33)]) hx hb dX11_leavers_165 hl (by decide) rfl (fun ls hl => ?_)
                  refine lv_iinc (v := (x5_33 + 1)) (lv' := [(5, .int (x5_33 + 1)), (4, .int r_20), (3, .int x5_33), (7, .int 1), (6, .int r_20), (0, .ref (X.2.1 127)), (1, .int x1_33), (2, .int x2_33)]) hx hb dX11_leavers_167 hl (k := 7) rfl rfl (by decide) rfl (fun ls hl => ?_)
                  refine lv_goto (tgt := 33) hx hb dX11_leavers_170 (by decide) ?_
                  have he_31 : f_X11_leavers_L33 (n + 1) T_33 x1_33 x2_33 x3_33 x4_33 x5_33 = f_X11_leavers_L33 n q_51 x1_33 x2_33 x5_33 r_20 (x5_33 + 1) := (by have hS_8 := hS_8.symm; have hq_51 := hq_51.symm; have hr_20 := hr_20.symm; have hr_26 := hr_26.symm; have hr_28 := hr_28.symm; subst hS_8 hq_51 hr_20 hr_26 hr_28; exact (iN c_5 (iN c_21 (ip c_23 (iN c_29 rfl)))))
                  exact ih_33 q_51 x1_33 x2_33 x5_33 r_20 (x5_33 + 1) (by have hS_8 := hS_8.symm; have hq_51 := hq_51.symm; have hr_20 := hr_20.symm; have hr_26 := hr_26.symm; have hr_28 := hr_28.symm; subst hS_8 hq_51 hr_20 hr_26 hr_28; exact (sn (nr (nr (sp (sn (nr (nr (nr (sn hs_33 c_5)))) c_21) c_23))) c_29)) (fun q hq => hex_33 q (hq.trans he_31.symm)) _ _ hP hS ls (lv_sub hl [5, 6, 7, 2, 1, 0] rfl)
      refine hLp_33 ((fu 0 (1 <<< ((S 127 6) &&& 31)))) S p0 p1 0 (-1000000) 0 (by have hr_1 := hr_1.symm; have hr_3 := hr_3.symm; subst hr_1 hr_3; exact nl (sn (sn hs c_2) c_4)) (fun q_33 hq_33 H locs hP hS ls hl => ?_) _ _ hP hS ls (lv_sub hl [3, 4, 5, 2, 1, 0] rfl)
      refine lv_iload_n hx hb dX11_leavers_173 rfl (lv_at hl 0 rfl) ?_
      refine lv_if_ne (tgt := 181) hx hb dX11_leavers_174 (by decide) (fun c_32 => ?_) (fun c_32 => ?_)
      · refine lv_iload hx hb dX11_leavers_181 (lv_at hl 2 rfl) ?_
        refine lv_sipush (v := 10000) hx hb dX11_leavers_183 (by decide) ?_
        refine lv_iadd hx hb dX11_leavers_186 ?_
        exact xret_iW hC hP hS hb hr (by simp only [f_X11_leavers, ← hr_1, ← hr_3, ← hq_33, if_neg c_2, if_neg c_4, if_neg c_32]) dX11_leavers_187 hlocks
      · refine lv_iload_n hx hb dX11_leavers_177 rfl (lv_at hl 1 rfl) ?_
        refine lv_goto (tgt := 187) hx hb dX11_leavers_178 (by decide) ?_
        exact xret_iW hC hP hS hb hr (by simp only [f_X11_leavers, ← hr_1, ← hr_3, ← hq_33, if_neg c_2, if_neg c_4, if_pos c_32]) dX11_leavers_187 hlocks
    · refine lv_ldc (v := (-1000000002)) hx hb hown (hts (.constant RX11 91 (-1000000002)) (List.mem_of_getElem? (i := 2) rfl)) dX11_leavers_21 ?_
      exact xret_iW hC hP hS hb hr (by simp only [f_X11_leavers, ← hr_1, ← hr_3, if_neg c_2, if_pos c_4]) dX11_leavers_23 hlocks
  · refine lv_ldc (v := (-1000000001)) hx hb hown (hts (.constant RX11 230 (-1000000001)) (List.mem_of_getElem? (i := 1) rfl)) dX11_leavers_8 ?_
    exact xret_iW hC hP hS hb hr (by simp only [f_X11_leavers, ← hr_1, if_pos c_2]) dX11_leavers_10 hlocks
theorem hd_X11_silent : yX11_silent.cls = RX11 ∧ yX11_silent.cls ≠ "java/lang/invoke/MethodHandle" ∧ yX11_silent.cls ≠ "java/lang/invoke/VarHandle" ∧ (parseMethodDescriptor yX11_silent.desc).map (fun d => d.parameters.length) = some 1 := by decide +kernel
set_option maxHeartbeats 4000000 in
set_option maxRecDepth 100000 in
theorem k_X11_silent (l : Launch) (X : xX) (S : xS) (p0 : Int32) (hs : s_X11_silent S p0) : Met l yX11_silent wsX11_silent ({ frames := 4, cells := 0, slots := 0, locals := 92 } : Room) (va_Pc [.ref (X.2.1 127), .int p0] (xI X S)) (va_Qi (fun (r : Int32) (u : xS) => r = (f_X11_silent S p0) ∧ u = S) (xI X) (xA X)) 0 0 (xA X) := by
  refine Met.ofW (cc := cX11_silent) (maxL := 2) (ret := (some .int)) (by decide +kernel) rfl ?_
  intro p e s m args below meth c s₁ B hml hv
  obtain ⟨rfl, hP, hK, hN, hJ⟩ := hv
  have hx := B.exec
  have hb := B.bytes
  have hr := B.returns
  have hts := atoms_spec (ws := wsX11_silent) B.pre
  have hown : s.vm.findClass RX11 = some m.cls := findClass_of_methodNamed B.named
  have hlocks := B.notSynchronized
  have hC : xC X p m c cX11_silent 2 s _ wsX11_silent RX11 := ⟨⟨hx, hb, hml, hown, hts⟩, hK, hN, hJ⟩
  have hS : va_S (xA X) s.heap s.heap [] := va_S.rf
  have hl := lv_entry ([.ref (X.2.1 127), .int p0]) (n := 2) (Nat.le_of_ble_eq_true rfl)
  rw [lg_entry_eq]
  generalize (lg_sl ([.ref (X.2.1 127), .int p0]) ++ List.replicate (2 - (lg_sl ([.ref (X.2.1 127), .int p0])).length) Slot.unset).toArray = ls at hl ⊢
  have hl : lv_has ls 2 [(0, .ref (X.2.1 127)), (1, .int p0)] := hl
  refine lv_iload_n hx hb dX11_silent_0 rfl (lv_at hl 1 rfl) ?_
  refine lv_if_ge (tgt := 8) hx hb dX11_silent_1 (by decide) (fun c_1 => ?_) (fun c_1 => ?_)
  · refine lv_aload_n hx hb dX11_silent_8 rfl (lv_at hl 0 rfl) ?_
    refine lv_iload_n hx hb dX11_silent_9 rfl (lv_at hl 1 rfl) ?_
    have hn_2 : s_X11_silentBy S p0 := (nl (sp hs c_1))
    refine xcV_iR (b := 127) (As := [.int p0]) (rest := []) hC hP hS (k_X11_silentBy l X S p0 hn_2) (cwV 1 hts gX11_silent_X11_silentBy rfl rfl rfl hd_X11_silentBy ⟨Nat.le_of_ble_eq_true rfl, Nat.le_of_ble_eq_true rfl⟩) xo_X11 rfl rfl rfl hl.1 (Nat.le_of_ble_eq_true rfl) dX11_silent_10 (fun r_3 hr_3 H locs hP hS => ?_)
    exact xret_iR hC hP hS hb hr ((by have hr_3 := hr_3.symm; subst hr_3; exact (ip c_1 rfl))) dX11_silent_13 hlocks
  · refine lv_iconst (v := (-1)) hx hb dX11_silent_4 (by decide) ?_
    refine lv_goto (tgt := 13) hx hb dX11_silent_5 (by decide) ?_
    exact xret_iR hC hP hS hb hr (((iN c_1 rfl))) dX11_silent_13 hlocks
theorem hd_X11_knowThen : yX11_knowThen.cls = RX11 ∧ yX11_knowThen.cls ≠ "java/lang/invoke/MethodHandle" ∧ yX11_knowThen.cls ≠ "java/lang/invoke/VarHandle" ∧ (parseMethodDescriptor yX11_knowThen.desc).map (fun d => d.parameters.length) = some 1 := by decide +kernel
set_option maxHeartbeats 4000000 in
set_option maxRecDepth 100000 in
theorem k_X11_knowThen (l : Launch) (X : xX) (S : xS) (p0 : Int32) (hs : s_X11_knowThen S p0) : Met l yX11_knowThen wsX11_knowThen ({ frames := 2, cells := 0, slots := 0, locals := 44 } : Room) (va_Pc [.ref (X.2.1 127), .int p0] (xI X S)) (va_Qi (fun (r : Int32) (u : xS) => r = (f_X11_knowThen S p0) ∧ u = S) (xI X) (xA X)) 0 0 (xA X) := by
  refine Met.ofW (cc := cX11_knowThen) (maxL := 5) (ret := (some .int)) (by decide +kernel) rfl ?_
  intro p e s m args below meth c s₁ B hml hv
  obtain ⟨rfl, hP, hK, hN, hJ⟩ := hv
  have hx := B.exec
  have hb := B.bytes
  have hr := B.returns
  have hts := atoms_spec (ws := wsX11_knowThen) B.pre
  have hown : s.vm.findClass RX11 = some m.cls := findClass_of_methodNamed B.named
  have hlocks := B.notSynchronized
  have hC : xC X p m c cX11_knowThen 5 s _ wsX11_knowThen RX11 := ⟨⟨hx, hb, hml, hown, hts⟩, hK, hN, hJ⟩
  have hS : va_S (xA X) s.heap s.heap [] := va_S.rf
  have hin_X11 : ∀ w ∈ u_ws RX11 TX11 41, w ∈ wsX11_knowThen := by decide +kernel
  have hl := lv_entry ([.ref (X.2.1 127), .int p0]) (n := 5) (Nat.le_of_ble_eq_true rfl)
  rw [lg_entry_eq]
  generalize (lg_sl ([.ref (X.2.1 127), .int p0]) ++ List.replicate (5 - (lg_sl ([.ref (X.2.1 127), .int p0])).length) Slot.unset).toArray = ls at hl ⊢
  have hl : lv_has ls 5 [(0, .ref (X.2.1 127)), (1, .int p0)] := hl
  refine lv_iload_n hx hb dX11_knowThen_0 rfl (lv_at hl 1 rfl) ?_
  refine lv_istore_n (lv' := [(2, .int p0), (0, .ref (X.2.1 127)), (1, .int p0)]) hx hb dX11_knowThen_1 rfl hl (by decide) rfl (fun ls hl => ?_)
  refine lv_iconst (v := 0) hx hb dX11_knowThen_2 (by decide) ?_
  refine lv_istore_n (lv' := [(3, .int 0), (2, .int p0), (0, .ref (X.2.1 127)), (1, .int p0)]) hx hb dX11_knowThen_3 rfl hl (by decide) rfl (fun ls hl => ?_)
  have hLp_4 : ∀ (n : Nat) (x1_4 : Int32) (x2_4 : Int32) (x3_4 : Int32), s_X11_knowThen_L4 n S x1_4 x2_4 x3_4 → (∀ q : Int32, q = f_X11_knowThen_L4 n S x1_4 x2_4 x3_4 → (∀ (H : Heap) (locs : List Loc), va_P X.1 vwCl (xW X S) H → va_S (xA X) s.heap H locs → ∀ (ls : Array Slot), lv_has ls 5 [(2, .int q)] → W p l e ({ frames := 2, cells := 0, slots := 0, locals := 44 } : Room) s m ([.ref (X.2.1 127), .int p0] : List Value).toArray below meth c H locs 0 0 (MQ below (va_Qi (fun (r : Int32) (u : xS) => r = (f_X11_knowThen S p0) ∧ u = S) (xI X) (xA X)) ([.ref (X.2.1 127), .int p0] : List Value).toArray s 0 0 (xA X)) (F0 m 69 ls []))) → ∀ (H : Heap) (locs : List Loc), va_P X.1 vwCl (xW X S) H → va_S (xA X) s.heap H locs → ∀ (ls : Array Slot), lv_has ls 5 [(0, .ref (X.2.1 127)), (1, .int x1_4), (2, .int x2_4), (3, .int x3_4)] → W p l e ({ frames := 2, cells := 0, slots := 0, locals := 44 } : Room) s m ([.ref (X.2.1 127), .int p0] : List Value).toArray below meth c H locs 0 0 (MQ below (va_Qi (fun (r : Int32) (u : xS) => r = (f_X11_knowThen S p0) ∧ u = S) (xI X) (xA X)) ([.ref (X.2.1 127), .int p0] : List Value).toArray s 0 0 (xA X)) (F0 m 4 ls []) := by
    intro n
    induction n with
    | zero => intro x1_4 x2_4 x3_4 hs; exact hs.elim
    | succ n ih_4 =>
      intro x1_4 x2_4 x3_4 hs_4 hex_4 H locs hP hS ls hl
      refine lv_iload_n hx hb dX11_knowThen_4 rfl (lv_at hl 3 rfl) ?_
      refine lv_aload_n hx hb dX11_knowThen_5 rfl (lv_at hl 0 rfl) ?_
      refine xget (ref := "AbsentPraiseModel") (T := TX11) (v := .int (S 127 6)) hC hP hin_X11 xo_X11 rfl 6 (by decide) (List.mem_of_getElem? (i := 1) rfl) rfl rfl dX11_knowThen_6 ?_
      refine lv_icmp_ge (tgt := 69) hx hb dX11_knowThen_9 (by decide) (fun c_1 => ?_) (fun c_1 => ?_)
      · have he_2 : f_X11_knowThen_L4 (n + 1) S x1_4 x2_4 x3_4 = x2_4 := ((ip c_1 rfl))
        exact hex_4 _ he_2.symm _ _ hP hS ls (lv_sub hl [2] rfl)
      · refine lv_iconst (v := 0) hx hb dX11_knowThen_12 (by decide) ?_
        refine lv_istore (lv' := [(4, .int 0), (0, .ref (X.2.1 127)), (1, .int x1_4), (2, .int x2_4), (3, .int x3_4)]) hx hb dX11_knowThen_13 hl (by decide) rfl (fun ls hl => ?_)
        have hLp_15 : ∀ (n : Nat) (x1_15 : Int32) (x2_15 : Int32) (x3_15 : Int32) (x4_15 : Int32), s_X11_knowThen_L15 n S x1_15 x2_15 x3_15 x4_15 → (∀ q : Int32, q = f_X11_knowThen_L15 n S x1_15 x2_15 x3_15 x4_15 → (∀ (H : Heap) (locs : List Loc), va_P X.1 vwCl (xW X S) H → va_S (xA X) s.heap H locs → ∀ (ls : Array Slot), lv_has ls 5 [(0, .ref (X.2.1 127)), (1, .int x1_15), (2, .int q), (3, .int x3_15)] → W p l e ({ frames := 2, cells := 0, slots := 0, locals := 44 } : Room) s m ([.ref (X.2.1 127), .int p0] : List Value).toArray below meth c H locs 0 0 (MQ below (va_Qi (fun (r : Int32) (u : xS) => r = (f_X11_knowThen S p0) ∧ u = S) (xI X) (xA X)) ([.ref (X.2.1 127), .int p0] : List Value).toArray s 0 0 (xA X)) (F0 m 63 ls []))) → ∀ (H : Heap) (locs : List Loc), va_P X.1 vwCl (xW X S) H → va_S (xA X) s.heap H locs → ∀ (ls : Array Slot), lv_has ls 5 [(0, .ref (X.2.1 127)), (1, .int x1_15), (2, .int x2_15), (3, .int x3_15), (4, .int x4_15)] → W p l e ({ frames := 2, cells := 0, slots := 0, locals := 44 } : Room) s m ([.ref (X.2.1 127), .int p0] : List Value).toArray below meth c H locs 0 0 (MQ below (va_Qi (fun (r : Int32) (u : xS) => r = (f_X11_knowThen S p0) ∧ u = S) (xI X) (xA X)) ([.ref (X.2.1 127), .int p0] : List Value).toArray s 0 0 (xA X)) (F0 m 15 ls []) := by
          intro n
          induction n with
          | zero => intro x1_15 x2_15 x3_15 x4_15 hs; exact hs.elim
          | succ n ih_15 =>
            intro x1_15 x2_15 x3_15 x4_15 hs_15 hex_15 H locs hP hS ls hl
            refine lv_iload hx hb dX11_knowThen_15 (lv_at hl 4 rfl) ?_
            refine lv_aload_n hx hb dX11_knowThen_17 rfl (lv_at hl 0 rfl) ?_
            refine xget (ref := "AbsentPraiseModel") (T := TX11) (v := .int (S 127 6)) hC hP hin_X11 xo_X11 rfl 6 (by decide) (List.mem_of_getElem? (i := 1) rfl) rfl rfl dX11_knowThen_18 ?_
            refine lv_icmp_ge (tgt := 63) hx hb dX11_knowThen_21 (by decide) (fun c_3 => ?_) (fun c_3 => ?_)
            · have he_4 : f_X11_knowThen_L15 (n + 1) S x1_15 x2_15 x3_15 x4_15 = x2_15 := ((ip c_3 rfl))
              exact hex_15 _ he_4.symm _ _ hP hS ls (lv_sub hl [0, 1, 2, 3] rfl)
            · refine lv_iload_n hx hb dX11_knowThen_24 rfl (lv_at hl 2 rfl) ?_
              refine lv_iload_n hx hb dX11_knowThen_25 rfl (lv_at hl 1 rfl) ?_
              refine lv_iload_n hx hb dX11_knowThen_26 rfl (lv_at hl 3 rfl) ?_
              refine xcS_iR (As := [.int x1_15, .int x3_15]) (rest := [.int x2_15]) hC hP hS (k_X11_has l X S x1_15 x3_15) (va_cwS 2 hts gX11_knowThen_X11_has rfl rfl rfl hs_X11_has ⟨Nat.le_of_ble_eq_true rfl, Nat.le_of_ble_eq_true rfl⟩) rfl rfl hl.1 (Nat.le_of_ble_eq_true rfl) dX11_knowThen_27 (fun r_5 hp_r_5 H locs hP hS => ?_)
              obtain ⟨hr_5, hzr_5⟩ := hp_r_5
              refine lv_if_eq (tgt := 54) hx hb dX11_knowThen_30 (by decide) (fun c_6 => ?_) (fun c_6 => ?_)
              · refine lv_iconst (v := 0) hx hb dX11_knowThen_54 (by decide) ?_
                refine lv_ior hx hb dX11_knowThen_55 ?_
                refine lv_istore_n (lv' := [(2, .int (x2_15 ||| 0)), (0, .ref (X.2.1 127)), (1, .int x1_15), (3, .int x3_15), (4, .int x4_15)]) hx hb dX11_knowThen_56 rfl hl (by decide) rfl (fun ls hl => ?_)
                refine lv_iinc (v := (x4_15 + 1)) (lv' := [(4, .int (x4_15 + 1)), (2, .int (x2_15 ||| 0)), (0, .ref (X.2.1 127)), (1, .int x1_15), (3, .int x3_15)]) hx hb dX11_knowThen_57 hl (k := 4) rfl rfl (by decide) rfl (fun ls hl => ?_)
                refine lv_goto (tgt := 15) hx hb dX11_knowThen_60 (by decide) ?_
                have he_7 : f_X11_knowThen_L15 (n + 1) S x1_15 x2_15 x3_15 x4_15 = f_X11_knowThen_L15 n S x1_15 (x2_15 ||| 0) x3_15 (x4_15 + 1) := (by have hr_5 := hr_5.symm; subst hr_5; exact (iN c_3 (ip c_6 rfl)))
                exact ih_15 x1_15 (x2_15 ||| 0) x3_15 (x4_15 + 1) (by have hr_5 := hr_5.symm; subst hr_5; exact (sp (sn hs_15 c_3) c_6)) (fun q hq => hex_15 q (hq.trans he_7.symm)) _ _ hP hS ls (lv_sub hl [2, 3, 1, 4, 0] rfl)
              · refine lv_aload_n hx hb dX11_knowThen_33 rfl (lv_at hl 0 rfl) ?_
                refine lv_aload_n hx hb dX11_knowThen_34 rfl (lv_at hl 0 rfl) ?_
                refine xget (ref := "AbsentPraiseModel") (T := TX11) (v := .ref (X.2.1 131)) hC hP hin_X11 xo_X11 rfl 8 (by decide) (List.mem_of_getElem? (i := 2) rfl) rfl rfl dX11_knowThen_35 ?_
                refine lv_iload_n hx hb dX11_knowThen_38 rfl (lv_at hl 3 rfl) ?_
                refine lv_iload hx hb dX11_knowThen_39 (lv_at hl 4 rfl) ?_
                have hn_8 : s_X11_hears S 131 x3_15 x4_15 := (by have hr_5 := hr_5.symm; subst hr_5; exact nl (sn (sn hs_15 c_3) c_6))
                refine xcV_iR (b := 127) (As := [.ref (X.2.1 131), .int x3_15, .int x4_15]) (rest := [.int x2_15]) hC hP hS (k_X11_hears l X S 131 x3_15 x4_15 rfl hn_8) (cwV 3 hts gX11_knowThen_X11_hears rfl rfl rfl hd_X11_hears ⟨Nat.le_of_ble_eq_true rfl, Nat.le_of_ble_eq_true rfl⟩) xo_X11 rfl rfl rfl hl.1 (Nat.le_of_ble_eq_true rfl) dX11_knowThen_41 (fun r_9 hp_r_9 H locs hP hS => ?_)
                obtain ⟨hr_9, hzr_9⟩ := hp_r_9
                refine lv_if_eq (tgt := 54) hx hb dX11_knowThen_44 (by decide) (fun c_10 => ?_) (fun c_10 => ?_)
                · refine lv_iconst (v := 0) hx hb dX11_knowThen_54 (by decide) ?_
                  refine lv_ior hx hb dX11_knowThen_55 ?_
                  refine lv_istore_n (lv' := [(2, .int (x2_15 ||| 0)), (0, .ref (X.2.1 127)), (1, .int x1_15), (3, .int x3_15), (4, .int x4_15)]) hx hb dX11_knowThen_56 rfl hl (by decide) rfl (fun ls hl => ?_)
                  refine lv_iinc (v := (x4_15 + 1)) (lv' := [(4, .int (x4_15 + 1)), (2, .int (x2_15 ||| 0)), (0, .ref (X.2.1 127)), (1, .int x1_15), (3, .int x3_15)]) hx hb dX11_knowThen_57 hl (k := 4) rfl rfl (by decide) rfl (fun ls hl => ?_)
                  refine lv_goto (tgt := 15) hx hb dX11_knowThen_60 (by decide) ?_
                  have he_11 : f_X11_knowThen_L15 (n + 1) S x1_15 x2_15 x3_15 x4_15 = f_X11_knowThen_L15 n S x1_15 (x2_15 ||| 0) x3_15 (x4_15 + 1) := (by have hr_5 := hr_5.symm; have hr_9 := hr_9.symm; subst hr_5 hr_9; exact (iN c_3 (iN c_6 (ip c_10 rfl))))
                  exact ih_15 x1_15 (x2_15 ||| 0) x3_15 (x4_15 + 1) (by have hr_5 := hr_5.symm; have hr_9 := hr_9.symm; subst hr_5 hr_9; exact (sp (nr (sn (sn hs_15 c_3) c_6)) c_10)) (fun q hq => hex_15 q (hq.trans he_11.symm)) _ _ hP hS ls (lv_sub hl [2, 3, 1, 4, 0] rfl)
                · refine lv_iconst (v := 1) hx hb dX11_knowThen_47 (by decide) ?_
                  refine lv_iload hx hb dX11_knowThen_48 (lv_at hl 4 rfl) ?_
                  refine lv_ishl hx hb dX11_knowThen_50 ?_
                  refine lv_goto (tgt := 55) hx hb dX11_knowThen_51 (by decide) ?_
                  refine lv_ior hx hb dX11_knowThen_55 ?_
                  refine lv_istore_n (lv' := [(2, .int (x2_15 ||| (1 <<< (x4_15 &&& 31)))), (0, .ref (X.2.1 127)), (1, .int x1_15), (3, .int x3_15), (4, .int x4_15)]) hx hb dX11_knowThen_56 rfl hl (by decide) rfl (fun ls hl => ?_)
                  refine lv_iinc (v := (x4_15 + 1)) (lv' := [(4, .int (x4_15 + 1)), (2, .int (x2_15 ||| (1 <<< (x4_15 &&& 31)))), (0, .ref (X.2.1 127)), (1, .int x1_15), (3, .int x3_15)]) hx hb dX11_knowThen_57 hl (k := 4) rfl rfl (by decide) rfl (fun ls hl => ?_)
                  refine lv_goto (tgt := 15) hx hb dX11_knowThen_60 (by decide) ?_
                  have he_12 : f_X11_knowThen_L15 (n + 1) S x1_15 x2_15 x3_15 x4_15 = f_X11_knowThen_L15 n S x1_15 (x2_15 ||| (1 <<< (x4_15 &&& 31))) x3_15 (x4_15 + 1) := (by have hr_5 := hr_5.symm; have hr_9 := hr_9.symm; subst hr_5 hr_9; exact (iN c_3 (iN c_6 (iN c_10 rfl))))
                  exact ih_15 x1_15 (x2_15 ||| (1 <<< (x4_15 &&& 31))) x3_15 (x4_15 + 1) (by have hr_5 := hr_5.symm; have hr_9 := hr_9.symm; subst hr_5 hr_9; exact (sn (nr (sn (sn hs_15 c_3) c_6)) c_10)) (fun q hq => hex_15 q (hq.trans he_12.symm)) _ _ hP hS ls (lv_sub hl [2, 3, 1, 4, 0] rfl)
        refine hLp_15 ((fu 0 (S 127 6))) x1_4 x2_4 x3_4 0 (nl (sn hs_4 c_1)) (fun q_15 hq_15 H locs hP hS ls hl => ?_) _ _ hP hS ls (lv_sub hl [1, 2, 3, 4, 0] rfl)
        refine lv_iinc (v := (x3_4 + 1)) (lv' := [(3, .int (x3_4 + 1)), (0, .ref (X.2.1 127)), (1, .int x1_4), (2, .int q_15)]) hx hb dX11_knowThen_63 hl (k := 3) rfl rfl (by decide) rfl (fun ls hl => ?_)
        refine lv_goto (tgt := 4) hx hb dX11_knowThen_66 (by decide) ?_
        have he_13 : f_X11_knowThen_L4 (n + 1) S x1_4 x2_4 x3_4 = f_X11_knowThen_L4 n S x1_4 q_15 (x3_4 + 1) := (by have hq_15 := hq_15.symm; subst hq_15; exact (iN c_1 rfl))
        exact ih_4 x1_4 q_15 (x3_4 + 1) (by have hq_15 := hq_15.symm; subst hq_15; exact (nr (sn hs_4 c_1))) (fun q hq => hex_4 q (hq.trans he_13.symm)) _ _ hP hS ls (lv_sub hl [1, 2, 3, 0] rfl)
  refine hLp_4 ((fu 0 (S 127 6))) p0 p0 0 (nl hs) (fun q_4 hq_4 H locs hP hS ls hl => ?_) _ _ hP hS ls (lv_sub hl [2, 3, 1, 0] rfl)
  refine lv_iload_n hx hb dX11_knowThen_69 rfl (lv_at hl 0 rfl) ?_
  exact xret_iR hC hP hS hb hr ((by have hq_4 := hq_4.symm; subst hq_4; exact rfl)) dX11_knowThen_70 hlocks
theorem hd_X11_carried : yX11_carried.cls = RX11 ∧ yX11_carried.cls ≠ "java/lang/invoke/MethodHandle" ∧ yX11_carried.cls ≠ "java/lang/invoke/VarHandle" ∧ (parseMethodDescriptor yX11_carried.desc).map (fun d => d.parameters.length) = some 2 := by decide +kernel
set_option maxHeartbeats 4000000 in
set_option maxRecDepth 100000 in
theorem k_X11_carried (l : Launch) (X : xX) (S : xS) (p0 : Int32) (p1 : Int32) (hs : s_X11_carried S p0 p1) : Met l yX11_carried wsX11_carried ({ frames := 3, cells := 0, slots := 0, locals := 68 } : Room) (va_Pc [.ref (X.2.1 127), .int p0, .int p1] (xI X S)) (va_Qi (fun (r : Int32) (u : xS) => r = (f_X11_carried S p0 p1) ∧ u = S) (xI X) (xA X)) 0 0 (xA X) := by
  refine Met.ofW (cc := cX11_carried) (maxL := 5) (ret := (some .int)) (by decide +kernel) rfl ?_
  intro p e s m args below meth c s₁ B hml hv
  obtain ⟨rfl, hP, hK, hN, hJ⟩ := hv
  have hx := B.exec
  have hb := B.bytes
  have hr := B.returns
  have hts := atoms_spec (ws := wsX11_carried) B.pre
  have hown : s.vm.findClass RX11 = some m.cls := findClass_of_methodNamed B.named
  have hlocks := B.notSynchronized
  have hC : xC X p m c cX11_carried 5 s _ wsX11_carried RX11 := ⟨⟨hx, hb, hml, hown, hts⟩, hK, hN, hJ⟩
  have hS : va_S (xA X) s.heap s.heap [] := va_S.rf
  have hin_X11 : ∀ w ∈ u_ws RX11 TX11 41, w ∈ wsX11_carried := by decide +kernel
  have hl := lv_entry ([.ref (X.2.1 127), .int p0, .int p1]) (n := 5) (Nat.le_of_ble_eq_true rfl)
  rw [lg_entry_eq]
  generalize (lg_sl ([.ref (X.2.1 127), .int p0, .int p1]) ++ List.replicate (5 - (lg_sl ([.ref (X.2.1 127), .int p0, .int p1])).length) Slot.unset).toArray = ls at hl ⊢
  have hl : lv_has ls 5 [(0, .ref (X.2.1 127)), (1, .int p0), (2, .int p1)] := hl
  refine lv_aload_n hx hb dX11_carried_0 rfl (lv_at hl 0 rfl) ?_
  refine lv_iload_n hx hb dX11_carried_1 rfl (lv_at hl 1 rfl) ?_
  refine xcV_iR (b := 127) (As := [.int p0]) (rest := []) hC hP hS (k_X11_isPerson l X S p0) (cwV 1 hts gX11_carried_X11_isPerson rfl rfl rfl hd_X11_isPerson ⟨Nat.le_of_ble_eq_true rfl, Nat.le_of_ble_eq_true rfl⟩) xo_X11 rfl rfl rfl hl.1 (Nat.le_of_ble_eq_true rfl) dX11_carried_2 (fun r_1 hp_r_1 H locs hP hS => ?_)
  obtain ⟨hr_1, hzr_1⟩ := hp_r_1
  refine lv_if_ne (tgt := 11) hx hb dX11_carried_5 (by decide) (fun c_2 => ?_) (fun c_2 => ?_)
  · refine lv_iload_n hx hb dX11_carried_11 rfl (lv_at hl 2 rfl) ?_
    refine lv_i2l (v := (p1 : Int32).toInt64) hx hb dX11_carried_12 rfl ?_
    refine lv_ldc2 (v := (-1)) hx hb hown (hts (.constantLong RX11 284 (-1)) (List.mem_of_getElem? (i := 2) rfl)) dX11_carried_13 ?_
    refine lv_ldc2 (v := 20) hx hb hown (hts (.constantLong RX11 286 (20)) (List.mem_of_getElem? (i := 3) rfl)) dX11_carried_16 ?_
    refine xcS_iR (As := [.long (p1 : Int32).toInt64, .long (-1), .long 20]) (rest := []) hC hP hS (k_X11_in l X S (p1 : Int32).toInt64 (-1) 20) (va_cwS 3 hts gX11_carried_X11_in rfl rfl rfl hs_X11_in ⟨Nat.le_of_ble_eq_true rfl, Nat.le_of_ble_eq_true rfl⟩) rfl rfl hl.1 (Nat.le_of_ble_eq_true rfl) dX11_carried_19 (fun r_3 hp_r_3 H locs hP hS => ?_)
    obtain ⟨hr_3, hzr_3⟩ := hp_r_3
    refine lv_if_ne (tgt := 28) hx hb dX11_carried_22 (by decide) (fun c_4 => ?_) (fun c_4 => ?_)
    · refine lv_iconst (v := 1) hx hb dX11_carried_28 (by decide) ?_
      refine lv_iload_n hx hb dX11_carried_29 rfl (lv_at hl 1 rfl) ?_
      refine lv_ishl hx hb dX11_carried_30 ?_
      refine lv_istore_n (lv' := [(3, .int (1 <<< (p0 &&& 31))), (0, .ref (X.2.1 127)), (1, .int p0), (2, .int p1)]) hx hb dX11_carried_31 rfl hl (by decide) rfl (fun ls hl => ?_)
      refine lv_iload_n hx hb dX11_carried_32 rfl (lv_at hl 3 rfl) ?_
      refine lv_if_lt (tgt := 59) hx hb dX11_carried_33 (by decide) (fun c_5 => ?_) (fun c_5 => ?_)
      · refine lv_iconst (v := 0) hx hb dX11_carried_59 (by decide) ?_
        refine lv_istore (lv' := [(4, .int 0), (3, .int (1 <<< (p0 &&& 31))), (0, .ref (X.2.1 127)), (1, .int p0), (2, .int p1)]) hx hb dX11_carried_60 hl (by decide) rfl (fun ls hl => ?_)
        have hLp_62 : ∀ (n : Nat) (x3_62 : Int32) (x4_62 : Int32), s_X11_carried_L62 n S x3_62 x4_62 → (∀ q : Unit, f_X11_carried_L62 n S x3_62 x4_62 = .inr q → (∀ (H : Heap) (locs : List Loc), va_P X.1 vwCl (xW X S) H → va_S (xA X) s.heap H locs → ∀ (ls : Array Slot), lv_has ls 5 [] → W p l e ({ frames := 3, cells := 0, slots := 0, locals := 68 } : Room) s m ([.ref (X.2.1 127), .int p0, .int p1] : List Value).toArray below meth c H locs 0 0 (MQ below (va_Qi (fun (r : Int32) (u : xS) => r = (f_X11_carried S p0 p1) ∧ u = S) (xI X) (xA X)) ([.ref (X.2.1 127), .int p0, .int p1] : List Value).toArray s 0 0 (xA X)) (F0 m 95 ls []))) → (∀ r : Int32, f_X11_carried_L62 n S x3_62 x4_62 = .inl r → ∀ (H : Heap) (locs : List Loc), va_P X.1 vwCl (xW X S) H → va_S (xA X) s.heap H locs → ∀ (pc : Nat) (ls : Array Slot), decode cX11_carried pc = .ok (.ireturn, 1) → W p l e ({ frames := 3, cells := 0, slots := 0, locals := 68 } : Room) s m ([.ref (X.2.1 127), .int p0, .int p1] : List Value).toArray below meth c H locs 0 0 (MQ below (va_Qi (fun (r : Int32) (u : xS) => r = (f_X11_carried S p0 p1) ∧ u = S) (xI X) (xA X)) ([.ref (X.2.1 127), .int p0, .int p1] : List Value).toArray s 0 0 (xA X)) (F0 m pc ls [.int r])) → ∀ (H : Heap) (locs : List Loc), va_P X.1 vwCl (xW X S) H → va_S (xA X) s.heap H locs → ∀ (ls : Array Slot), lv_has ls 5 [(0, .ref (X.2.1 127)), (3, .int x3_62), (4, .int x4_62)] → W p l e ({ frames := 3, cells := 0, slots := 0, locals := 68 } : Room) s m ([.ref (X.2.1 127), .int p0, .int p1] : List Value).toArray below meth c H locs 0 0 (MQ below (va_Qi (fun (r : Int32) (u : xS) => r = (f_X11_carried S p0 p1) ∧ u = S) (xI X) (xA X)) ([.ref (X.2.1 127), .int p0, .int p1] : List Value).toArray s 0 0 (xA X)) (F0 m 62 ls []) := by
          intro n
          induction n with
          | zero => intro x3_62 x4_62 hs; exact hs.elim
          | succ n ih_62 =>
            intro x3_62 x4_62 hs_62 hex_62 hret_62 H locs hP hS ls hl
            refine lv_iload hx hb dX11_carried_62 (lv_at hl 2 rfl) ?_
            refine lv_bipush (v := 7) hx hb dX11_carried_64 (by decide) ?_
            refine lv_icmp_gt (tgt := 95) hx hb dX11_carried_66 (by decide) (fun c_6 => ?_) (fun c_6 => ?_)
            · have he_7 : f_X11_carried_L62 (n + 1) S x3_62 x4_62 = .inr () := ((ip c_6 rfl))
              exact hex_62 _ he_7 _ _ hP hS ls (lv_sub hl [] rfl)
            · refine lv_iload_n hx hb dX11_carried_69 rfl (lv_at hl 1 rfl) ?_
              have hn_8 : s_X11_ones S x3_62 := (nl (sn hs_62 c_6))
              refine xcS_iR (As := [.int x3_62]) (rest := []) hC hP hS (k_X11_ones l X S x3_62 hn_8) (va_cwS 1 hts gX11_carried_X11_ones rfl rfl rfl hs_X11_ones ⟨Nat.le_of_ble_eq_true rfl, Nat.le_of_ble_eq_true rfl⟩) rfl rfl hl.1 (Nat.le_of_ble_eq_true rfl) dX11_carried_70 (fun r_9 hr_9 H locs hP hS => ?_)
              refine lv_aload_n hx hb dX11_carried_73 rfl (lv_at hl 0 rfl) ?_
              refine xget (ref := "AbsentPraiseModel") (T := TX11) (v := .int (S 127 6)) hC hP hin_X11 xo_X11 rfl 6 (by decide) (List.mem_of_getElem? (i := 5) rfl) rfl rfl dX11_carried_74 ?_
              refine lv_icmp_ne (tgt := 83) hx hb dX11_carried_77 (by decide) (fun c_10 => ?_) (fun c_10 => ?_)
              · refine lv_aload_n hx hb dX11_carried_83 rfl (lv_at hl 0 rfl) ?_
                refine lv_iload_n hx hb dX11_carried_84 rfl (lv_at hl 1 rfl) ?_
                have hn_11 : s_X11_knowThen S x3_62 := (by have hr_9 := hr_9.symm; subst hr_9; exact nl (sn (nr (sn hs_62 c_6)) c_10))
                refine xcV_iR (b := 127) (As := [.int x3_62]) (rest := []) hC hP hS (k_X11_knowThen l X S x3_62 hn_11) (cwV 1 hts gX11_carried_X11_knowThen rfl rfl rfl hd_X11_knowThen ⟨Nat.le_of_ble_eq_true rfl, Nat.le_of_ble_eq_true rfl⟩) xo_X11 rfl rfl rfl hl.1 (Nat.le_of_ble_eq_true rfl) dX11_carried_85 (fun r_12 hr_12 H locs hP hS => ?_)
                refine lv_istore_n (lv' := [(3, .int r_12), (0, .ref (X.2.1 127)), (4, .int x4_62)]) hx hb dX11_carried_88 rfl hl (by decide) rfl (fun ls hl => ?_)
                refine lv_iinc (v := (x4_62 + 1)) (lv' := [(4, .int (x4_62 + 1)), (3, .int r_12), (0, .ref (X.2.1 127))]) hx hb dX11_carried_89 hl (k := 2) rfl rfl (by decide) rfl (fun ls hl => ?_)
                refine lv_goto (tgt := 62) hx hb dX11_carried_92 (by decide) ?_
                have he_13 : f_X11_carried_L62 (n + 1) S x3_62 x4_62 = f_X11_carried_L62 n S r_12 (x4_62 + 1) := (by have hr_9 := hr_9.symm; have hr_12 := hr_12.symm; subst hr_9 hr_12; exact (iN c_6 (iN c_10 rfl)))
                exact ih_62 r_12 (x4_62 + 1) (by have hr_9 := hr_9.symm; have hr_12 := hr_12.symm; subst hr_9 hr_12; exact (nr (sn (nr (sn hs_62 c_6)) c_10))) (fun q hq => hex_62 q (he_13.trans hq)) (fun r hq => hret_62 r (he_13.trans hq)) _ _ hP hS ls (lv_sub hl [2, 1, 0] rfl)
              · refine lv_iload hx hb dX11_carried_80 (lv_at hl 2 rfl) ?_
                have he_14 : f_X11_carried_L62 (n + 1) S x3_62 x4_62 = .inl (x4_62) := (by have hr_9 := hr_9.symm; subst hr_9; exact (iN c_6 (ip c_10 rfl)))
                exact hret_62 _ he_14 _ _ hP hS 82 ls dX11_carried_82
        refine hLp_62 ((fu 0 7)) (1 <<< (p0 &&& 31)) 0 (by have hr_1 := hr_1.symm; have hr_3 := hr_3.symm; subst hr_1 hr_3; exact nl (sp (sn (sn hs c_2) c_4) c_5)) (fun q_62 hq_62 H locs hP hS ls hl => ?_) (fun r hr_62 H locs hP hS pc_62 ls hd_62 => ?_) _ _ hP hS ls (lv_sub hl [2, 1, 0] rfl)
        · refine lv_iconst (v := (-1)) hx hb dX11_carried_95 (by decide) ?_
          exact xret_iR hC hP hS hb hr ((by have hr_1 := hr_1.symm; have hr_3 := hr_3.symm; subst hr_1 hr_3; exact (iN c_2 (iN c_4 (ip c_5 (sm_r hq_62 rfl)))))) dX11_carried_96 hlocks
        · exact xret_iR hC hP hS hb hr ((by have hr_1 := hr_1.symm; have hr_3 := hr_3.symm; subst hr_1 hr_3; exact (iN c_2 (iN c_4 (ip c_5 (sm_l hr_62 rfl)))))) hd_62 hlocks
      · refine lv_iconst (v := 0) hx hb dX11_carried_36 (by decide) ?_
        refine lv_istore (lv' := [(4, .int 0), (3, .int (1 <<< (p0 &&& 31))), (0, .ref (X.2.1 127)), (1, .int p0), (2, .int p1)]) hx hb dX11_carried_37 hl (by decide) rfl (fun ls hl => ?_)
        have hLp_39 : ∀ (n : Nat) (x2_39 : Int32) (x3_39 : Int32) (x4_39 : Int32), s_X11_carried_L39 n S x2_39 x3_39 x4_39 → (∀ q : Int32, q = f_X11_carried_L39 n S x2_39 x3_39 x4_39 → (∀ (H : Heap) (locs : List Loc), va_P X.1 vwCl (xW X S) H → va_S (xA X) s.heap H locs → ∀ (ls : Array Slot), lv_has ls 5 [(3, .int q)] → W p l e ({ frames := 3, cells := 0, slots := 0, locals := 68 } : Room) s m ([.ref (X.2.1 127), .int p0, .int p1] : List Value).toArray below meth c H locs 0 0 (MQ below (va_Qi (fun (r : Int32) (u : xS) => r = (f_X11_carried S p0 p1) ∧ u = S) (xI X) (xA X)) ([.ref (X.2.1 127), .int p0, .int p1] : List Value).toArray s 0 0 (xA X)) (F0 m 57 ls []))) → ∀ (H : Heap) (locs : List Loc), va_P X.1 vwCl (xW X S) H → va_S (xA X) s.heap H locs → ∀ (ls : Array Slot), lv_has ls 5 [(0, .ref (X.2.1 127)), (2, .int x2_39), (3, .int x3_39), (4, .int x4_39)] → W p l e ({ frames := 3, cells := 0, slots := 0, locals := 68 } : Room) s m ([.ref (X.2.1 127), .int p0, .int p1] : List Value).toArray below meth c H locs 0 0 (MQ below (va_Qi (fun (r : Int32) (u : xS) => r = (f_X11_carried S p0 p1) ∧ u = S) (xI X) (xA X)) ([.ref (X.2.1 127), .int p0, .int p1] : List Value).toArray s 0 0 (xA X)) (F0 m 39 ls []) := by
          intro n
          induction n with
          | zero => intro x2_39 x3_39 x4_39 hs; exact hs.elim
          | succ n ih_39 =>
            intro x2_39 x3_39 x4_39 hs_39 hex_39 H locs hP hS ls hl
            refine lv_iload hx hb dX11_carried_39 (lv_at hl 3 rfl) ?_
            refine lv_iload_n hx hb dX11_carried_41 rfl (lv_at hl 1 rfl) ?_
            refine lv_icmp_ge (tgt := 57) hx hb dX11_carried_42 (by decide) (fun c_15 => ?_) (fun c_15 => ?_)
            · have he_16 : f_X11_carried_L39 (n + 1) S x2_39 x3_39 x4_39 = x3_39 := ((ip c_15 rfl))
              exact hex_39 _ he_16.symm _ _ hP hS ls (lv_sub hl [2] rfl)
            · refine lv_aload_n hx hb dX11_carried_45 rfl (lv_at hl 0 rfl) ?_
              refine lv_iload_n hx hb dX11_carried_46 rfl (lv_at hl 2 rfl) ?_
              have hn_17 : s_X11_knowThen S x3_39 := (nl (sn hs_39 c_15))
              refine xcV_iR (b := 127) (As := [.int x3_39]) (rest := []) hC hP hS (k_X11_knowThen l X S x3_39 hn_17) (cwV 1 hts gX11_carried_X11_knowThen rfl rfl rfl hd_X11_knowThen ⟨Nat.le_of_ble_eq_true rfl, Nat.le_of_ble_eq_true rfl⟩) xo_X11 rfl rfl rfl hl.1 (Nat.le_of_ble_eq_true rfl) dX11_carried_47 (fun r_18 hr_18 H locs hP hS => ?_)
              refine lv_istore_n (lv' := [(3, .int r_18), (0, .ref (X.2.1 127)), (2, .int x2_39), (4, .int x4_39)]) hx hb dX11_carried_50 rfl hl (by decide) rfl (fun ls hl => ?_)
              refine lv_iinc (v := (x4_39 + 1)) (lv' := [(4, .int (x4_39 + 1)), (3, .int r_18), (0, .ref (X.2.1 127)), (2, .int x2_39)]) hx hb dX11_carried_51 hl (k := 3) rfl rfl (by decide) rfl (fun ls hl => ?_)
              refine lv_goto (tgt := 39) hx hb dX11_carried_54 (by decide) ?_
              have he_19 : f_X11_carried_L39 (n + 1) S x2_39 x3_39 x4_39 = f_X11_carried_L39 n S x2_39 r_18 (x4_39 + 1) := (by have hr_18 := hr_18.symm; subst hr_18; exact (iN c_15 rfl))
              exact ih_39 x2_39 r_18 (x4_39 + 1) (by have hr_18 := hr_18.symm; subst hr_18; exact (nr (sn hs_39 c_15))) (fun q hq => hex_39 q (hq.trans he_19.symm)) _ _ hP hS ls (lv_sub hl [2, 3, 1, 0] rfl)
        refine hLp_39 ((fu 0 p1)) p1 (1 <<< (p0 &&& 31)) 0 (by have hr_1 := hr_1.symm; have hr_3 := hr_3.symm; subst hr_1 hr_3; exact nl (sn (sn (sn hs c_2) c_4) c_5)) (fun q_39 hq_39 H locs hP hS ls hl => ?_) _ _ hP hS ls (lv_sub hl [2, 4, 1, 0] rfl)
        refine lv_iload_n hx hb dX11_carried_57 rfl (lv_at hl 0 rfl) ?_
        exact xret_iR hC hP hS hb hr ((by have hr_1 := hr_1.symm; have hr_3 := hr_3.symm; have hq_39 := hq_39.symm; subst hr_1 hr_3 hq_39; exact (iN c_2 (iN c_4 (iN c_5 rfl))))) dX11_carried_58 hlocks
    · refine lv_ldc (v := (-1000000002)) hx hb hown (hts (.constant RX11 91 (-1000000002)) (List.mem_of_getElem? (i := 4) rfl)) dX11_carried_25 ?_
      exact xret_iR hC hP hS hb hr ((by have hr_1 := hr_1.symm; have hr_3 := hr_3.symm; subst hr_1 hr_3; exact (iN c_2 (ip c_4 rfl)))) dX11_carried_27 hlocks
  · refine lv_ldc (v := (-1000000001)) hx hb hown (hts (.constant RX11 230 (-1000000001)) (List.mem_of_getElem? (i := 1) rfl)) dX11_carried_8 ?_
    exact xret_iR hC hP hS hb hr ((by have hr_1 := hr_1.symm; subst hr_1; exact (ip c_2 rfl))) dX11_carried_10 hlocks
