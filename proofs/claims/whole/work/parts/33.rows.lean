set_option linter.all false
/-! contracts: X11_passes, X11_praised, X11_silentBy -/
theorem hd_X11_passes : yX11_passes.cls = RX11 ∧ yX11_passes.cls ≠ "java/lang/invoke/MethodHandle" ∧ yX11_passes.cls ≠ "java/lang/invoke/VarHandle" ∧ (parseMethodDescriptor yX11_passes.desc).map (fun d => d.parameters.length) = some 1 := by decide +kernel
set_option maxHeartbeats 4000000 in
set_option maxRecDepth 100000 in
theorem k_X11_passes (l : Launch) (X : xX) (S : xS) (k0 : Nat) (hk0 : isI k0 = true) (hs : s_X11_passes S k0) : Met l yX11_passes wsX11_passes ({ frames := 3, cells := 0, slots := 0, locals := 68 } : Room) (va_Pc [.ref (X.2.1 127), .ref (X.2.1 k0)] (xI X S)) (va_Qv (fun u : xS => u = (f_X11_passes S k0)) (xI X) (xA X)) 0 0 (xA X) := by
  refine Met.ofW (cc := cX11_passes) (maxL := 5) (ret := none) (by decide +kernel) rfl ?_
  intro p e s m args below meth c s₁ B hml hv
  obtain ⟨rfl, hP, hK, hN, hJ⟩ := hv
  have hx := B.exec
  have hb := B.bytes
  have hr := B.returns
  have hts := atoms_spec (ws := wsX11_passes) B.pre
  have hown : s.vm.findClass RX11 = some m.cls := findClass_of_methodNamed B.named
  have hlocks := B.notSynchronized
  have hC : xC X p m c cX11_passes 5 s _ wsX11_passes RX11 := ⟨⟨hx, hb, hml, hown, hts⟩, hK, hN, hJ⟩
  have hS : va_S (xA X) s.heap s.heap [] := va_S.rf
  have hin_X11 : ∀ w ∈ u_ws RX11 TX11 41, w ∈ wsX11_passes := by decide +kernel
  have hl := lv_entry ([.ref (X.2.1 127), .ref (X.2.1 k0)]) (n := 5) (Nat.le_of_ble_eq_true rfl)
  rw [lg_entry_eq]
  generalize (lg_sl ([.ref (X.2.1 127), .ref (X.2.1 k0)]) ++ List.replicate (5 - (lg_sl ([.ref (X.2.1 127), .ref (X.2.1 k0)])).length) Slot.unset).toArray = ls at hl ⊢
  have hl : lv_has ls 5 [(0, .ref (X.2.1 127)), (1, .ref (X.2.1 k0))] := hl
  refine lv_iconst (v := 0) hx hb dX11_passes_0 (by decide) ?_
  refine lv_istore_n (lv' := [(2, .int 0), (0, .ref (X.2.1 127)), (1, .ref (X.2.1 k0))]) hx hb dX11_passes_1 rfl hl (by decide) rfl (fun ls hl => ?_)
  have hLp_2 : ∀ (n : Nat) (T_2 : xS) (x2_2 : Int32), s_X11_passes_L2 n T_2 k0 x2_2 → (∀ q : xS, q = f_X11_passes_L2 n T_2 k0 x2_2 → (∀ (H : Heap) (locs : List Loc), va_P X.1 vwCl (xW X q) H → va_S (xA X) s.heap H locs → ∀ (ls : Array Slot), lv_has ls 5 [(0, .ref (X.2.1 127)), (1, .ref (X.2.1 k0))] → W p l e ({ frames := 3, cells := 0, slots := 0, locals := 68 } : Room) s m ([.ref (X.2.1 127), .ref (X.2.1 k0)] : List Value).toArray below meth c H locs 0 0 (MQ below (va_Qv (fun u : xS => u = (f_X11_passes S k0)) (xI X) (xA X)) ([.ref (X.2.1 127), .ref (X.2.1 k0)] : List Value).toArray s 0 0 (xA X)) (F0 m 92 ls []))) → ∀ (H : Heap) (locs : List Loc), va_P X.1 vwCl (xW X T_2) H → va_S (xA X) s.heap H locs → ∀ (ls : Array Slot), lv_has ls 5 [(0, .ref (X.2.1 127)), (1, .ref (X.2.1 k0)), (2, .int x2_2)] → W p l e ({ frames := 3, cells := 0, slots := 0, locals := 68 } : Room) s m ([.ref (X.2.1 127), .ref (X.2.1 k0)] : List Value).toArray below meth c H locs 0 0 (MQ below (va_Qv (fun u : xS => u = (f_X11_passes S k0)) (xI X) (xA X)) ([.ref (X.2.1 127), .ref (X.2.1 k0)] : List Value).toArray s 0 0 (xA X)) (F0 m 2 ls []) := by
    intro n
    induction n with
    | zero => intro T_2 x2_2 hs; exact hs.elim
    | succ n ih_2 =>
      intro T_2 x2_2 hs_2 hex_2 H locs hP hS ls hl
      refine lv_iload_n hx hb dX11_passes_2 rfl (lv_at hl 2 rfl) ?_
      refine lv_aload_n hx hb dX11_passes_3 rfl (lv_at hl 0 rfl) ?_
      refine xget (ref := "AbsentPraiseModel") (T := TX11) (v := .int (T_2 127 6)) hC hP hin_X11 xo_X11 rfl 6 (by decide) (List.mem_of_getElem? (i := 1) rfl) rfl rfl dX11_passes_4 ?_
      refine lv_icmp_ge (tgt := 92) hx hb dX11_passes_7 (by decide) (fun c_1 => ?_) (fun c_1 => ?_)
      · have he_2 : f_X11_passes_L2 (n + 1) T_2 k0 x2_2 = T_2 := ((ip c_1 rfl))
        exact hex_2 _ he_2.symm _ _ hP hS ls (lv_sub hl [0, 1] rfl)
      · refine lv_aload_n hx hb dX11_passes_10 rfl (lv_at hl 0 rfl) ?_
        refine lv_iload_n hx hb dX11_passes_11 rfl (lv_at hl 2 rfl) ?_
        refine lv_aload_n hx hb dX11_passes_12 rfl (lv_at hl 1 rfl) ?_
        refine lv_iconst (v := 0) hx hb dX11_passes_13 (by decide) ?_
        have hn_3 : vp_in 0 (xlen k0) := (nl (sn hs_2 c_1))
        refine xiald hC hP hk0 hn_3 dX11_passes_14 ?_
        have hn_4 : s_X11_spokenOf T_2 x2_2 (T_2 k0 (0 : Int32).toNatClampNeg) := (nl (nr (sn hs_2 c_1)))
        refine xcV_iR (b := 127) (As := [.int x2_2, .int (T_2 k0 (0 : Int32).toNatClampNeg)]) (rest := []) hC hP hS (k_X11_spokenOf l X T_2 x2_2 (T_2 k0 (0 : Int32).toNatClampNeg) hn_4) (cwV 2 hts gX11_passes_X11_spokenOf rfl rfl rfl hd_X11_spokenOf ⟨Nat.le_of_ble_eq_true rfl, Nat.le_of_ble_eq_true rfl⟩) xo_X11 rfl rfl rfl hl.1 (Nat.le_of_ble_eq_true rfl) dX11_passes_15 (fun r_5 hr_5 H locs hP hS => ?_)
        refine lv_istore_n (lv' := [(3, .int r_5), (0, .ref (X.2.1 127)), (1, .ref (X.2.1 k0)), (2, .int x2_2)]) hx hb dX11_passes_18 rfl hl (by decide) rfl (fun ls hl => ?_)
        refine lv_iload_n hx hb dX11_passes_19 rfl (lv_at hl 0 rfl) ?_
        refine lv_iload_n hx hb dX11_passes_20 rfl (lv_at hl 3 rfl) ?_
        refine lv_icmp_eq (tgt := 86) hx hb dX11_passes_21 (by decide) (fun c_6 => ?_) (fun c_6 => ?_)
        · refine lv_iinc (v := (x2_2 + 1)) (lv' := [(2, .int (x2_2 + 1)), (3, .int r_5), (0, .ref (X.2.1 127)), (1, .ref (X.2.1 k0))]) hx hb dX11_passes_86 hl (k := 3) rfl rfl (by decide) rfl (fun ls hl => ?_)
          refine lv_goto (tgt := 2) hx hb dX11_passes_89 (by decide) ?_
          have he_7 : f_X11_passes_L2 (n + 1) T_2 k0 x2_2 = f_X11_passes_L2 n T_2 k0 (x2_2 + 1) := (by have hr_5 := hr_5.symm; subst hr_5; exact (iN c_1 (ip c_6 rfl)))
          exact ih_2 T_2 (x2_2 + 1) (by have hr_5 := hr_5.symm; subst hr_5; exact (sp (nr (nr (sn hs_2 c_1))) c_6)) (fun q hq => hex_2 q (hq.trans he_7.symm)) _ _ hP hS ls (lv_sub hl [2, 3, 0] rfl)
        · refine lv_aload_n hx hb dX11_passes_24 rfl (lv_at hl 1 rfl) ?_
          refine lv_aload_n hx hb dX11_passes_25 rfl (lv_at hl 2 rfl) ?_
          refine lv_iload_n hx hb dX11_passes_26 rfl (lv_at hl 3 rfl) ?_
          refine lv_iload_n hx hb dX11_passes_27 rfl (lv_at hl 0 rfl) ?_
          have hn_8 : s_X11_hears T_2 k0 x2_2 r_5 := (by have hr_5 := hr_5.symm; subst hr_5; exact nl (sn (nr (nr (sn hs_2 c_1))) c_6))
          refine xcV_iR (b := 127) (As := [.ref (X.2.1 k0), .int x2_2, .int r_5]) (rest := []) hC hP hS (k_X11_hears l X T_2 k0 x2_2 r_5 hk0 hn_8) (cwV 3 hts gX11_passes_X11_hears rfl rfl rfl hd_X11_hears ⟨Nat.le_of_ble_eq_true rfl, Nat.le_of_ble_eq_true rfl⟩) xo_X11 rfl rfl rfl hl.1 (Nat.le_of_ble_eq_true rfl) dX11_passes_28 (fun r_9 hp_r_9 H locs hP hS => ?_)
          obtain ⟨hr_9, hzr_9⟩ := hp_r_9
          refine lv_if_eq (tgt := 86) hx hb dX11_passes_31 (by decide) (fun c_10 => ?_) (fun c_10 => ?_)
          · refine lv_iinc (v := (x2_2 + 1)) (lv' := [(2, .int (x2_2 + 1)), (3, .int r_5), (0, .ref (X.2.1 127)), (1, .ref (X.2.1 k0))]) hx hb dX11_passes_86 hl (k := 3) rfl rfl (by decide) rfl (fun ls hl => ?_)
            refine lv_goto (tgt := 2) hx hb dX11_passes_89 (by decide) ?_
            have he_11 : f_X11_passes_L2 (n + 1) T_2 k0 x2_2 = f_X11_passes_L2 n T_2 k0 (x2_2 + 1) := (by have hr_5 := hr_5.symm; have hr_9 := hr_9.symm; subst hr_5 hr_9; exact (iN c_1 (iN c_6 (ip c_10 rfl))))
            exact ih_2 T_2 (x2_2 + 1) (by have hr_5 := hr_5.symm; have hr_9 := hr_9.symm; subst hr_5 hr_9; exact (sp (nr (sn (nr (nr (sn hs_2 c_1))) c_6)) c_10)) (fun q hq => hex_2 q (hq.trans he_11.symm)) _ _ hP hS ls (lv_sub hl [2, 3, 0] rfl)
          · refine lv_aload_n hx hb dX11_passes_34 rfl (lv_at hl 2 rfl) ?_
            refine lv_bipush (v := 9) hx hb dX11_passes_35 (by decide) ?_
            refine lv_iload_n hx hb dX11_passes_37 rfl (lv_at hl 0 rfl) ?_
            refine lv_iadd hx hb dX11_passes_38 ?_
            have hn_12 : vp_in (9 + r_5) (xlen k0) := (by have hr_5 := hr_5.symm; have hr_9 := hr_9.symm; subst hr_5 hr_9; exact nl (sn (nr (sn (nr (nr (sn hs_2 c_1))) c_6)) c_10))
            refine xiald hC hP hk0 hn_12 dX11_passes_39 ?_
            refine lv_aload_n hx hb dX11_passes_40 rfl (lv_at hl 1 rfl) ?_
            refine lv_aload_n hx hb dX11_passes_41 rfl (lv_at hl 2 rfl) ?_
            refine lv_iload_n hx hb dX11_passes_42 rfl (lv_at hl 3 rfl) ?_
            refine lv_iload_n hx hb dX11_passes_43 rfl (lv_at hl 0 rfl) ?_
            have hn_13 : s_X11_says T_2 k0 x2_2 r_5 := (by have hr_5 := hr_5.symm; have hr_9 := hr_9.symm; subst hr_5 hr_9; exact nl (nr (sn (nr (sn (nr (nr (sn hs_2 c_1))) c_6)) c_10)))
            refine xcV_iR (b := 127) (As := [.ref (X.2.1 k0), .int x2_2, .int r_5]) (rest := [.int (T_2 k0 ((9 + r_5)).toNatClampNeg)]) hC hP hS (k_X11_says l X T_2 k0 x2_2 r_5 hk0 hn_13) (cwV 3 hts gX11_passes_X11_says rfl rfl rfl hd_X11_says ⟨Nat.le_of_ble_eq_true rfl, Nat.le_of_ble_eq_true rfl⟩) xo_X11 rfl rfl rfl hl.1 (Nat.le_of_ble_eq_true rfl) dX11_passes_44 (fun r_14 hr_14 H locs hP hS => ?_)
            refine lv_iadd hx hb dX11_passes_47 ?_
            refine lv_istore (lv' := [(4, .int ((T_2 k0 ((9 + r_5)).toNatClampNeg) + r_14)), (3, .int r_5), (0, .ref (X.2.1 127)), (1, .ref (X.2.1 k0)), (2, .int x2_2)]) hx hb dX11_passes_48 hl (by decide) rfl (fun ls hl => ?_)
            refine lv_aload_n hx hb dX11_passes_50 rfl (lv_at hl 3 rfl) ?_
            refine lv_bipush (v := 9) hx hb dX11_passes_51 (by decide) ?_
            refine lv_iload_n hx hb dX11_passes_53 rfl (lv_at hl 1 rfl) ?_
            refine lv_iadd hx hb dX11_passes_54 ?_
            refine lv_iload hx hb dX11_passes_55 (lv_at hl 0 rfl) ?_
            refine lv_sipush (v := 9999) hx hb dX11_passes_57 (by decide) ?_
            refine lv_icmp_le (tgt := 69) hx hb dX11_passes_60 (by decide) (fun c_15 => ?_) (fun c_15 => ?_)
            · refine lv_iload hx hb dX11_passes_69 (lv_at hl 0 rfl) ?_
              refine lv_sipush (v := (-9999)) hx hb dX11_passes_71 (by decide) ?_
              refine lv_icmp_ge (tgt := 83) hx hb dX11_passes_74 (by decide) (fun c_16 => ?_) (fun c_16 => ?_)
              · refine lv_iload hx hb dX11_passes_83 (lv_at hl 0 rfl) ?_
                refine xiast hC hP hS hk0 hn_12 dX11_passes_85 (fun S_17 hS_17 H locs hP hS => ?_)
                refine lv_iinc (v := (x2_2 + 1)) (lv' := [(2, .int (x2_2 + 1)), (4, .int ((T_2 k0 ((9 + r_5)).toNatClampNeg) + r_14)), (3, .int r_5), (0, .ref (X.2.1 127)), (1, .ref (X.2.1 k0))]) hx hb dX11_passes_86 hl (k := 4) rfl rfl (by decide) rfl (fun ls hl => ?_)
                refine lv_goto (tgt := 2) hx hb dX11_passes_89 (by decide) ?_
                have he_18 : f_X11_passes_L2 (n + 1) T_2 k0 x2_2 = f_X11_passes_L2 n S_17 k0 (x2_2 + 1) := (by have hr_5 := hr_5.symm; have hr_9 := hr_9.symm; have hr_14 := hr_14.symm; have hS_17 := hS_17.symm; subst hr_5 hr_9 hr_14 hS_17; exact (iN c_1 (iN c_6 (iN c_10 (ip c_15 (ip c_16 rfl))))))
                exact ih_2 S_17 (x2_2 + 1) (by have hr_5 := hr_5.symm; have hr_9 := hr_9.symm; have hr_14 := hr_14.symm; have hS_17 := hS_17.symm; subst hr_5 hr_9 hr_14 hS_17; exact (sp (sp (nr (nr (sn (nr (sn (nr (nr (sn hs_2 c_1))) c_6)) c_10))) c_15) c_16)) (fun q hq => hex_2 q (hq.trans he_18.symm)) _ _ hP hS ls (lv_sub hl [3, 4, 0] rfl)
              · refine lv_sipush (v := (-9999)) hx hb dX11_passes_77 (by decide) ?_
                refine lv_goto (tgt := 85) hx hb dX11_passes_80 (by decide) ?_
                refine xiast hC hP hS hk0 hn_12 dX11_passes_85 (fun S_19 hS_19 H locs hP hS => ?_)
                refine lv_iinc (v := (x2_2 + 1)) (lv' := [(2, .int (x2_2 + 1)), (4, .int ((T_2 k0 ((9 + r_5)).toNatClampNeg) + r_14)), (3, .int r_5), (0, .ref (X.2.1 127)), (1, .ref (X.2.1 k0))]) hx hb dX11_passes_86 hl (k := 4) rfl rfl (by decide) rfl (fun ls hl => ?_)
                refine lv_goto (tgt := 2) hx hb dX11_passes_89 (by decide) ?_
                have he_20 : f_X11_passes_L2 (n + 1) T_2 k0 x2_2 = f_X11_passes_L2 n S_19 k0 (x2_2 + 1) := (by have hr_5 := hr_5.symm; have hr_9 := hr_9.symm; have hr_14 := hr_14.symm; have hS_19 := hS_19.symm; subst hr_5 hr_9 hr_14 hS_19; exact (iN c_1 (iN c_6 (iN c_10 (ip c_15 (iN c_16 rfl))))))
                exact ih_2 S_19 (x2_2 + 1) (by have hr_5 := hr_5.symm; have hr_9 := hr_9.symm; have hr_14 := hr_14.symm; have hS_19 := hS_19.symm; subst hr_5 hr_9 hr_14 hS_19; exact (sn (sp (nr (nr (sn (nr (sn (nr (nr (sn hs_2 c_1))) c_6)) c_10))) c_15) c_16)) (fun q hq => hex_2 q (hq.trans he_20.symm)) _ _ hP hS ls (lv_sub hl [3, 4, 0] rfl)
            · refine lv_sipush (v := 9999) hx hb dX11_passes_63 (by decide) ?_
              refine lv_goto (tgt := 85) hx hb dX11_passes_66 (by decide) ?_
              refine xiast hC hP hS hk0 hn_12 dX11_passes_85 (fun S_21 hS_21 H locs hP hS => ?_)
              refine lv_iinc (v := (x2_2 + 1)) (lv' := [(2, .int (x2_2 + 1)), (4, .int ((T_2 k0 ((9 + r_5)).toNatClampNeg) + r_14)), (3, .int r_5), (0, .ref (X.2.1 127)), (1, .ref (X.2.1 k0))]) hx hb dX11_passes_86 hl (k := 4) rfl rfl (by decide) rfl (fun ls hl => ?_)
              refine lv_goto (tgt := 2) hx hb dX11_passes_89 (by decide) ?_
              have he_22 : f_X11_passes_L2 (n + 1) T_2 k0 x2_2 = f_X11_passes_L2 n S_21 k0 (x2_2 + 1) := (by have hr_5 := hr_5.symm; have hr_9 := hr_9.symm; have hr_14 := hr_14.symm; have hS_21 := hS_21.symm; subst hr_5 hr_9 hr_14 hS_21; exact (iN c_1 (iN c_6 (iN c_10 (iN c_15 rfl)))))
              exact ih_2 S_21 (x2_2 + 1) (by have hr_5 := hr_5.symm; have hr_9 := hr_9.symm; have hr_14 := hr_14.symm; have hS_21 := hS_21.symm; subst hr_5 hr_9 hr_14 hS_21; exact (sn (nr (nr (sn (nr (sn (nr (nr (sn hs_2 c_1))) c_6)) c_10))) c_15)) (fun q hq => hex_2 q (hq.trans he_22.symm)) _ _ hP hS ls (lv_sub hl [3, 4, 0] rfl)
  refine hLp_2 ((fu 0 (S 127 6))) S 0 (nl hs) (fun q_2 hq_2 H locs hP hS ls hl => ?_) _ _ hP hS ls (lv_sub hl [1, 2, 0] rfl)
  refine lv_iconst (v := 0) hx hb dX11_passes_92 (by decide) ?_
  refine lv_istore_n (lv' := [(2, .int 0), (0, .ref (X.2.1 127)), (1, .ref (X.2.1 k0))]) hx hb dX11_passes_93 rfl hl (by decide) rfl (fun ls hl => ?_)
  have hLp_94 : ∀ (n : Nat) (T_94 : xS) (x2_94 : Int32), s_X11_passes_L94 n T_94 k0 x2_94 → (∀ q : xS, q = f_X11_passes_L94 n T_94 k0 x2_94 → (∀ (H : Heap) (locs : List Loc), va_P X.1 vwCl (xW X q) H → va_S (xA X) s.heap H locs → ∀ (ls : Array Slot), lv_has ls 5 [(1, .ref (X.2.1 k0))] → W p l e ({ frames := 3, cells := 0, slots := 0, locals := 68 } : Room) s m ([.ref (X.2.1 127), .ref (X.2.1 k0)] : List Value).toArray below meth c H locs 0 0 (MQ below (va_Qv (fun u : xS => u = (f_X11_passes S k0)) (xI X) (xA X)) ([.ref (X.2.1 127), .ref (X.2.1 k0)] : List Value).toArray s 0 0 (xA X)) (F0 m 162 ls []))) → ∀ (H : Heap) (locs : List Loc), va_P X.1 vwCl (xW X T_94) H → va_S (xA X) s.heap H locs → ∀ (ls : Array Slot), lv_has ls 5 [(0, .ref (X.2.1 127)), (1, .ref (X.2.1 k0)), (2, .int x2_94)] → W p l e ({ frames := 3, cells := 0, slots := 0, locals := 68 } : Room) s m ([.ref (X.2.1 127), .ref (X.2.1 k0)] : List Value).toArray below meth c H locs 0 0 (MQ below (va_Qv (fun u : xS => u = (f_X11_passes S k0)) (xI X) (xA X)) ([.ref (X.2.1 127), .ref (X.2.1 k0)] : List Value).toArray s 0 0 (xA X)) (F0 m 94 ls []) := by
    intro n
    induction n with
    | zero => intro T_94 x2_94 hs; exact hs.elim
    | succ n ih_94 =>
      intro T_94 x2_94 hs_94 hex_94 H locs hP hS ls hl
      refine lv_iload_n hx hb dX11_passes_94 rfl (lv_at hl 2 rfl) ?_
      refine lv_aload_n hx hb dX11_passes_95 rfl (lv_at hl 0 rfl) ?_
      refine xget (ref := "AbsentPraiseModel") (T := TX11) (v := .int (T_94 127 6)) hC hP hin_X11 xo_X11 rfl 6 (by decide) (List.mem_of_getElem? (i := 1) rfl) rfl rfl dX11_passes_96 ?_
      refine lv_icmp_ge (tgt := 162) hx hb dX11_passes_99 (by decide) (fun c_23 => ?_) (fun c_23 => ?_)
      · have he_24 : f_X11_passes_L94 (n + 1) T_94 k0 x2_94 = T_94 := ((ip c_23 rfl))
        exact hex_94 _ he_24.symm _ _ hP hS ls (lv_sub hl [1] rfl)
      · refine lv_aload_n hx hb dX11_passes_102 rfl (lv_at hl 1 rfl) ?_
        refine lv_bipush (v := 16) hx hb dX11_passes_103 (by decide) ?_
        refine lv_iload_n hx hb dX11_passes_105 rfl (lv_at hl 2 rfl) ?_
        refine lv_iadd hx hb dX11_passes_106 ?_
        have hn_25 : vp_in (16 + x2_94) (xlen k0) := (nl (sn hs_94 c_23))
        refine xiald hC hP hk0 hn_25 dX11_passes_107 ?_
        refine lv_aload_n hx hb dX11_passes_108 rfl (lv_at hl 0 rfl) ?_
        refine xget (ref := "AbsentPraiseModel") (T := TX11) (v := .int (T_94 127 1)) hC hP hin_X11 xo_X11 rfl 1 (by decide) (List.mem_of_getElem? (i := 2) rfl) rfl rfl dX11_passes_109 ?_
        refine lv_aload_n hx hb dX11_passes_112 rfl (lv_at hl 1 rfl) ?_
        refine lv_iconst (v := 2) hx hb dX11_passes_113 (by decide) ?_
        refine lv_iload_n hx hb dX11_passes_114 rfl (lv_at hl 2 rfl) ?_
        refine lv_iadd hx hb dX11_passes_115 ?_
        have hn_26 : vp_in (2 + x2_94) (xlen k0) := (nl (nr (sn hs_94 c_23)))
        refine xiald hC hP hk0 hn_26 dX11_passes_116 ?_
        refine xcS_iR (As := [.int (T_94 127 1), .int (T_94 k0 ((2 + x2_94)).toNatClampNeg)]) (rest := [.int (T_94 k0 ((16 + x2_94)).toNatClampNeg)]) hC hP hS (k_X11_has l X T_94 (T_94 127 1) (T_94 k0 ((2 + x2_94)).toNatClampNeg)) (va_cwS 2 hts gX11_passes_X11_has rfl rfl rfl hs_X11_has ⟨Nat.le_of_ble_eq_true rfl, Nat.le_of_ble_eq_true rfl⟩) rfl rfl hl.1 (Nat.le_of_ble_eq_true rfl) dX11_passes_117 (fun r_27 hp_r_27 H locs hP hS => ?_)
        obtain ⟨hr_27, hzr_27⟩ := hp_r_27
        refine lv_if_eq (tgt := 127) hx hb dX11_passes_120 (by decide) (fun c_28 => ?_) (fun c_28 => ?_)
        · refine lv_iconst (v := (-1)) hx hb dX11_passes_127 (by decide) ?_
          refine lv_iadd hx hb dX11_passes_128 ?_
          refine lv_istore_n (lv' := [(3, .int ((T_94 k0 ((16 + x2_94)).toNatClampNeg) + (-1))), (0, .ref (X.2.1 127)), (1, .ref (X.2.1 k0)), (2, .int x2_94)]) hx hb dX11_passes_129 rfl hl (by decide) rfl (fun ls hl => ?_)
          refine lv_aload_n hx hb dX11_passes_130 rfl (lv_at hl 2 rfl) ?_
          refine lv_bipush (v := 16) hx hb dX11_passes_131 (by decide) ?_
          refine lv_iload_n hx hb dX11_passes_133 rfl (lv_at hl 3 rfl) ?_
          refine lv_iadd hx hb dX11_passes_134 ?_
          refine lv_iload_n hx hb dX11_passes_135 rfl (lv_at hl 0 rfl) ?_
          refine lv_bipush (v := 99) hx hb dX11_passes_136 (by decide) ?_
          refine lv_icmp_le (tgt := 146) hx hb dX11_passes_138 (by decide) (fun c_29 => ?_) (fun c_29 => ?_)
          · refine lv_iload_n hx hb dX11_passes_146 rfl (lv_at hl 0 rfl) ?_
            refine lv_if_ge (tgt := 154) hx hb dX11_passes_147 (by decide) (fun c_30 => ?_) (fun c_30 => ?_)
            · refine lv_iload_n hx hb dX11_passes_154 rfl (lv_at hl 0 rfl) ?_
              refine xiast hC hP hS hk0 hn_25 dX11_passes_155 (fun S_31 hS_31 H locs hP hS => ?_)
              refine lv_iinc (v := (x2_94 + 1)) (lv' := [(2, .int (x2_94 + 1)), (3, .int ((T_94 k0 ((16 + x2_94)).toNatClampNeg) + (-1))), (0, .ref (X.2.1 127)), (1, .ref (X.2.1 k0))]) hx hb dX11_passes_156 hl (k := 3) rfl rfl (by decide) rfl (fun ls hl => ?_)
              refine lv_goto (tgt := 94) hx hb dX11_passes_159 (by decide) ?_
              have he_32 : f_X11_passes_L94 (n + 1) T_94 k0 x2_94 = f_X11_passes_L94 n S_31 k0 (x2_94 + 1) := (by have hr_27 := hr_27.symm; have hS_31 := hS_31.symm; subst hr_27 hS_31; exact (iN c_23 (ip c_28 (ip c_29 (ip c_30 rfl)))))
              exact ih_94 S_31 (x2_94 + 1) (by have hr_27 := hr_27.symm; have hS_31 := hS_31.symm; subst hr_27 hS_31; exact (sp (sp (sp (nr (nr (sn hs_94 c_23))) c_28) c_29) c_30)) (fun q hq => hex_94 q (hq.trans he_32.symm)) _ _ hP hS ls (lv_sub hl [2, 3, 0] rfl)
            · refine lv_iconst (v := 0) hx hb dX11_passes_150 (by decide) ?_
              refine lv_goto (tgt := 155) hx hb dX11_passes_151 (by decide) ?_
              refine xiast hC hP hS hk0 hn_25 dX11_passes_155 (fun S_33 hS_33 H locs hP hS => ?_)
              refine lv_iinc (v := (x2_94 + 1)) (lv' := [(2, .int (x2_94 + 1)), (3, .int ((T_94 k0 ((16 + x2_94)).toNatClampNeg) + (-1))), (0, .ref (X.2.1 127)), (1, .ref (X.2.1 k0))]) hx hb dX11_passes_156 hl (k := 3) rfl rfl (by decide) rfl (fun ls hl => ?_)
              refine lv_goto (tgt := 94) hx hb dX11_passes_159 (by decide) ?_
              have he_34 : f_X11_passes_L94 (n + 1) T_94 k0 x2_94 = f_X11_passes_L94 n S_33 k0 (x2_94 + 1) := (by have hr_27 := hr_27.symm; have hS_33 := hS_33.symm; subst hr_27 hS_33; exact (iN c_23 (ip c_28 (ip c_29 (iN c_30 rfl)))))
              exact ih_94 S_33 (x2_94 + 1) (by have hr_27 := hr_27.symm; have hS_33 := hS_33.symm; subst hr_27 hS_33; exact (sn (sp (sp (nr (nr (sn hs_94 c_23))) c_28) c_29) c_30)) (fun q hq => hex_94 q (hq.trans he_34.symm)) _ _ hP hS ls (lv_sub hl [2, 3, 0] rfl)
          · refine lv_bipush (v := 99) hx hb dX11_passes_141 (by decide) ?_
            refine lv_goto (tgt := 155) hx hb dX11_passes_143 (by decide) ?_
            refine xiast hC hP hS hk0 hn_25 dX11_passes_155 (fun S_35 hS_35 H locs hP hS => ?_)
            refine lv_iinc (v := (x2_94 + 1)) (lv' := [(2, .int (x2_94 + 1)), (3, .int ((T_94 k0 ((16 + x2_94)).toNatClampNeg) + (-1))), (0, .ref (X.2.1 127)), (1, .ref (X.2.1 k0))]) hx hb dX11_passes_156 hl (k := 3) rfl rfl (by decide) rfl (fun ls hl => ?_)
            refine lv_goto (tgt := 94) hx hb dX11_passes_159 (by decide) ?_
            have he_36 : f_X11_passes_L94 (n + 1) T_94 k0 x2_94 = f_X11_passes_L94 n S_35 k0 (x2_94 + 1) := (by have hr_27 := hr_27.symm; have hS_35 := hS_35.symm; subst hr_27 hS_35; exact (iN c_23 (ip c_28 (iN c_29 rfl))))
            exact ih_94 S_35 (x2_94 + 1) (by have hr_27 := hr_27.symm; have hS_35 := hS_35.symm; subst hr_27 hS_35; exact (sn (sp (nr (nr (sn hs_94 c_23))) c_28) c_29)) (fun q hq => hex_94 q (hq.trans he_36.symm)) _ _ hP hS ls (lv_sub hl [2, 3, 0] rfl)
        · refine lv_iconst (v := 1) hx hb dX11_passes_123 (by decide) ?_
          refine lv_goto (tgt := 128) hx hb dX11_passes_124 (by decide) ?_
          refine lv_iadd hx hb dX11_passes_128 ?_
          refine lv_istore_n (lv' := [(3, .int ((T_94 k0 ((16 + x2_94)).toNatClampNeg) + 1)), (0, .ref (X.2.1 127)), (1, .ref (X.2.1 k0)), (2, .int x2_94)]) hx hb dX11_passes_129 rfl hl (by decide) rfl (fun ls hl => ?_)
          refine lv_aload_n hx hb dX11_passes_130 rfl (lv_at hl 2 rfl) ?_
          refine lv_bipush (v := 16) hx hb dX11_passes_131 (by decide) ?_
          refine lv_iload_n hx hb dX11_passes_133 rfl (lv_at hl 3 rfl) ?_
          refine lv_iadd hx hb dX11_passes_134 ?_
          refine lv_iload_n hx hb dX11_passes_135 rfl (lv_at hl 0 rfl) ?_
          refine lv_bipush (v := 99) hx hb dX11_passes_136 (by decide) ?_
          refine lv_icmp_le (tgt := 146) hx hb dX11_passes_138 (by decide) (fun c_37 => ?_) (fun c_37 => ?_)
          · refine lv_iload_n hx hb dX11_passes_146 rfl (lv_at hl 0 rfl) ?_
            refine lv_if_ge (tgt := 154) hx hb dX11_passes_147 (by decide) (fun c_38 => ?_) (fun c_38 => ?_)
            · refine lv_iload_n hx hb dX11_passes_154 rfl (lv_at hl 0 rfl) ?_
              refine xiast hC hP hS hk0 hn_25 dX11_passes_155 (fun S_39 hS_39 H locs hP hS => ?_)
              refine lv_iinc (v := (x2_94 + 1)) (lv' := [(2, .int (x2_94 + 1)), (3, .int ((T_94 k0 ((16 + x2_94)).toNatClampNeg) + 1)), (0, .ref (X.2.1 127)), (1, .ref (X.2.1 k0))]) hx hb dX11_passes_156 hl (k := 3) rfl rfl (by decide) rfl (fun ls hl => ?_)
              refine lv_goto (tgt := 94) hx hb dX11_passes_159 (by decide) ?_
              have he_40 : f_X11_passes_L94 (n + 1) T_94 k0 x2_94 = f_X11_passes_L94 n S_39 k0 (x2_94 + 1) := (by have hr_27 := hr_27.symm; have hS_39 := hS_39.symm; subst hr_27 hS_39; exact (iN c_23 (iN c_28 (ip c_37 (ip c_38 rfl)))))
              exact ih_94 S_39 (x2_94 + 1) (by have hr_27 := hr_27.symm; have hS_39 := hS_39.symm; subst hr_27 hS_39; exact (sp (sp (sn (nr (nr (sn hs_94 c_23))) c_28) c_37) c_38)) (fun q hq => hex_94 q (hq.trans he_40.symm)) _ _ hP hS ls (lv_sub hl [2, 3, 0] rfl)
            · refine lv_iconst (v := 0) hx hb dX11_passes_150 (by decide) ?_
              refine lv_goto (tgt := 155) hx hb dX11_passes_151 (by decide) ?_
              refine xiast hC hP hS hk0 hn_25 dX11_passes_155 (fun S_41 hS_41 H locs hP hS => ?_)
              refine lv_iinc (v := (x2_94 + 1)) (lv' := [(2, .int (x2_94 + 1)), (3, .int ((T_94 k0 ((16 + x2_94)).toNatClampNeg) + 1)), (0, .ref (X.2.1 127)), (1, .ref (X.2.1 k0))]) hx hb dX11_passes_156 hl (k := 3) rfl rfl (by decide) rfl (fun ls hl => ?_)
              refine lv_goto (tgt := 94) hx hb dX11_passes_159 (by decide) ?_
              have he_42 : f_X11_passes_L94 (n + 1) T_94 k0 x2_94 = f_X11_passes_L94 n S_41 k0 (x2_94 + 1) := (by have hr_27 := hr_27.symm; have hS_41 := hS_41.symm; subst hr_27 hS_41; exact (iN c_23 (iN c_28 (ip c_37 (iN c_38 rfl)))))
              exact ih_94 S_41 (x2_94 + 1) (by have hr_27 := hr_27.symm; have hS_41 := hS_41.symm; subst hr_27 hS_41; exact (sn (sp (sn (nr (nr (sn hs_94 c_23))) c_28) c_37) c_38)) (fun q hq => hex_94 q (hq.trans he_42.symm)) _ _ hP hS ls (lv_sub hl [2, 3, 0] rfl)
          · refine lv_bipush (v := 99) hx hb dX11_passes_141 (by decide) ?_
            refine lv_goto (tgt := 155) hx hb dX11_passes_143 (by decide) ?_
            refine xiast hC hP hS hk0 hn_25 dX11_passes_155 (fun S_43 hS_43 H locs hP hS => ?_)
            refine lv_iinc (v := (x2_94 + 1)) (lv' := [(2, .int (x2_94 + 1)), (3, .int ((T_94 k0 ((16 + x2_94)).toNatClampNeg) + 1)), (0, .ref (X.2.1 127)), (1, .ref (X.2.1 k0))]) hx hb dX11_passes_156 hl (k := 3) rfl rfl (by decide) rfl (fun ls hl => ?_)
            refine lv_goto (tgt := 94) hx hb dX11_passes_159 (by decide) ?_
            have he_44 : f_X11_passes_L94 (n + 1) T_94 k0 x2_94 = f_X11_passes_L94 n S_43 k0 (x2_94 + 1) := (by have hr_27 := hr_27.symm; have hS_43 := hS_43.symm; subst hr_27 hS_43; exact (iN c_23 (iN c_28 (iN c_37 rfl))))
            exact ih_94 S_43 (x2_94 + 1) (by have hr_27 := hr_27.symm; have hS_43 := hS_43.symm; subst hr_27 hS_43; exact (sn (sn (nr (nr (sn hs_94 c_23))) c_28) c_37)) (fun q hq => hex_94 q (hq.trans he_44.symm)) _ _ hP hS ls (lv_sub hl [2, 3, 0] rfl)
  refine hLp_94 ((fu 0 (q_2 127 6))) q_2 0 (by have hq_2 := hq_2.symm; subst hq_2; exact nl (nr hs)) (fun q_94 hq_94 H locs hP hS ls hl => ?_) _ _ hP hS ls (lv_sub hl [1, 2, 0] rfl)
  refine lv_aload_n hx hb dX11_passes_162 rfl (lv_at hl 0 rfl) ?_
  refine lv_iconst (v := 1) hx hb dX11_passes_163 (by decide) ?_
  refine lv_iconst (v := 0) hx hb dX11_passes_164 (by decide) ?_
  have hn_45 : vp_in 1 (xlen k0) := (by have hq_2 := hq_2.symm; have hq_94 := hq_94.symm; subst hq_2 hq_94; exact nl (nr (nr hs)))
  refine xiast hC hP hS hk0 hn_45 dX11_passes_165 (fun S_46 hS_46 H locs hP hS => ?_)
  refine lv_aload_n hx hb dX11_passes_166 rfl (lv_at hl 0 rfl) ?_
  refine lv_iconst (v := 0) hx hb dX11_passes_167 (by decide) ?_
  refine lv_dup2_11 hx hb dX11_passes_168 rfl rfl ?_
  have hn_47 : vp_in 0 (xlen k0) := (by have hq_2 := hq_2.symm; have hq_94 := hq_94.symm; have hS_46 := hS_46.symm; subst hq_2 hq_94 hS_46; exact nl (nr (nr (nr hs))))
  refine xiald hC hP hk0 hn_47 dX11_passes_169 ?_
  refine lv_iconst (v := 1) hx hb dX11_passes_170 (by decide) ?_
  refine lv_iadd hx hb dX11_passes_171 ?_
  refine xiast hC hP hS hk0 hn_47 dX11_passes_172 (fun S_48 hS_48 H locs hP hS => ?_)
  exact xret_v hC hP hS hb hr (by simp only [f_X11_passes, ← hq_2, ← hq_94, ← hS_46, ← hS_48]) dX11_passes_173 hlocks
theorem hd_X11_praised : yX11_praised.cls = RX11 ∧ yX11_praised.cls ≠ "java/lang/invoke/MethodHandle" ∧ yX11_praised.cls ≠ "java/lang/invoke/VarHandle" ∧ (parseMethodDescriptor yX11_praised.desc).map (fun d => d.parameters.length) = some 0 := by decide +kernel
set_option maxHeartbeats 4000000 in
set_option maxRecDepth 100000 in
theorem k_X11_praised (l : Launch) (X : xX) (S : xS) (hs : s_X11_praised S) : Met l yX11_praised wsX11_praised ({ frames := 3, cells := 0, slots := 0, locals := 68 } : Room) (va_Pc [.ref (X.2.1 127)] (xI X S)) (va_Qi (fun (r : Int32) (u : xS) => r = (f_X11_praised S) ∧ u = S) (xI X) (xA X)) 0 0 (xA X) := by
  refine Met.ofW (cc := cX11_praised) (maxL := 6) (ret := (some .int)) (by decide +kernel) rfl ?_
  intro p e s m args below meth c s₁ B hml hv
  obtain ⟨rfl, hP, hK, hN, hJ⟩ := hv
  have hx := B.exec
  have hb := B.bytes
  have hr := B.returns
  have hts := atoms_spec (ws := wsX11_praised) B.pre
  have hown : s.vm.findClass RX11 = some m.cls := findClass_of_methodNamed B.named
  have hlocks := B.notSynchronized
  have hC : xC X p m c cX11_praised 6 s _ wsX11_praised RX11 := ⟨⟨hx, hb, hml, hown, hts⟩, hK, hN, hJ⟩
  have hS : va_S (xA X) s.heap s.heap [] := va_S.rf
  have hin_X11 : ∀ w ∈ u_ws RX11 TX11 41, w ∈ wsX11_praised := by decide +kernel
  have hl := lv_entry ([.ref (X.2.1 127)]) (n := 6) (Nat.le_of_ble_eq_true rfl)
  rw [lg_entry_eq]
  generalize (lg_sl ([.ref (X.2.1 127)]) ++ List.replicate (6 - (lg_sl ([.ref (X.2.1 127)])).length) Slot.unset).toArray = ls at hl ⊢
  have hl : lv_has ls 6 [(0, .ref (X.2.1 127))] := hl
  refine lv_iconst (v := (-1)) hx hb dX11_praised_0 (by decide) ?_
  refine lv_istore_n (lv' := [(1, .int (-1)), (0, .ref (X.2.1 127))]) hx hb dX11_praised_1 rfl hl (by decide) rfl (fun ls hl => ?_)
  refine lv_ldc (v := (-1000000)) hx hb hown (hts (.constant RX11 214 (-1000000)) (List.mem_of_getElem? (i := 1) rfl)) dX11_praised_2 ?_
  refine lv_istore_n (lv' := [(2, .int (-1000000)), (1, .int (-1)), (0, .ref (X.2.1 127))]) hx hb dX11_praised_4 rfl hl (by decide) rfl (fun ls hl => ?_)
  refine lv_iconst (v := 0) hx hb dX11_praised_5 (by decide) ?_
  refine lv_istore_n (lv' := [(3, .int 0), (2, .int (-1000000)), (1, .int (-1)), (0, .ref (X.2.1 127))]) hx hb dX11_praised_6 rfl hl (by decide) rfl (fun ls hl => ?_)
  have hLp_7 : ∀ (n : Nat) (x1_7 : Int32) (x2_7 : Int32) (x3_7 : Int32), s_X11_praised_L7 n S x1_7 x2_7 x3_7 → (∀ q : Int32, q = f_X11_praised_L7 n S x1_7 x2_7 x3_7 → (∀ (H : Heap) (locs : List Loc), va_P X.1 vwCl (xW X S) H → va_S (xA X) s.heap H locs → ∀ (ls : Array Slot), lv_has ls 6 [(1, .int q)] → W p l e ({ frames := 3, cells := 0, slots := 0, locals := 68 } : Room) s m ([.ref (X.2.1 127)] : List Value).toArray below meth c H locs 0 0 (MQ below (va_Qi (fun (r : Int32) (u : xS) => r = (f_X11_praised S) ∧ u = S) (xI X) (xA X)) ([.ref (X.2.1 127)] : List Value).toArray s 0 0 (xA X)) (F0 m 93 ls []))) → ∀ (H : Heap) (locs : List Loc), va_P X.1 vwCl (xW X S) H → va_S (xA X) s.heap H locs → ∀ (ls : Array Slot), lv_has ls 6 [(0, .ref (X.2.1 127)), (1, .int x1_7), (2, .int x2_7), (3, .int x3_7)] → W p l e ({ frames := 3, cells := 0, slots := 0, locals := 68 } : Room) s m ([.ref (X.2.1 127)] : List Value).toArray below meth c H locs 0 0 (MQ below (va_Qi (fun (r : Int32) (u : xS) => r = (f_X11_praised S) ∧ u = S) (xI X) (xA X)) ([.ref (X.2.1 127)] : List Value).toArray s 0 0 (xA X)) (F0 m 7 ls []) := by
    intro n
    induction n with
    | zero => intro x1_7 x2_7 x3_7 hs; exact hs.elim
    | succ n ih_7 =>
      intro x1_7 x2_7 x3_7 hs_7 hex_7 H locs hP hS ls hl
      refine lv_iload_n hx hb dX11_praised_7 rfl (lv_at hl 3 rfl) ?_
      refine lv_aload_n hx hb dX11_praised_8 rfl (lv_at hl 0 rfl) ?_
      refine xget (ref := "AbsentPraiseModel") (T := TX11) (v := .int (S 127 6)) hC hP hin_X11 xo_X11 rfl 6 (by decide) (List.mem_of_getElem? (i := 2) rfl) rfl rfl dX11_praised_9 ?_
      refine lv_icmp_ge (tgt := 93) hx hb dX11_praised_12 (by decide) (fun c_1 => ?_) (fun c_1 => ?_)
      · have he_2 : f_X11_praised_L7 (n + 1) S x1_7 x2_7 x3_7 = x1_7 := ((ip c_1 rfl))
        exact hex_7 _ he_2.symm _ _ hP hS ls (lv_sub hl [1] rfl)
      · refine lv_iconst (v := 0) hx hb dX11_praised_15 (by decide) ?_
        refine lv_istore (lv' := [(4, .int 0), (0, .ref (X.2.1 127)), (1, .int x1_7), (2, .int x2_7), (3, .int x3_7)]) hx hb dX11_praised_16 hl (by decide) rfl (fun ls hl => ?_)
        refine lv_iconst (v := 0) hx hb dX11_praised_18 (by decide) ?_
        refine lv_istore (lv' := [(5, .int 0), (4, .int 0), (0, .ref (X.2.1 127)), (1, .int x1_7), (2, .int x2_7), (3, .int x3_7)]) hx hb dX11_praised_19 hl (by decide) rfl (fun ls hl => ?_)
        have hLp_21 : ∀ (n : Nat) (x1_21 : Int32) (x2_21 : Int32) (x3_21 : Int32) (x4_21 : Int32) (x5_21 : Int32), s_X11_praised_L21 n S x1_21 x2_21 x3_21 x4_21 x5_21 → (∀ q : Int32, q = f_X11_praised_L21 n S x1_21 x2_21 x3_21 x4_21 x5_21 → (∀ (H : Heap) (locs : List Loc), va_P X.1 vwCl (xW X S) H → va_S (xA X) s.heap H locs → ∀ (ls : Array Slot), lv_has ls 6 [(0, .ref (X.2.1 127)), (1, .int x1_21), (2, .int x2_21), (3, .int x3_21), (4, .int q)] → W p l e ({ frames := 3, cells := 0, slots := 0, locals := 68 } : Room) s m ([.ref (X.2.1 127)] : List Value).toArray below meth c H locs 0 0 (MQ below (va_Qi (fun (r : Int32) (u : xS) => r = (f_X11_praised S) ∧ u = S) (xI X) (xA X)) ([.ref (X.2.1 127)] : List Value).toArray s 0 0 (xA X)) (F0 m 62 ls []))) → ∀ (H : Heap) (locs : List Loc), va_P X.1 vwCl (xW X S) H → va_S (xA X) s.heap H locs → ∀ (ls : Array Slot), lv_has ls 6 [(0, .ref (X.2.1 127)), (1, .int x1_21), (2, .int x2_21), (3, .int x3_21), (4, .int x4_21), (5, .int x5_21)] → W p l e ({ frames := 3, cells := 0, slots := 0, locals := 68 } : Room) s m ([.ref (X.2.1 127)] : List Value).toArray below meth c H locs 0 0 (MQ below (va_Qi (fun (r : Int32) (u : xS) => r = (f_X11_praised S) ∧ u = S) (xI X) (xA X)) ([.ref (X.2.1 127)] : List Value).toArray s 0 0 (xA X)) (F0 m 21 ls []) := by
          intro n
          induction n with
          | zero => intro x1_21 x2_21 x3_21 x4_21 x5_21 hs; exact hs.elim
          | succ n ih_21 =>
            intro x1_21 x2_21 x3_21 x4_21 x5_21 hs_21 hex_21 H locs hP hS ls hl
            refine lv_iload hx hb dX11_praised_21 (lv_at hl 5 rfl) ?_
            refine lv_aload_n hx hb dX11_praised_23 rfl (lv_at hl 0 rfl) ?_
            refine xget (ref := "AbsentPraiseModel") (T := TX11) (v := .int (S 127 6)) hC hP hin_X11 xo_X11 rfl 6 (by decide) (List.mem_of_getElem? (i := 2) rfl) rfl rfl dX11_praised_24 ?_
            refine lv_icmp_ge (tgt := 62) hx hb dX11_praised_27 (by decide) (fun c_3 => ?_) (fun c_3 => ?_)
            · have he_4 : f_X11_praised_L21 (n + 1) S x1_21 x2_21 x3_21 x4_21 x5_21 = x4_21 := ((ip c_3 rfl))
              exact hex_21 _ he_4.symm _ _ hP hS ls (lv_sub hl [0, 1, 2, 3, 4] rfl)
            · refine lv_iload hx hb dX11_praised_30 (lv_at hl 4 rfl) ?_
              refine lv_iload hx hb dX11_praised_32 (lv_at hl 5 rfl) ?_
              refine lv_iload_n hx hb dX11_praised_34 rfl (lv_at hl 3 rfl) ?_
              refine lv_icmp_ne (tgt := 42) hx hb dX11_praised_35 (by decide) (fun c_5 => ?_) (fun c_5 => ?_)
              · refine lv_aload_n hx hb dX11_praised_42 rfl (lv_at hl 0 rfl) ?_
                refine lv_aload_n hx hb dX11_praised_43 rfl (lv_at hl 0 rfl) ?_
                refine xget (ref := "AbsentPraiseModel") (T := TX11) (v := .ref (X.2.1 131)) hC hP hin_X11 xo_X11 rfl 8 (by decide) (List.mem_of_getElem? (i := 3) rfl) rfl rfl dX11_praised_44 ?_
                refine lv_iload hx hb dX11_praised_47 (lv_at hl 5 rfl) ?_
                refine lv_iload_n hx hb dX11_praised_49 rfl (lv_at hl 3 rfl) ?_
                have hn_6 : s_X11_says S 131 x5_21 x3_21 := (nl (sn (sn hs_21 c_3) c_5))
                refine xcV_iR (b := 127) (As := [.ref (X.2.1 131), .int x5_21, .int x3_21]) (rest := [.int x4_21]) hC hP hS (k_X11_says l X S 131 x5_21 x3_21 rfl hn_6) (cwV 3 hts gX11_praised_X11_says rfl rfl rfl hd_X11_says ⟨Nat.le_of_ble_eq_true rfl, Nat.le_of_ble_eq_true rfl⟩) xo_X11 rfl rfl rfl hl.1 (Nat.le_of_ble_eq_true rfl) dX11_praised_50 (fun r_7 hr_7 H locs hP hS => ?_)
                refine lv_iadd hx hb dX11_praised_53 ?_
                refine lv_istore (lv' := [(4, .int (x4_21 + r_7)), (0, .ref (X.2.1 127)), (1, .int x1_21), (2, .int x2_21), (3, .int x3_21), (5, .int x5_21)]) hx hb dX11_praised_54 hl (by decide) rfl (fun ls hl => ?_)
                refine lv_iinc (v := (x5_21 + 1)) (lv' := [(5, .int (x5_21 + 1)), (4, .int (x4_21 + r_7)), (0, .ref (X.2.1 127)), (1, .int x1_21), (2, .int x2_21), (3, .int x3_21)]) hx hb dX11_praised_56 hl (k := 5) rfl rfl (by decide) rfl (fun ls hl => ?_)
                refine lv_goto (tgt := 21) hx hb dX11_praised_59 (by decide) ?_
                have he_8 : f_X11_praised_L21 (n + 1) S x1_21 x2_21 x3_21 x4_21 x5_21 = f_X11_praised_L21 n S x1_21 x2_21 x3_21 (x4_21 + r_7) (x5_21 + 1) := (by have hr_7 := hr_7.symm; subst hr_7; exact (iN c_3 (iN c_5 rfl)))
                exact ih_21 x1_21 x2_21 x3_21 (x4_21 + r_7) (x5_21 + 1) (by have hr_7 := hr_7.symm; subst hr_7; exact (nr (sn (sn hs_21 c_3) c_5))) (fun q hq => hex_21 q (hq.trans he_8.symm)) _ _ hP hS ls (lv_sub hl [2, 3, 4, 5, 1, 0] rfl)
              · refine lv_iconst (v := 0) hx hb dX11_praised_38 (by decide) ?_
                refine lv_goto (tgt := 53) hx hb dX11_praised_39 (by decide) ?_
                refine lv_iadd hx hb dX11_praised_53 ?_
                refine lv_istore (lv' := [(4, .int (x4_21 + 0)), (0, .ref (X.2.1 127)), (1, .int x1_21), (2, .int x2_21), (3, .int x3_21), (5, .int x5_21)]) hx hb dX11_praised_54 hl (by decide) rfl (fun ls hl => ?_)
                refine lv_iinc (v := (x5_21 + 1)) (lv' := [(5, .int (x5_21 + 1)), (4, .int (x4_21 + 0)), (0, .ref (X.2.1 127)), (1, .int x1_21), (2, .int x2_21), (3, .int x3_21)]) hx hb dX11_praised_56 hl (k := 5) rfl rfl (by decide) rfl (fun ls hl => ?_)
                refine lv_goto (tgt := 21) hx hb dX11_praised_59 (by decide) ?_
                have he_9 : f_X11_praised_L21 (n + 1) S x1_21 x2_21 x3_21 x4_21 x5_21 = f_X11_praised_L21 n S x1_21 x2_21 x3_21 (x4_21 + 0) (x5_21 + 1) := ((iN c_3 (ip c_5 rfl)))
                exact ih_21 x1_21 x2_21 x3_21 (x4_21 + 0) (x5_21 + 1) ((sp (sn hs_21 c_3) c_5)) (fun q hq => hex_21 q (hq.trans he_9.symm)) _ _ hP hS ls (lv_sub hl [2, 3, 4, 5, 1, 0] rfl)
        refine hLp_21 ((fu 0 (S 127 6))) x1_7 x2_7 x3_7 0 0 (nl (sn hs_7 c_1)) (fun q_21 hq_21 H locs hP hS ls hl => ?_) _ _ hP hS ls (lv_sub hl [2, 3, 4, 5, 1, 0] rfl)
        refine lv_iload hx hb dX11_praised_62 (lv_at hl 4 rfl) ?_
        refine lv_iload_n hx hb dX11_praised_64 rfl (lv_at hl 2 rfl) ?_
        refine lv_icmp_le (tgt := 72) hx hb dX11_praised_65 (by decide) (fun c_10 => ?_) (fun c_10 => ?_)
        · refine lv_iload_n hx hb dX11_praised_72 rfl (lv_at hl 1 rfl) ?_
          refine lv_istore_n (lv' := [(1, .int x1_7), (0, .ref (X.2.1 127)), (2, .int x2_7), (3, .int x3_7), (4, .int q_21)]) hx hb dX11_praised_73 rfl hl (by decide) rfl (fun ls hl => ?_)
          refine lv_iload hx hb dX11_praised_74 (lv_at hl 4 rfl) ?_
          refine lv_iload_n hx hb dX11_praised_76 rfl (lv_at hl 2 rfl) ?_
          refine lv_icmp_le (tgt := 85) hx hb dX11_praised_77 (by decide) (fun _ => ?_) (fun c => absurd c_10 c)
          refine lv_iload_n hx hb dX11_praised_85 rfl (lv_at hl 2 rfl) ?_
          refine lv_istore_n (lv' := [(2, .int x2_7), (1, .int x1_7), (0, .ref (X.2.1 127)), (3, .int x3_7), (4, .int q_21)]) hx hb dX11_praised_86 rfl hl (by decide) rfl (fun ls hl => ?_)
          refine lv_iinc (v := (x3_7 + 1)) (lv' := [(3, .int (x3_7 + 1)), (2, .int x2_7), (1, .int x1_7), (0, .ref (X.2.1 127)), (4, .int q_21)]) hx hb dX11_praised_87 hl (k := 3) rfl rfl (by decide) rfl (fun ls hl => ?_)
          refine lv_goto (tgt := 7) hx hb dX11_praised_90 (by decide) ?_
          have he_11 : f_X11_praised_L7 (n + 1) S x1_7 x2_7 x3_7 = f_X11_praised_L7 n S x1_7 x2_7 (x3_7 + 1) := (by have hq_21 := hq_21.symm; subst hq_21; exact (iN c_1 (ip c_10 rfl)))
          exact ih_7 x1_7 x2_7 (x3_7 + 1) (by have hq_21 := hq_21.symm; subst hq_21; exact (sp (nr (sn hs_7 c_1)) c_10)) (fun q hq => hex_7 q (hq.trans he_11.symm)) _ _ hP hS ls (lv_sub hl [3, 2, 1, 0] rfl)
        · refine lv_iload_n hx hb dX11_praised_68 rfl (lv_at hl 3 rfl) ?_
          refine lv_goto (tgt := 73) hx hb dX11_praised_69 (by decide) ?_
          refine lv_istore_n (lv' := [(1, .int x3_7), (0, .ref (X.2.1 127)), (2, .int x2_7), (3, .int x3_7), (4, .int q_21)]) hx hb dX11_praised_73 rfl hl (by decide) rfl (fun ls hl => ?_)
          refine lv_iload hx hb dX11_praised_74 (lv_at hl 4 rfl) ?_
          refine lv_iload_n hx hb dX11_praised_76 rfl (lv_at hl 2 rfl) ?_
          refine lv_icmp_le (tgt := 85) hx hb dX11_praised_77 (by decide) (fun c => absurd c c_10) (fun _ => ?_)
          refine lv_iload hx hb dX11_praised_80 (lv_at hl 4 rfl) ?_
          refine lv_goto (tgt := 86) hx hb dX11_praised_82 (by decide) ?_
          refine lv_istore_n (lv' := [(2, .int q_21), (1, .int x3_7), (0, .ref (X.2.1 127)), (3, .int x3_7), (4, .int q_21)]) hx hb dX11_praised_86 rfl hl (by decide) rfl (fun ls hl => ?_)
          refine lv_iinc (v := (x3_7 + 1)) (lv' := [(3, .int (x3_7 + 1)), (2, .int q_21), (1, .int x3_7), (0, .ref (X.2.1 127)), (4, .int q_21)]) hx hb dX11_praised_87 hl (k := 3) rfl rfl (by decide) rfl (fun ls hl => ?_)
          refine lv_goto (tgt := 7) hx hb dX11_praised_90 (by decide) ?_
          have he_12 : f_X11_praised_L7 (n + 1) S x1_7 x2_7 x3_7 = f_X11_praised_L7 n S x3_7 q_21 (x3_7 + 1) := (by have hq_21 := hq_21.symm; subst hq_21; exact (iN c_1 (iN c_10 rfl)))
          exact ih_7 x3_7 q_21 (x3_7 + 1) (by have hq_21 := hq_21.symm; subst hq_21; exact (sn (nr (sn hs_7 c_1)) c_10)) (fun q hq => hex_7 q (hq.trans he_12.symm)) _ _ hP hS ls (lv_sub hl [3, 2, 1, 0] rfl)
  refine hLp_7 ((fu 0 (S 127 6))) (-1) (-1000000) 0 (nl hs) (fun q_7 hq_7 H locs hP hS ls hl => ?_) _ _ hP hS ls (lv_sub hl [3, 2, 1, 0] rfl)
  refine lv_iload_n hx hb dX11_praised_93 rfl (lv_at hl 0 rfl) ?_
  exact xret_iR hC hP hS hb hr ((by have hq_7 := hq_7.symm; subst hq_7; exact rfl)) dX11_praised_94 hlocks
theorem hd_X11_silentBy : yX11_silentBy.cls = RX11 ∧ yX11_silentBy.cls ≠ "java/lang/invoke/MethodHandle" ∧ yX11_silentBy.cls ≠ "java/lang/invoke/VarHandle" ∧ (parseMethodDescriptor yX11_silentBy.desc).map (fun d => d.parameters.length) = some 1 := by decide +kernel
set_option maxHeartbeats 4000000 in
set_option maxRecDepth 100000 in
theorem k_X11_silentBy (l : Launch) (X : xX) (S : xS) (p0 : Int32) (hs : s_X11_silentBy S p0) : Met l yX11_silentBy wsX11_silentBy ({ frames := 3, cells := 0, slots := 0, locals := 68 } : Room) (va_Pc [.ref (X.2.1 127), .int p0] (xI X S)) (va_Qi (fun (r : Int32) (u : xS) => r = (f_X11_silentBy S p0) ∧ u = S) (xI X) (xA X)) 0 0 (xA X) := by
  refine Met.ofW (cc := cX11_silentBy) (maxL := 5) (ret := (some .int)) (by decide +kernel) rfl ?_
  intro p e s m args below meth c s₁ B hml hv
  obtain ⟨rfl, hP, hK, hN, hJ⟩ := hv
  have hx := B.exec
  have hb := B.bytes
  have hr := B.returns
  have hts := atoms_spec (ws := wsX11_silentBy) B.pre
  have hown : s.vm.findClass RX11 = some m.cls := findClass_of_methodNamed B.named
  have hlocks := B.notSynchronized
  have hC : xC X p m c cX11_silentBy 5 s _ wsX11_silentBy RX11 := ⟨⟨hx, hb, hml, hown, hts⟩, hK, hN, hJ⟩
  have hS : va_S (xA X) s.heap s.heap [] := va_S.rf
  have hin_X11 : ∀ w ∈ u_ws RX11 TX11 41, w ∈ wsX11_silentBy := by decide +kernel
  have hl := lv_entry ([.ref (X.2.1 127), .int p0]) (n := 5) (Nat.le_of_ble_eq_true rfl)
  rw [lg_entry_eq]
  generalize (lg_sl ([.ref (X.2.1 127), .int p0]) ++ List.replicate (5 - (lg_sl ([.ref (X.2.1 127), .int p0])).length) Slot.unset).toArray = ls at hl ⊢
  have hl : lv_has ls 5 [(0, .ref (X.2.1 127)), (1, .int p0)] := hl
  refine lv_iconst (v := 0) hx hb dX11_silentBy_0 (by decide) ?_
  refine lv_istore_n (lv' := [(2, .int 0), (0, .ref (X.2.1 127)), (1, .int p0)]) hx hb dX11_silentBy_1 rfl hl (by decide) rfl (fun ls hl => ?_)
  refine lv_iconst (v := 0) hx hb dX11_silentBy_2 (by decide) ?_
  refine lv_istore_n (lv' := [(3, .int 0), (2, .int 0), (0, .ref (X.2.1 127)), (1, .int p0)]) hx hb dX11_silentBy_3 rfl hl (by decide) rfl (fun ls hl => ?_)
  have hLp_4 : ∀ (n : Nat) (x1_4 : Int32) (x2_4 : Int32) (x3_4 : Int32), s_X11_silentBy_L4 n S x1_4 x2_4 x3_4 → (∀ q : Int32, f_X11_silentBy_L4 n S x1_4 x2_4 x3_4 = .inr q → (∀ (H : Heap) (locs : List Loc), va_P X.1 vwCl (xW X S) H → va_S (xA X) s.heap H locs → ∀ (ls : Array Slot), lv_has ls 5 [(1, .int x1_4), (2, .int q)] → W p l e ({ frames := 3, cells := 0, slots := 0, locals := 68 } : Room) s m ([.ref (X.2.1 127), .int p0] : List Value).toArray below meth c H locs 0 0 (MQ below (va_Qi (fun (r : Int32) (u : xS) => r = (f_X11_silentBy S p0) ∧ u = S) (xI X) (xA X)) ([.ref (X.2.1 127), .int p0] : List Value).toArray s 0 0 (xA X)) (F0 m 82 ls []))) → (∀ r : Int32, f_X11_silentBy_L4 n S x1_4 x2_4 x3_4 = .inl r → ∀ (H : Heap) (locs : List Loc), va_P X.1 vwCl (xW X S) H → va_S (xA X) s.heap H locs → ∀ (pc : Nat) (ls : Array Slot), decode cX11_silentBy pc = .ok (.ireturn, 1) → W p l e ({ frames := 3, cells := 0, slots := 0, locals := 68 } : Room) s m ([.ref (X.2.1 127), .int p0] : List Value).toArray below meth c H locs 0 0 (MQ below (va_Qi (fun (r : Int32) (u : xS) => r = (f_X11_silentBy S p0) ∧ u = S) (xI X) (xA X)) ([.ref (X.2.1 127), .int p0] : List Value).toArray s 0 0 (xA X)) (F0 m pc ls [.int r])) → ∀ (H : Heap) (locs : List Loc), va_P X.1 vwCl (xW X S) H → va_S (xA X) s.heap H locs → ∀ (ls : Array Slot), lv_has ls 5 [(0, .ref (X.2.1 127)), (1, .int x1_4), (2, .int x2_4), (3, .int x3_4)] → W p l e ({ frames := 3, cells := 0, slots := 0, locals := 68 } : Room) s m ([.ref (X.2.1 127), .int p0] : List Value).toArray below meth c H locs 0 0 (MQ below (va_Qi (fun (r : Int32) (u : xS) => r = (f_X11_silentBy S p0) ∧ u = S) (xI X) (xA X)) ([.ref (X.2.1 127), .int p0] : List Value).toArray s 0 0 (xA X)) (F0 m 4 ls []) := by
    intro n
    induction n with
    | zero => intro x1_4 x2_4 x3_4 hs; exact hs.elim
    | succ n ih_4 =>
      intro x1_4 x2_4 x3_4 hs_4 hex_4 hret_4 H locs hP hS ls hl
      refine lv_iload_n hx hb dX11_silentBy_4 rfl (lv_at hl 3 rfl) ?_
      refine lv_aload_n hx hb dX11_silentBy_5 rfl (lv_at hl 0 rfl) ?_
      refine xget (ref := "AbsentPraiseModel") (T := TX11) (v := .int (S 127 6)) hC hP hin_X11 xo_X11 rfl 6 (by decide) (List.mem_of_getElem? (i := 1) rfl) rfl rfl dX11_silentBy_6 ?_
      refine lv_icmp_ge (tgt := 82) hx hb dX11_silentBy_9 (by decide) (fun c_1 => ?_) (fun c_1 => ?_)
      · have he_2 : f_X11_silentBy_L4 (n + 1) S x1_4 x2_4 x3_4 = .inr x2_4 := ((ip c_1 rfl))
        exact hex_4 _ he_2 _ _ hP hS ls (lv_sub hl [1, 2] rfl)
      · refine lv_iload_n hx hb dX11_silentBy_12 rfl (lv_at hl 3 rfl) ?_
        refine lv_iconst (v := 1) hx hb dX11_silentBy_13 (by decide) ?_
        refine lv_iadd hx hb dX11_silentBy_14 ?_
        refine lv_istore (lv' := [(4, .int (x3_4 + 1)), (0, .ref (X.2.1 127)), (1, .int x1_4), (2, .int x2_4), (3, .int x3_4)]) hx hb dX11_silentBy_15 hl (by decide) rfl (fun ls hl => ?_)
        have hLp_17 : ∀ (n : Nat) (x1_17 : Int32) (x2_17 : Int32) (x3_17 : Int32) (x4_17 : Int32), s_X11_silentBy_L17 n S x1_17 x2_17 x3_17 x4_17 → (∀ q : Int32, f_X11_silentBy_L17 n S x1_17 x2_17 x3_17 x4_17 = .inr q → (∀ (H : Heap) (locs : List Loc), va_P X.1 vwCl (xW X S) H → va_S (xA X) s.heap H locs → ∀ (ls : Array Slot), lv_has ls 5 [(0, .ref (X.2.1 127)), (1, .int x1_17), (2, .int q), (3, .int x3_17)] → W p l e ({ frames := 3, cells := 0, slots := 0, locals := 68 } : Room) s m ([.ref (X.2.1 127), .int p0] : List Value).toArray below meth c H locs 0 0 (MQ below (va_Qi (fun (r : Int32) (u : xS) => r = (f_X11_silentBy S p0) ∧ u = S) (xI X) (xA X)) ([.ref (X.2.1 127), .int p0] : List Value).toArray s 0 0 (xA X)) (F0 m 76 ls []))) → (∀ r : Int32, f_X11_silentBy_L17 n S x1_17 x2_17 x3_17 x4_17 = .inl r → ∀ (H : Heap) (locs : List Loc), va_P X.1 vwCl (xW X S) H → va_S (xA X) s.heap H locs → ∀ (pc : Nat) (ls : Array Slot), decode cX11_silentBy pc = .ok (.ireturn, 1) → W p l e ({ frames := 3, cells := 0, slots := 0, locals := 68 } : Room) s m ([.ref (X.2.1 127), .int p0] : List Value).toArray below meth c H locs 0 0 (MQ below (va_Qi (fun (r : Int32) (u : xS) => r = (f_X11_silentBy S p0) ∧ u = S) (xI X) (xA X)) ([.ref (X.2.1 127), .int p0] : List Value).toArray s 0 0 (xA X)) (F0 m pc ls [.int r])) → ∀ (H : Heap) (locs : List Loc), va_P X.1 vwCl (xW X S) H → va_S (xA X) s.heap H locs → ∀ (ls : Array Slot), lv_has ls 5 [(0, .ref (X.2.1 127)), (1, .int x1_17), (2, .int x2_17), (3, .int x3_17), (4, .int x4_17)] → W p l e ({ frames := 3, cells := 0, slots := 0, locals := 68 } : Room) s m ([.ref (X.2.1 127), .int p0] : List Value).toArray below meth c H locs 0 0 (MQ below (va_Qi (fun (r : Int32) (u : xS) => r = (f_X11_silentBy S p0) ∧ u = S) (xI X) (xA X)) ([.ref (X.2.1 127), .int p0] : List Value).toArray s 0 0 (xA X)) (F0 m 17 ls []) := by
          intro n
          induction n with
          | zero => intro x1_17 x2_17 x3_17 x4_17 hs; exact hs.elim
          | succ n ih_17 =>
            intro x1_17 x2_17 x3_17 x4_17 hs_17 hex_17 hret_17 H locs hP hS ls hl
            refine lv_iload hx hb dX11_silentBy_17 (lv_at hl 4 rfl) ?_
            refine lv_aload_n hx hb dX11_silentBy_19 rfl (lv_at hl 0 rfl) ?_
            refine xget (ref := "AbsentPraiseModel") (T := TX11) (v := .int (S 127 6)) hC hP hin_X11 xo_X11 rfl 6 (by decide) (List.mem_of_getElem? (i := 1) rfl) rfl rfl dX11_silentBy_20 ?_
            refine lv_icmp_ge (tgt := 76) hx hb dX11_silentBy_23 (by decide) (fun c_3 => ?_) (fun c_3 => ?_)
            · have he_4 : f_X11_silentBy_L17 (n + 1) S x1_17 x2_17 x3_17 x4_17 = .inr x2_17 := ((ip c_3 rfl))
              exact hex_17 _ he_4 _ _ hP hS ls (lv_sub hl [0, 1, 2, 3] rfl)
            · refine lv_aload_n hx hb dX11_silentBy_26 rfl (lv_at hl 0 rfl) ?_
              refine lv_aload_n hx hb dX11_silentBy_27 rfl (lv_at hl 0 rfl) ?_
              refine xget (ref := "AbsentPraiseModel") (T := TX11) (v := .ref (X.2.1 131)) hC hP hin_X11 xo_X11 rfl 8 (by decide) (List.mem_of_getElem? (i := 2) rfl) rfl rfl dX11_silentBy_28 ?_
              refine lv_iload_n hx hb dX11_silentBy_31 rfl (lv_at hl 3 rfl) ?_
              refine lv_iload hx hb dX11_silentBy_32 (lv_at hl 4 rfl) ?_
              have hn_5 : s_X11_says S 131 x3_17 x4_17 := (nl (sn hs_17 c_3))
              refine xcV_iR (b := 127) (As := [.ref (X.2.1 131), .int x3_17, .int x4_17]) (rest := []) hC hP hS (k_X11_says l X S 131 x3_17 x4_17 rfl hn_5) (cwV 3 hts gX11_silentBy_X11_says rfl rfl rfl hd_X11_says ⟨Nat.le_of_ble_eq_true rfl, Nat.le_of_ble_eq_true rfl⟩) xo_X11 rfl rfl rfl hl.1 (Nat.le_of_ble_eq_true rfl) dX11_silentBy_34 (fun r_6 hr_6 H locs hP hS => ?_)
              refine lv_if_gt (tgt := 70) hx hb dX11_silentBy_37 (by decide) (fun c_7 => ?_) (fun c_7 => ?_)
              · refine lv_iinc (v := (x4_17 + 1)) (lv' := [(4, .int (x4_17 + 1)), (0, .ref (X.2.1 127)), (1, .int x1_17), (2, .int x2_17), (3, .int x3_17)]) hx hb dX11_silentBy_70 hl (k := 4) rfl rfl (by decide) rfl (fun ls hl => ?_)
                refine lv_goto (tgt := 17) hx hb dX11_silentBy_73 (by decide) ?_
                have he_8 : f_X11_silentBy_L17 (n + 1) S x1_17 x2_17 x3_17 x4_17 = f_X11_silentBy_L17 n S x1_17 x2_17 x3_17 (x4_17 + 1) := (by have hr_6 := hr_6.symm; subst hr_6; exact (iN c_3 (ip c_7 rfl)))
                exact ih_17 x1_17 x2_17 x3_17 (x4_17 + 1) (by have hr_6 := hr_6.symm; subst hr_6; exact (sp (nr (sn hs_17 c_3)) c_7)) (fun q hq => hex_17 q (he_8.trans hq)) (fun r hq => hret_17 r (he_8.trans hq)) _ _ hP hS ls (lv_sub hl [1, 2, 3, 4, 0] rfl)
              · refine lv_aload_n hx hb dX11_silentBy_40 rfl (lv_at hl 0 rfl) ?_
                refine lv_aload_n hx hb dX11_silentBy_41 rfl (lv_at hl 0 rfl) ?_
                refine xget (ref := "AbsentPraiseModel") (T := TX11) (v := .ref (X.2.1 131)) hC hP hin_X11 xo_X11 rfl 8 (by decide) (List.mem_of_getElem? (i := 2) rfl) rfl rfl dX11_silentBy_42 ?_
                refine lv_iload hx hb dX11_silentBy_45 (lv_at hl 4 rfl) ?_
                refine lv_iload_n hx hb dX11_silentBy_47 rfl (lv_at hl 3 rfl) ?_
                have hn_9 : s_X11_says S 131 x4_17 x3_17 := (by have hr_6 := hr_6.symm; subst hr_6; exact nl (sn (nr (sn hs_17 c_3)) c_7))
                refine xcV_iR (b := 127) (As := [.ref (X.2.1 131), .int x4_17, .int x3_17]) (rest := []) hC hP hS (k_X11_says l X S 131 x4_17 x3_17 rfl hn_9) (cwV 3 hts gX11_silentBy_X11_says rfl rfl rfl hd_X11_says ⟨Nat.le_of_ble_eq_true rfl, Nat.le_of_ble_eq_true rfl⟩) xo_X11 rfl rfl rfl hl.1 (Nat.le_of_ble_eq_true rfl) dX11_silentBy_48 (fun r_10 hr_10 H locs hP hS => ?_)
                refine lv_if_gt (tgt := 70) hx hb dX11_silentBy_51 (by decide) (fun c_11 => ?_) (fun c_11 => ?_)
                · refine lv_iinc (v := (x4_17 + 1)) (lv' := [(4, .int (x4_17 + 1)), (0, .ref (X.2.1 127)), (1, .int x1_17), (2, .int x2_17), (3, .int x3_17)]) hx hb dX11_silentBy_70 hl (k := 4) rfl rfl (by decide) rfl (fun ls hl => ?_)
                  refine lv_goto (tgt := 17) hx hb dX11_silentBy_73 (by decide) ?_
                  have he_12 : f_X11_silentBy_L17 (n + 1) S x1_17 x2_17 x3_17 x4_17 = f_X11_silentBy_L17 n S x1_17 x2_17 x3_17 (x4_17 + 1) := (by have hr_6 := hr_6.symm; have hr_10 := hr_10.symm; subst hr_6 hr_10; exact (iN c_3 (iN c_7 (ip c_11 rfl))))
                  exact ih_17 x1_17 x2_17 x3_17 (x4_17 + 1) (by have hr_6 := hr_6.symm; have hr_10 := hr_10.symm; subst hr_6 hr_10; exact (sp (nr (sn (nr (sn hs_17 c_3)) c_7)) c_11)) (fun q hq => hex_17 q (he_12.trans hq)) (fun r hq => hret_17 r (he_12.trans hq)) _ _ hP hS ls (lv_sub hl [1, 2, 3, 4, 0] rfl)
                · refine lv_iload_n hx hb dX11_silentBy_54 rfl (lv_at hl 2 rfl) ?_
                  refine lv_iload_n hx hb dX11_silentBy_55 rfl (lv_at hl 1 rfl) ?_
                  refine lv_icmp_ne (tgt := 67) hx hb dX11_silentBy_56 (by decide) (fun c_13 => ?_) (fun c_13 => ?_)
                  · refine lv_iinc (v := (x2_17 + 1)) (lv' := [(2, .int (x2_17 + 1)), (0, .ref (X.2.1 127)), (1, .int x1_17), (3, .int x3_17), (4, .int x4_17)]) hx hb dX11_silentBy_67 hl (k := 2) rfl rfl (by decide) rfl (fun ls hl => ?_)
                    refine lv_iinc (v := (x4_17 + 1)) (lv' := [(4, .int (x4_17 + 1)), (2, .int (x2_17 + 1)), (0, .ref (X.2.1 127)), (1, .int x1_17), (3, .int x3_17)]) hx hb dX11_silentBy_70 hl (k := 4) rfl rfl (by decide) rfl (fun ls hl => ?_)
                    refine lv_goto (tgt := 17) hx hb dX11_silentBy_73 (by decide) ?_
                    have he_14 : f_X11_silentBy_L17 (n + 1) S x1_17 x2_17 x3_17 x4_17 = f_X11_silentBy_L17 n S x1_17 (x2_17 + 1) x3_17 (x4_17 + 1) := (by have hr_6 := hr_6.symm; have hr_10 := hr_10.symm; subst hr_6 hr_10; exact (iN c_3 (iN c_7 (iN c_11 (iN c_13 rfl)))))
                    exact ih_17 x1_17 (x2_17 + 1) x3_17 (x4_17 + 1) (by have hr_6 := hr_6.symm; have hr_10 := hr_10.symm; subst hr_6 hr_10; exact (sn (sn (nr (sn (nr (sn hs_17 c_3)) c_7)) c_11) c_13)) (fun q hq => hex_17 q (he_14.trans hq)) (fun r hq => hret_17 r (he_14.trans hq)) _ _ hP hS ls (lv_sub hl [2, 3, 1, 4, 0] rfl)
                  · refine lv_bipush (v := 100) hx hb dX11_silentBy_59 (by decide) ?_
                    refine lv_iload_n hx hb dX11_silentBy_61 rfl (lv_at hl 3 rfl) ?_
                    refine lv_imul hx hb dX11_silentBy_62 ?_
                    refine lv_iload hx hb dX11_silentBy_63 (lv_at hl 4 rfl) ?_
                    refine lv_iadd hx hb dX11_silentBy_65 ?_
                    have he_15 : f_X11_silentBy_L17 (n + 1) S x1_17 x2_17 x3_17 x4_17 = .inl ((100 * x3_17) + x4_17) := (by have hr_6 := hr_6.symm; have hr_10 := hr_10.symm; subst hr_6 hr_10; exact (iN c_3 (iN c_7 (iN c_11 (ip c_13 rfl)))))
                    exact hret_17 _ he_15 _ _ hP hS 66 ls dX11_silentBy_66
        refine hLp_17 ((fu (x3_4 + 1) (S 127 6))) x1_4 x2_4 x3_4 (x3_4 + 1) (nl (sn hs_4 c_1)) (fun q_17 hq_17 H locs hP hS ls hl => ?_) (fun r hr_17 H locs hP hS pc_17 ls hd_17 => ?_) _ _ hP hS ls (lv_sub hl [1, 2, 3, 4, 0] rfl)
        · refine lv_iinc (v := (x3_4 + 1)) (lv' := [(3, .int (x3_4 + 1)), (0, .ref (X.2.1 127)), (1, .int x1_4), (2, .int q_17)]) hx hb dX11_silentBy_76 hl (k := 3) rfl rfl (by decide) rfl (fun ls hl => ?_)
          refine lv_goto (tgt := 4) hx hb dX11_silentBy_79 (by decide) ?_
          have he_16 : f_X11_silentBy_L4 (n + 1) S x1_4 x2_4 x3_4 = f_X11_silentBy_L4 n S x1_4 q_17 (x3_4 + 1) := ((iN c_1 (sm_r hq_17 rfl)))
          exact ih_4 x1_4 q_17 (x3_4 + 1) (((nr (sn hs_4 c_1)) q_17 hq_17)) (fun q hq => hex_4 q (he_16.trans hq)) (fun r hq => hret_4 r (he_16.trans hq)) _ _ hP hS ls (lv_sub hl [1, 2, 3, 0] rfl)
        · have he_17 : f_X11_silentBy_L4 (n + 1) S x1_4 x2_4 x3_4 = .inl r := ((iN c_1 (sm_l hr_17 rfl)))
          exact hret_4 r he_17 _ _ hP hS pc_17 ls hd_17
  refine hLp_4 ((fu 0 (S 127 6))) p0 0 0 (nl hs) (fun q_4 hq_4 H locs hP hS ls hl => ?_) (fun r hr_4 H locs hP hS pc_4 ls hd_4 => ?_) _ _ hP hS ls (lv_sub hl [2, 3, 1, 0] rfl)
  · refine lv_iload_n hx hb dX11_silentBy_82 rfl (lv_at hl 0 rfl) ?_
    refine lv_iconst (v := (-1)) hx hb dX11_silentBy_83 (by decide) ?_
    refine lv_icmp_ne (tgt := 91) hx hb dX11_silentBy_84 (by decide) (fun c_18 => ?_) (fun c_18 => ?_)
    · refine lv_iconst (v := (-1)) hx hb dX11_silentBy_91 (by decide) ?_
      exact xret_iR hC hP hS hb hr (((sm_r hq_4 (iN c_18 rfl)))) dX11_silentBy_92 hlocks
    · refine lv_iload_n hx hb dX11_silentBy_87 rfl (lv_at hl 1 rfl) ?_
      refine lv_goto (tgt := 92) hx hb dX11_silentBy_88 (by decide) ?_
      exact xret_iR hC hP hS hb hr (((sm_r hq_4 (ip c_18 rfl)))) dX11_silentBy_92 hlocks
  · exact xret_iR hC hP hS hb hr (((sm_l hr_4 rfl))) hd_4 hlocks
