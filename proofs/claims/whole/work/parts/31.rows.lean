/-! contracts: X11_goBack -/
theorem hd_X11_goBack : yX11_goBack.cls = RX11 ∧ yX11_goBack.cls ≠ "java/lang/invoke/MethodHandle" ∧ yX11_goBack.cls ≠ "java/lang/invoke/VarHandle" ∧ (parseMethodDescriptor yX11_goBack.desc).map (fun d => d.parameters.length) = some 1 := by decide +kernel
set_option maxHeartbeats 4000000 in
set_option maxRecDepth 100000 in
theorem k_X11_goBack (l : Launch) (X : xX) (S : xS) (p0 : Int32) (hs : s_X11_goBack S p0) : Met l yX11_goBack wsX11_goBack ({ frames := 1, cells := 0, slots := 0, locals := 25 } : Room) (va_Pc [.ref (X.2.1 127), .int p0] (xI X S)) (va_Qi (fun (r : Int32) (u : xS) => r = (f_X11_goBack S p0).1 ∧ u = (f_X11_goBack S p0).2) (xI X) (xA X)) 0 0 (xA X) := by
  refine Met.ofW (cc := cX11_goBack) (maxL := 3) (ret := (some .int)) (by decide) rfl ?_
  intro p e s m args below meth c s₁ B hml hv
  obtain ⟨rfl, hP, hK, hN, hJ⟩ := hv
  have hx := B.exec
  have hb := B.bytes
  have hr := B.returns
  have hts := atoms_spec (ws := wsX11_goBack) B.pre
  have hown : s.vm.findClass RX11 = some m.cls := findClass_of_methodNamed B.named
  have hlocks := B.notSynchronized
  have hC : xC X p m c cX11_goBack 3 s _ wsX11_goBack RX11 := ⟨⟨hx, hb, hml, hown, hts⟩, hK, hN, hJ⟩
  have hS : va_S (xA X) s.heap s.heap [] := va_S.rf
  have hin_X11 : ∀ w ∈ u_ws RX11 TX11 41, w ∈ wsX11_goBack := by decide +kernel
  have hl := lv_entry ([.ref (X.2.1 127), .int p0]) (n := 3) (Nat.le_of_ble_eq_true rfl)
  rw [lg_entry_eq]
  generalize (lg_sl ([.ref (X.2.1 127), .int p0]) ++ List.replicate (3 - (lg_sl ([.ref (X.2.1 127), .int p0])).length) Slot.unset).toArray = ls at hl ⊢
  have hl : lv_has ls 3 [(0, .ref (X.2.1 127)), (1, .int p0)] := hl
  refine lv_iload_n hx hb dX11_goBack_0 rfl (lv_at hl 1 rfl) ?_
  refine lv_i2l (v := (p0 : Int32).toInt64) hx hb dX11_goBack_1 rfl ?_
  refine lv_lconst (v := 0) hx hb dX11_goBack_2 (by decide) ?_
  refine lv_lconst (v := 1) hx hb dX11_goBack_3 (by decide) ?_
  refine xcS_iR (As := [.long (p0 : Int32).toInt64, .long 0, .long 1]) (rest := []) hC hP hS (k_X11_in l X S (p0 : Int32).toInt64 0 1) (va_cwS 3 hts gX11_goBack_X11_in rfl rfl rfl hs_X11_in ⟨Nat.le_of_ble_eq_true rfl, Nat.le_of_ble_eq_true rfl⟩) rfl rfl hl.1 (Nat.le_of_ble_eq_true rfl) dX11_goBack_4 (fun r_1 hp_r_1 H locs hP hS => ?_)
  obtain ⟨hr_1, hzr_1⟩ := hp_r_1
  refine lv_if_ne (tgt := 13) hx hb dX11_goBack_7 (by decide) (fun c_2 => ?_) (fun c_2 => ?_)
  · refine lv_aload_n hx hb dX11_goBack_13 rfl (lv_at hl 0 rfl) ?_
    refine xget (ref := "AbsentPraiseModel") (T := TX11) (v := .ref (X.2.1 147)) hC hP hin_X11 xo_X11 rfl 40 (by decide) (List.mem_of_getElem? (i := 2) rfl) rfl rfl dX11_goBack_14 ?_
    refine lv_iload_n hx hb dX11_goBack_17 rfl (lv_at hl 1 rfl) ?_
    have hn_3 : vp_in p0 2 := (by subst hr_1; exact nl (sn hs c_2))
    refine xzald hC hP hn_3 dX11_goBack_18 ?_
    refine lv_if_ne (tgt := 25) hx hb dX11_goBack_19 (by decide) (fun c_4 => ?_) (fun c_4 => ?_)
    · refine lv_iconst (v := 0) hx hb dX11_goBack_25 (by decide) ?_
      refine lv_istore_n (lv' := [(2, .int 0), (0, .ref (X.2.1 127)), (1, .int p0)]) hx hb dX11_goBack_26 rfl hl (by decide) rfl (fun ls hl => ?_)
      have hLp_27 : ∀ (n : Nat) (T_27 : xS) (x1_27 : Int32) (x2_27 : Int32), s_X11_goBack_L27 n T_27 x1_27 x2_27 → (∀ q : xS, q = f_X11_goBack_L27 n T_27 x1_27 x2_27 → (∀ (H : Heap) (locs : List Loc), va_P X.1 vwCl (xW X q) H → va_S (xA X) s.heap H locs → ∀ (ls : Array Slot), lv_has ls 3 [(0, .ref (X.2.1 127)), (1, .int x1_27)] → W p l e ({ frames := 1, cells := 0, slots := 0, locals := 25 } : Room) s m ([.ref (X.2.1 127), .int p0] : List Value).toArray below meth c H locs 0 0 (MQ below (va_Qi (fun (r : Int32) (u : xS) => r = (f_X11_goBack S p0).1 ∧ u = (f_X11_goBack S p0).2) (xI X) (xA X)) ([.ref (X.2.1 127), .int p0] : List Value).toArray s 0 0 (xA X)) (F0 m 56 ls []))) → ∀ (H : Heap) (locs : List Loc), va_P X.1 vwCl (xW X T_27) H → va_S (xA X) s.heap H locs → ∀ (ls : Array Slot), lv_has ls 3 [(0, .ref (X.2.1 127)), (1, .int x1_27), (2, .int x2_27)] → W p l e ({ frames := 1, cells := 0, slots := 0, locals := 25 } : Room) s m ([.ref (X.2.1 127), .int p0] : List Value).toArray below meth c H locs 0 0 (MQ below (va_Qi (fun (r : Int32) (u : xS) => r = (f_X11_goBack S p0).1 ∧ u = (f_X11_goBack S p0).2) (xI X) (xA X)) ([.ref (X.2.1 127), .int p0] : List Value).toArray s 0 0 (xA X)) (F0 m 27 ls []) := by
        intro n
        induction n with
        | zero => intro T_27 x1_27 x2_27 hs; exact hs.elim
        | succ n ih_27 =>
          intro T_27 x1_27 x2_27 hs_27 hex_27 H locs hP hS ls hl
          refine lv_iload_n hx hb dX11_goBack_27 rfl (lv_at hl 2 rfl) ?_
          refine lv_bipush (v := 72) hx hb dX11_goBack_28 (by decide) ?_
          refine lv_icmp_ge (tgt := 56) hx hb dX11_goBack_30 (by decide) (fun c_5 => ?_) (fun c_5 => ?_)
          · have he_6 : f_X11_goBack_L27 (n + 1) T_27 x1_27 x2_27 = T_27 := ((ip c_5 rfl))
            exact hex_27 _ he_6.symm _ _ hP hS ls (lv_sub hl [0, 1] rfl)
          · refine lv_aload_n hx hb dX11_goBack_33 rfl (lv_at hl 0 rfl) ?_
            refine xget (ref := "AbsentPraiseModel") (T := TX11) (v := .ref (X.2.1 131)) hC hP hin_X11 xo_X11 rfl 8 (by decide) (List.mem_of_getElem? (i := 4) rfl) rfl rfl dX11_goBack_34 ?_
            refine lv_iload_n hx hb dX11_goBack_37 rfl (lv_at hl 2 rfl) ?_
            refine lv_aload_n hx hb dX11_goBack_38 rfl (lv_at hl 0 rfl) ?_
            refine xget (ref := "AbsentPraiseModel") (T := TX11) (v := .ref (X.2.1 146)) hC hP hin_X11 xo_X11 rfl 39 (by decide) (List.mem_of_getElem? (i := 5) rfl) rfl rfl dX11_goBack_39 ?_
            refine lv_bipush (v := 73) hx hb dX11_goBack_42 (by decide) ?_
            refine lv_iload_n hx hb dX11_goBack_44 rfl (lv_at hl 1 rfl) ?_
            refine lv_imul hx hb dX11_goBack_45 ?_
            refine lv_iload_n hx hb dX11_goBack_46 rfl (lv_at hl 2 rfl) ?_
            refine lv_iadd hx hb dX11_goBack_47 ?_
            have hn_7 : vp_in ((73 * x1_27) + x2_27) 146 := (nl (sn hs_27 c_5))
            refine xiald hC hP rfl hn_7 dX11_goBack_48 ?_
            have hn_8 : vp_in x2_27 72 := (nl (nr (sn hs_27 c_5)))
            refine xiast hC hP hS rfl hn_8 dX11_goBack_49 (fun S_9 hS_9 H locs hP hS => ?_)
            refine lv_iinc (v := (x2_27 + 1)) (lv' := [(2, .int (x2_27 + 1)), (0, .ref (X.2.1 127)), (1, .int x1_27)]) hx hb dX11_goBack_50 hl (k := 2) rfl rfl (by decide) rfl (fun ls hl => ?_)
            refine lv_goto (tgt := 27) hx hb dX11_goBack_53 (by decide) ?_
            have he_10 : f_X11_goBack_L27 (n + 1) T_27 x1_27 x2_27 = f_X11_goBack_L27 n S_9 x1_27 (x2_27 + 1) := (by subst hS_9; exact (iN c_5 rfl))
            exact ih_27 S_9 x1_27 (x2_27 + 1) (by subst hS_9; exact (nr (nr (sn hs_27 c_5)))) (fun q hq => hex_27 q (hq.trans he_10.symm)) _ _ hP hS ls (lv_sub hl [1, 2, 0] rfl)
      refine hLp_27 ((fu 0 72)) S p0 0 (by subst hr_1; exact nl (sn (nr (sn hs c_2)) c_4)) (fun q_27 hq_27 H locs hP hS ls hl => ?_) _ _ hP hS ls (lv_sub hl [1, 2, 0] rfl)
      refine lv_aload_n hx hb dX11_goBack_56 rfl (lv_at hl 0 rfl) ?_
      refine lv_aload_n hx hb dX11_goBack_57 rfl (lv_at hl 0 rfl) ?_
      refine xget (ref := "AbsentPraiseModel") (T := TX11) (v := .ref (X.2.1 146)) hC hP hin_X11 xo_X11 rfl 39 (by decide) (List.mem_of_getElem? (i := 5) rfl) rfl rfl dX11_goBack_58 ?_
      refine lv_bipush (v := 73) hx hb dX11_goBack_61 (by decide) ?_
      refine lv_iload_n hx hb dX11_goBack_63 rfl (lv_at hl 1 rfl) ?_
      refine lv_imul hx hb dX11_goBack_64 ?_
      refine lv_bipush (v := 72) hx hb dX11_goBack_65 (by decide) ?_
      refine lv_iadd hx hb dX11_goBack_67 ?_
      have hn_11 : vp_in ((73 * p0) + 72) 146 := (by subst hr_1 hq_27; exact nl (nr (sn (nr (sn hs c_2)) c_4)))
      refine xiald hC hP rfl hn_11 dX11_goBack_68 ?_
      refine xput (ref := "AbsentPraiseModel") (T := TX11) (ty := .int) hC hP hS (by decide) hin_X11 tyX11 tyX11_ok nmX11 xo_X11 rfl 10 (by decide) (List.mem_of_getElem? (i := 6) rfl) rfl rfl rfl rfl rfl (Nat.le_of_ble_eq_true rfl) dX11_goBack_69 rfl (fun S_12 hS_12 H locs hP hS => ?_)
      refine lv_aload_n hx hb dX11_goBack_72 rfl (lv_at hl 0 rfl) ?_
      refine lv_iconst (v := 0) hx hb dX11_goBack_73 (by decide) ?_
      refine xput (ref := "AbsentPraiseModel") (T := TX11) (ty := .int) hC hP hS (by decide) hin_X11 tyX11 tyX11_ok nmX11 xo_X11 rfl 36 (by decide) (List.mem_of_getElem? (i := 7) rfl) rfl rfl rfl rfl rfl (Nat.le_of_ble_eq_true rfl) dX11_goBack_74 rfl (fun S_13 hS_13 H locs hP hS => ?_)
      refine lv_iconst (v := 1) hx hb dX11_goBack_77 (by decide) ?_
      exact xret_iW hC hP hS hb hr ((by subst hr_1 hq_27 hS_12 hS_13; exact (iN c_2 (iN c_4 rfl)))) dX11_goBack_78 hlocks
    · refine lv_ldc (v := (-1000000003)) hx hb hown (hts (.constant RX11 239 (-1000000003)) (List.mem_of_getElem? (i := 3) rfl)) dX11_goBack_22 ?_
      exact xret_iW hC hP hS hb hr ((by subst hr_1; exact (iN c_2 (ip c_4 rfl)))) dX11_goBack_24 hlocks
  · refine lv_ldc (v := (-1000000001)) hx hb hown (hts (.constant RX11 230 (-1000000001)) (List.mem_of_getElem? (i := 1) rfl)) dX11_goBack_10 ?_
    exact xret_iW hC hP hS hb hr ((by subst hr_1; exact (ip c_2 rfl))) dX11_goBack_12 hlocks
