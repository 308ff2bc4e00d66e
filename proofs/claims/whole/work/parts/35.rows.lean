set_option linter.all false
/-! contracts: X11_liking, X11_said, X11_remember, X11_hoursRefused, X11_hour, X11_go -/
theorem hd_X11_liking : yX11_liking.cls = RX11 ∧ yX11_liking.cls ≠ "java/lang/invoke/MethodHandle" ∧ yX11_liking.cls ≠ "java/lang/invoke/VarHandle" ∧ (parseMethodDescriptor yX11_liking.desc).map (fun d => d.parameters.length) = some 2 := by decide +kernel
set_option maxHeartbeats 4000000 in
set_option maxRecDepth 100000 in
theorem k_X11_liking (l : Launch) (X : xX) (S : xS) (p0 : Int32) (p1 : Int32) (hs : s_X11_liking S p0 p1) : Met l yX11_liking wsX11_liking ({ frames := 3, cells := 0, slots := 0, locals := 68 } : Room) (va_Pc [.ref (X.2.1 127), .int p0, .int p1] (xI X S)) (va_Qi (fun (r : Int32) (u : xS) => r = (f_X11_liking S p0 p1) ∧ u = S) (xI X) (xA X)) 0 0 (xA X) := by
  refine Met.ofW (cc := cX11_liking) (maxL := 3) (ret := (some .int)) (by decide +kernel) rfl ?_
  intro p e s m args below meth c s₁ B hml hv
  obtain ⟨rfl, hP, hK, hN, hJ⟩ := hv
  have hx := B.exec
  have hb := B.bytes
  have hr := B.returns
  have hts := atoms_spec (ws := wsX11_liking) B.pre
  have hown : s.vm.findClass RX11 = some m.cls := findClass_of_methodNamed B.named
  have hlocks := B.notSynchronized
  have hC : xC X p m c cX11_liking 3 s _ wsX11_liking RX11 := ⟨⟨hx, hb, hml, hown, hts⟩, hK, hN, hJ⟩
  have hS : va_S (xA X) s.heap s.heap [] := va_S.rf
  have hin_X11 : ∀ w ∈ u_ws RX11 TX11 41, w ∈ wsX11_liking := by decide +kernel
  have hl := lv_entry ([.ref (X.2.1 127), .int p0, .int p1]) (n := 3) (Nat.le_of_ble_eq_true rfl)
  rw [lg_entry_eq]
  generalize (lg_sl ([.ref (X.2.1 127), .int p0, .int p1]) ++ List.replicate (3 - (lg_sl ([.ref (X.2.1 127), .int p0, .int p1])).length) Slot.unset).toArray = ls at hl ⊢
  have hl : lv_has ls 3 [(0, .ref (X.2.1 127)), (1, .int p0), (2, .int p1)] := hl
  refine lv_aload_n hx hb dX11_liking_0 rfl (lv_at hl 0 rfl) ?_
  refine lv_iload_n hx hb dX11_liking_1 rfl (lv_at hl 1 rfl) ?_
  refine lv_iload_n hx hb dX11_liking_2 rfl (lv_at hl 2 rfl) ?_
  refine xcV_iR (b := 127) (As := [.int p0, .int p1]) (rest := []) hC hP hS (k_X11_areTwo l X S p0 p1) (cwV 2 hts gX11_liking_X11_areTwo rfl rfl rfl hd_X11_areTwo ⟨Nat.le_of_ble_eq_true rfl, Nat.le_of_ble_eq_true rfl⟩) xo_X11 rfl rfl rfl hl.1 (Nat.le_of_ble_eq_true rfl) dX11_liking_3 (fun r_1 hp_r_1 H locs hP hS => ?_)
  obtain ⟨hr_1, hzr_1⟩ := hp_r_1
  refine lv_if_eq (tgt := 26) hx hb dX11_liking_6 (by decide) (fun c_2 => ?_) (fun c_2 => ?_)
  · refine lv_ldc (v := (-1000000001)) hx hb hown (hts (.constant RX11 230 (-1000000001)) (List.mem_of_getElem? (i := 2) rfl)) dX11_liking_26 ?_
    exact xret_iR hC hP hS hb hr ((by have hr_1 := hr_1.symm; subst hr_1; exact (ip c_2 rfl))) dX11_liking_28 hlocks
  · refine lv_aload_n hx hb dX11_liking_9 rfl (lv_at hl 0 rfl) ?_
    refine xget (ref := "AbsentPraiseModel") (T := TX11) (v := .ref (X.2.1 131)) hC hP hin_X11 xo_X11 rfl 8 (by decide) (List.mem_of_getElem? (i := 1) rfl) rfl rfl dX11_liking_10 ?_
    refine lv_bipush (v := 23) hx hb dX11_liking_13 (by decide) ?_
    refine lv_bipush (v := 7) hx hb dX11_liking_15 (by decide) ?_
    refine lv_iload_n hx hb dX11_liking_17 rfl (lv_at hl 1 rfl) ?_
    refine lv_imul hx hb dX11_liking_18 ?_
    refine lv_iadd hx hb dX11_liking_19 ?_
    refine lv_iload_n hx hb dX11_liking_20 rfl (lv_at hl 2 rfl) ?_
    refine lv_iadd hx hb dX11_liking_21 ?_
    have hn_3 : vp_in ((23 + (7 * p0)) + p1) 72 := (by have hr_1 := hr_1.symm; subst hr_1; exact nl (sn hs c_2))
    refine xiald hC hP rfl hn_3 dX11_liking_22 ?_
    refine lv_goto (tgt := 28) hx hb dX11_liking_23 (by decide) ?_
    exact xret_iR hC hP hS hb hr ((by have hr_1 := hr_1.symm; subst hr_1; exact (iN c_2 rfl))) dX11_liking_28 hlocks
theorem hd_X11_said : yX11_said.cls = RX11 ∧ yX11_said.cls ≠ "java/lang/invoke/MethodHandle" ∧ yX11_said.cls ≠ "java/lang/invoke/VarHandle" ∧ (parseMethodDescriptor yX11_said.desc).map (fun d => d.parameters.length) = some 3 := by decide +kernel
set_option maxHeartbeats 4000000 in
set_option maxRecDepth 100000 in
theorem k_X11_said (l : Launch) (X : xX) (S : xS) (p0 : Int32) (p1 : Int32) (p2 : Int32) (hs : s_X11_said S p0 p1 p2) : Met l yX11_said wsX11_said ({ frames := 3, cells := 0, slots := 0, locals := 68 } : Room) (va_Pc [.ref (X.2.1 127), .int p0, .int p1, .int p2] (xI X S)) (va_Qi (fun (r : Int32) (u : xS) => r = (f_X11_said S p0 p1 p2) ∧ u = S) (xI X) (xA X)) 0 0 (xA X) := by
  refine Met.ofW (cc := cX11_said) (maxL := 4) (ret := (some .int)) (by decide +kernel) rfl ?_
  intro p e s m args below meth c s₁ B hml hv
  obtain ⟨rfl, hP, hK, hN, hJ⟩ := hv
  have hx := B.exec
  have hb := B.bytes
  have hr := B.returns
  have hts := atoms_spec (ws := wsX11_said) B.pre
  have hown : s.vm.findClass RX11 = some m.cls := findClass_of_methodNamed B.named
  have hlocks := B.notSynchronized
  have hC : xC X p m c cX11_said 4 s _ wsX11_said RX11 := ⟨⟨hx, hb, hml, hown, hts⟩, hK, hN, hJ⟩
  have hS : va_S (xA X) s.heap s.heap [] := va_S.rf
  have hin_X11 : ∀ w ∈ u_ws RX11 TX11 41, w ∈ wsX11_said := by decide +kernel
  have hl := lv_entry ([.ref (X.2.1 127), .int p0, .int p1, .int p2]) (n := 4) (Nat.le_of_ble_eq_true rfl)
  rw [lg_entry_eq]
  generalize (lg_sl ([.ref (X.2.1 127), .int p0, .int p1, .int p2]) ++ List.replicate (4 - (lg_sl ([.ref (X.2.1 127), .int p0, .int p1, .int p2])).length) Slot.unset).toArray = ls at hl ⊢
  have hl : lv_has ls 4 [(0, .ref (X.2.1 127)), (1, .int p0), (2, .int p1), (3, .int p2)] := hl
  refine lv_aload_n hx hb dX11_said_0 rfl (lv_at hl 0 rfl) ?_
  refine lv_iload_n hx hb dX11_said_1 rfl (lv_at hl 1 rfl) ?_
  refine lv_iload_n hx hb dX11_said_2 rfl (lv_at hl 2 rfl) ?_
  refine xcV_iR (b := 127) (As := [.int p0, .int p1]) (rest := []) hC hP hS (k_X11_areTwo l X S p0 p1) (cwV 2 hts gX11_said_X11_areTwo rfl rfl rfl hd_X11_areTwo ⟨Nat.le_of_ble_eq_true rfl, Nat.le_of_ble_eq_true rfl⟩) xo_X11 rfl rfl rfl hl.1 (Nat.le_of_ble_eq_true rfl) dX11_said_3 (fun r_1 hp_r_1 H locs hP hS => ?_)
  obtain ⟨hr_1, hzr_1⟩ := hp_r_1
  refine lv_if_ne (tgt := 12) hx hb dX11_said_6 (by decide) (fun c_2 => ?_) (fun c_2 => ?_)
  · refine lv_iload_n hx hb dX11_said_12 rfl (lv_at hl 3 rfl) ?_
    refine lv_if_ne (tgt := 32) hx hb dX11_said_13 (by decide) (fun c_3 => ?_) (fun c_3 => ?_)
    · refine lv_iload_n hx hb dX11_said_32 rfl (lv_at hl 3 rfl) ?_
      refine lv_iconst (v := 1) hx hb dX11_said_33 (by decide) ?_
      refine lv_icmp_ne (tgt := 58) hx hb dX11_said_34 (by decide) (fun c_4 => ?_) (fun c_4 => ?_)
      · refine lv_ldc (v := (-1000000002)) hx hb hown (hts (.constant RX11 91 (-1000000002)) (List.mem_of_getElem? (i := 3) rfl)) dX11_said_58 ?_
        exact xret_iR hC hP hS hb hr ((by have hr_1 := hr_1.symm; subst hr_1; exact (iN c_2 (iN c_3 (iN c_4 rfl))))) dX11_said_60 hlocks
      · refine lv_aload_n hx hb dX11_said_37 rfl (lv_at hl 0 rfl) ?_
        refine lv_aload_n hx hb dX11_said_38 rfl (lv_at hl 0 rfl) ?_
        refine xget (ref := "AbsentPraiseModel") (T := TX11) (v := .ref (X.2.1 131)) hC hP hin_X11 xo_X11 rfl 8 (by decide) (List.mem_of_getElem? (i := 2) rfl) rfl rfl dX11_said_39 ?_
        refine lv_iload_n hx hb dX11_said_42 rfl (lv_at hl 1 rfl) ?_
        refine lv_iload_n hx hb dX11_said_43 rfl (lv_at hl 2 rfl) ?_
        have hn_5 : s_X11_hears S 131 p0 p1 := (by have hr_1 := hr_1.symm; subst hr_1; exact nl (sp (sn (sn hs c_2) c_3) c_4))
        refine xcV_iR (b := 127) (As := [.ref (X.2.1 131), .int p0, .int p1]) (rest := []) hC hP hS (k_X11_hears l X S 131 p0 p1 rfl hn_5) (cwV 3 hts gX11_said_X11_hears rfl rfl rfl hd_X11_hears ⟨Nat.le_of_ble_eq_true rfl, Nat.le_of_ble_eq_true rfl⟩) xo_X11 rfl rfl rfl hl.1 (Nat.le_of_ble_eq_true rfl) dX11_said_44 (fun r_6 hp_r_6 H locs hP hS => ?_)
        obtain ⟨hr_6, hzr_6⟩ := hp_r_6
        refine lv_if_eq (tgt := 54) hx hb dX11_said_47 (by decide) (fun c_7 => ?_) (fun c_7 => ?_)
        · refine lv_iconst (v := 0) hx hb dX11_said_54 (by decide) ?_
          refine lv_goto (tgt := 60) hx hb dX11_said_55 (by decide) ?_
          exact xret_iR hC hP hS hb hr ((by have hr_1 := hr_1.symm; have hr_6 := hr_6.symm; subst hr_1 hr_6; exact (iN c_2 (iN c_3 (ip c_4 (ip c_7 rfl)))))) dX11_said_60 hlocks
        · refine lv_iconst (v := 1) hx hb dX11_said_50 (by decide) ?_
          refine lv_goto (tgt := 60) hx hb dX11_said_51 (by decide) ?_
          exact xret_iR hC hP hS hb hr ((by have hr_1 := hr_1.symm; have hr_6 := hr_6.symm; subst hr_1 hr_6; exact (iN c_2 (iN c_3 (ip c_4 (iN c_7 rfl)))))) dX11_said_60 hlocks
    · refine lv_aload_n hx hb dX11_said_16 rfl (lv_at hl 0 rfl) ?_
      refine lv_aload_n hx hb dX11_said_17 rfl (lv_at hl 0 rfl) ?_
      refine xget (ref := "AbsentPraiseModel") (T := TX11) (v := .ref (X.2.1 131)) hC hP hin_X11 xo_X11 rfl 8 (by decide) (List.mem_of_getElem? (i := 2) rfl) rfl rfl dX11_said_18 ?_
      refine lv_iload_n hx hb dX11_said_21 rfl (lv_at hl 1 rfl) ?_
      refine lv_iload_n hx hb dX11_said_22 rfl (lv_at hl 2 rfl) ?_
      have hn_8 : s_X11_says S 131 p0 p1 := (by have hr_1 := hr_1.symm; subst hr_1; exact nl (sp (sn hs c_2) c_3))
      refine xcV_iR (b := 127) (As := [.ref (X.2.1 131), .int p0, .int p1]) (rest := []) hC hP hS (k_X11_says l X S 131 p0 p1 rfl hn_8) (cwV 3 hts gX11_said_X11_says rfl rfl rfl hd_X11_says ⟨Nat.le_of_ble_eq_true rfl, Nat.le_of_ble_eq_true rfl⟩) xo_X11 rfl rfl rfl hl.1 (Nat.le_of_ble_eq_true rfl) dX11_said_23 (fun r_9 hr_9 H locs hP hS => ?_)
      refine lv_bipush (v := 100) hx hb dX11_said_26 (by decide) ?_
      refine lv_iadd hx hb dX11_said_28 ?_
      refine lv_goto (tgt := 60) hx hb dX11_said_29 (by decide) ?_
      exact xret_iR hC hP hS hb hr ((by have hr_1 := hr_1.symm; have hr_9 := hr_9.symm; subst hr_1 hr_9; exact (iN c_2 (ip c_3 rfl)))) dX11_said_60 hlocks
  · refine lv_ldc (v := (-1000000001)) hx hb hown (hts (.constant RX11 230 (-1000000001)) (List.mem_of_getElem? (i := 1) rfl)) dX11_said_9 ?_
    exact xret_iR hC hP hS hb hr ((by have hr_1 := hr_1.symm; subst hr_1; exact (ip c_2 rfl))) dX11_said_11 hlocks
theorem hd_X11_remember : yX11_remember.cls = RX11 ∧ yX11_remember.cls ≠ "java/lang/invoke/MethodHandle" ∧ yX11_remember.cls ≠ "java/lang/invoke/VarHandle" ∧ (parseMethodDescriptor yX11_remember.desc).map (fun d => d.parameters.length) = some 0 := by decide +kernel
set_option maxHeartbeats 4000000 in
set_option maxRecDepth 100000 in
theorem k_X11_remember (l : Launch) (X : xX) (S : xS) (hs : s_X11_remember S) : Met l yX11_remember wsX11_remember ({ frames := 0, cells := 0, slots := 0, locals := 0 } : Room) (va_Pc [.ref (X.2.1 127)] (xI X S)) (va_Qv (fun u : xS => u = (f_X11_remember S)) (xI X) (xA X)) 0 0 (xA X) := by
  refine Met.ofW (cc := cX11_remember) (maxL := 2) (ret := none) (by decide +kernel) rfl ?_
  intro p e s m args below meth c s₁ B hml hv
  obtain ⟨rfl, hP, hK, hN, hJ⟩ := hv
  have hx := B.exec
  have hb := B.bytes
  have hr := B.returns
  have hts := atoms_spec (ws := wsX11_remember) B.pre
  have hown : s.vm.findClass RX11 = some m.cls := findClass_of_methodNamed B.named
  have hlocks := B.notSynchronized
  have hC : xC X p m c cX11_remember 2 s _ wsX11_remember RX11 := ⟨⟨hx, hb, hml, hown, hts⟩, hK, hN, hJ⟩
  have hS : va_S (xA X) s.heap s.heap [] := va_S.rf
  have hin_X11 : ∀ w ∈ u_ws RX11 TX11 41, w ∈ wsX11_remember := by decide +kernel
  have hl := lv_entry ([.ref (X.2.1 127)]) (n := 2) (Nat.le_of_ble_eq_true rfl)
  rw [lg_entry_eq]
  generalize (lg_sl ([.ref (X.2.1 127)]) ++ List.replicate (2 - (lg_sl ([.ref (X.2.1 127)])).length) Slot.unset).toArray = ls at hl ⊢
  have hl : lv_has ls 2 [(0, .ref (X.2.1 127))] := hl
  refine lv_aload_n hx hb dX11_remember_0 rfl (lv_at hl 0 rfl) ?_
  refine xget (ref := "AbsentPraiseModel") (T := TX11) (v := .int (S 127 36)) hC hP hin_X11 xo_X11 rfl 36 (by decide) (List.mem_of_getElem? (i := 1) rfl) rfl rfl dX11_remember_1 ?_
  refine lv_bipush (v := 16) hx hb dX11_remember_4 (by decide) ?_
  refine lv_icmp_ne (tgt := 50) hx hb dX11_remember_6 (by decide) (fun c_1 => ?_) (fun c_1 => ?_)
  · refine lv_iconst (v := 0) hx hb dX11_remember_50 (by decide) ?_
    refine lv_istore_n (lv' := [(1, .int 0), (0, .ref (X.2.1 127))]) hx hb dX11_remember_51 rfl hl (by decide) rfl (fun ls hl => ?_)
    have hLp_52 : ∀ (n : Nat) (T_52 : xS) (x1_52 : Int32), s_X11_remember_L52 n T_52 x1_52 → (∀ q : xS, q = f_X11_remember_L52 n T_52 x1_52 → (∀ (H : Heap) (locs : List Loc), va_P X.1 vwCl (xW X q) H → va_S (xA X) s.heap H locs → ∀ (ls : Array Slot), lv_has ls 2 [(0, .ref (X.2.1 127))] → W p l e ({ frames := 0, cells := 0, slots := 0, locals := 0 } : Room) s m ([.ref (X.2.1 127)] : List Value).toArray below meth c H locs 0 0 (MQ below (va_Qv (fun u : xS => u = (f_X11_remember S)) (xI X) (xA X)) ([.ref (X.2.1 127)] : List Value).toArray s 0 0 (xA X)) (F0 m 84 ls []))) → ∀ (H : Heap) (locs : List Loc), va_P X.1 vwCl (xW X T_52) H → va_S (xA X) s.heap H locs → ∀ (ls : Array Slot), lv_has ls 2 [(0, .ref (X.2.1 127)), (1, .int x1_52)] → W p l e ({ frames := 0, cells := 0, slots := 0, locals := 0 } : Room) s m ([.ref (X.2.1 127)] : List Value).toArray below meth c H locs 0 0 (MQ below (va_Qv (fun u : xS => u = (f_X11_remember S)) (xI X) (xA X)) ([.ref (X.2.1 127)] : List Value).toArray s 0 0 (xA X)) (F0 m 52 ls []) := by
      intro n
      induction n with
      | zero => intro T_52 x1_52 hs; exact hs.elim
      | succ n ih_52 =>
        intro T_52 x1_52 hs_52 hex_52 H locs hP hS ls hl
        refine lv_iload_n hx hb dX11_remember_52 rfl (lv_at hl 1 rfl) ?_
        refine lv_bipush (v := 72) hx hb dX11_remember_53 (by decide) ?_
        refine lv_icmp_ge (tgt := 84) hx hb dX11_remember_55 (by decide) (fun c_2 => ?_) (fun c_2 => ?_)
        · have he_3 : f_X11_remember_L52 (n + 1) T_52 x1_52 = T_52 := ((ip c_2 rfl))
          exact hex_52 _ he_3.symm _ _ hP hS ls (lv_sub hl [0] rfl)
        · refine lv_aload_n hx hb dX11_remember_58 rfl (lv_at hl 0 rfl) ?_
          refine xget (ref := "AbsentPraiseModel") (T := TX11) (v := .ref (X.2.1 144)) hC hP hin_X11 xo_X11 rfl 37 (by decide) (List.mem_of_getElem? (i := 2) rfl) rfl rfl dX11_remember_59 ?_
          refine lv_bipush (v := 72) hx hb dX11_remember_62 (by decide) ?_
          refine lv_aload_n hx hb dX11_remember_64 rfl (lv_at hl 0 rfl) ?_
          refine xget (ref := "AbsentPraiseModel") (T := TX11) (v := .int (T_52 127 36)) hC hP hin_X11 xo_X11 rfl 36 (by decide) (List.mem_of_getElem? (i := 1) rfl) rfl rfl dX11_remember_65 ?_
          refine lv_imul hx hb dX11_remember_68 ?_
          refine lv_iload_n hx hb dX11_remember_69 rfl (lv_at hl 1 rfl) ?_
          refine lv_iadd hx hb dX11_remember_70 ?_
          refine lv_aload_n hx hb dX11_remember_71 rfl (lv_at hl 0 rfl) ?_
          refine xget (ref := "AbsentPraiseModel") (T := TX11) (v := .ref (X.2.1 131)) hC hP hin_X11 xo_X11 rfl 8 (by decide) (List.mem_of_getElem? (i := 3) rfl) rfl rfl dX11_remember_72 ?_
          refine lv_iload_n hx hb dX11_remember_75 rfl (lv_at hl 1 rfl) ?_
          have hn_4 : vp_in x1_52 72 := (nl (sn hs_52 c_2))
          refine xiald hC hP rfl hn_4 dX11_remember_76 ?_
          have hn_5 : vp_in ((72 * (T_52 127 36)) + x1_52) 1152 := (nl (nr (sn hs_52 c_2)))
          refine xiast hC hP hS rfl hn_5 dX11_remember_77 (fun S_6 hS_6 H locs hP hS => ?_)
          refine lv_iinc (v := (x1_52 + 1)) (lv' := [(1, .int (x1_52 + 1)), (0, .ref (X.2.1 127))]) hx hb dX11_remember_78 hl (k := 1) rfl rfl (by decide) rfl (fun ls hl => ?_)
          refine lv_goto (tgt := 52) hx hb dX11_remember_81 (by decide) ?_
          have he_7 : f_X11_remember_L52 (n + 1) T_52 x1_52 = f_X11_remember_L52 n S_6 (x1_52 + 1) := (by have hS_6 := hS_6.symm; subst hS_6; exact (iN c_2 rfl))
          exact ih_52 S_6 (x1_52 + 1) (by have hS_6 := hS_6.symm; subst hS_6; exact (nr (nr (sn hs_52 c_2)))) (fun q hq => hex_52 q (hq.trans he_7.symm)) _ _ hP hS ls (lv_sub hl [1, 0] rfl)
    refine hLp_52 ((fu 0 72)) S 0 (nl (sn hs c_1)) (fun q_52 hq_52 H locs hP hS ls hl => ?_) _ _ hP hS ls (lv_sub hl [1, 0] rfl)
    refine lv_aload_n hx hb dX11_remember_84 rfl (lv_at hl 0 rfl) ?_
    refine lv_dup hx hb dX11_remember_85 rfl ?_
    refine xget (ref := "AbsentPraiseModel") (T := TX11) (v := .int (q_52 127 36)) hC hP hin_X11 xo_X11 rfl 36 (by decide) (List.mem_of_getElem? (i := 1) rfl) rfl rfl dX11_remember_86 ?_
    refine lv_iconst (v := 1) hx hb dX11_remember_89 (by decide) ?_
    refine lv_iadd hx hb dX11_remember_90 ?_
    refine xput (ref := "AbsentPraiseModel") (T := TX11) (ty := .int) hC hP hS (by decide) hin_X11 tyX11 tyX11_ok nmX11 xo_X11 rfl 36 (by decide) (List.mem_of_getElem? (i := 1) rfl) rfl rfl rfl rfl rfl (Nat.le_of_ble_eq_true rfl) dX11_remember_91 rfl (fun S_8 hS_8 H locs hP hS => ?_)
    exact xret_v hC hP hS hb hr (by simp only [f_X11_remember, ← hq_52, ← hS_8, if_neg c_1]) dX11_remember_94 hlocks
  · refine lv_bipush (v := 72) hx hb dX11_remember_9 (by decide) ?_
    refine lv_istore_n (lv' := [(1, .int 72), (0, .ref (X.2.1 127))]) hx hb dX11_remember_11 rfl hl (by decide) rfl (fun ls hl => ?_)
    have hLp_12 : ∀ (n : Nat) (T_12 : xS) (x1_12 : Int32), s_X11_remember_L12 n T_12 x1_12 → (∀ q : xS, q = f_X11_remember_L12 n T_12 x1_12 → (∀ (H : Heap) (locs : List Loc), va_P X.1 vwCl (xW X q) H → va_S (xA X) s.heap H locs → ∀ (ls : Array Slot), lv_has ls 2 [(0, .ref (X.2.1 127))] → W p l e ({ frames := 0, cells := 0, slots := 0, locals := 0 } : Room) s m ([.ref (X.2.1 127)] : List Value).toArray below meth c H locs 0 0 (MQ below (va_Qv (fun u : xS => u = (f_X11_remember S)) (xI X) (xA X)) ([.ref (X.2.1 127)] : List Value).toArray s 0 0 (xA X)) (F0 m 40 ls []))) → ∀ (H : Heap) (locs : List Loc), va_P X.1 vwCl (xW X T_12) H → va_S (xA X) s.heap H locs → ∀ (ls : Array Slot), lv_has ls 2 [(0, .ref (X.2.1 127)), (1, .int x1_12)] → W p l e ({ frames := 0, cells := 0, slots := 0, locals := 0 } : Room) s m ([.ref (X.2.1 127)] : List Value).toArray below meth c H locs 0 0 (MQ below (va_Qv (fun u : xS => u = (f_X11_remember S)) (xI X) (xA X)) ([.ref (X.2.1 127)] : List Value).toArray s 0 0 (xA X)) (F0 m 12 ls []) := by
      intro n
      induction n with
      | zero => intro T_12 x1_12 hs; exact hs.elim
      | succ n ih_12 =>
        intro T_12 x1_12 hs_12 hex_12 H locs hP hS ls hl
        refine lv_iload_n hx hb dX11_remember_12 rfl (lv_at hl 1 rfl) ?_
        refine lv_sipush (v := 1152) hx hb dX11_remember_13 (by decide) ?_
        refine lv_icmp_ge (tgt := 40) hx hb dX11_remember_16 (by decide) (fun c_9 => ?_) (fun c_9 => ?_)
        · have he_10 : f_X11_remember_L12 (n + 1) T_12 x1_12 = T_12 := ((ip c_9 rfl))
          exact hex_12 _ he_10.symm _ _ hP hS ls (lv_sub hl [0] rfl)
        · refine lv_aload_n hx hb dX11_remember_19 rfl (lv_at hl 0 rfl) ?_
          refine xget (ref := "AbsentPraiseModel") (T := TX11) (v := .ref (X.2.1 144)) hC hP hin_X11 xo_X11 rfl 37 (by decide) (List.mem_of_getElem? (i := 2) rfl) rfl rfl dX11_remember_20 ?_
          refine lv_iload_n hx hb dX11_remember_23 rfl (lv_at hl 1 rfl) ?_
          refine lv_bipush (v := 72) hx hb dX11_remember_24 (by decide) ?_
          refine lv_isub hx hb dX11_remember_26 ?_
          refine lv_aload_n hx hb dX11_remember_27 rfl (lv_at hl 0 rfl) ?_
          refine xget (ref := "AbsentPraiseModel") (T := TX11) (v := .ref (X.2.1 144)) hC hP hin_X11 xo_X11 rfl 37 (by decide) (List.mem_of_getElem? (i := 2) rfl) rfl rfl dX11_remember_28 ?_
          refine lv_iload_n hx hb dX11_remember_31 rfl (lv_at hl 1 rfl) ?_
          have hn_11 : vp_in x1_12 1152 := (nl (sn hs_12 c_9))
          refine xiald hC hP rfl hn_11 dX11_remember_32 ?_
          have hn_12 : vp_in (x1_12 - 72) 1152 := (nl (nr (sn hs_12 c_9)))
          refine xiast hC hP hS rfl hn_12 dX11_remember_33 (fun S_13 hS_13 H locs hP hS => ?_)
          refine lv_iinc (v := (x1_12 + 1)) (lv' := [(1, .int (x1_12 + 1)), (0, .ref (X.2.1 127))]) hx hb dX11_remember_34 hl (k := 1) rfl rfl (by decide) rfl (fun ls hl => ?_)
          refine lv_goto (tgt := 12) hx hb dX11_remember_37 (by decide) ?_
          have he_14 : f_X11_remember_L12 (n + 1) T_12 x1_12 = f_X11_remember_L12 n S_13 (x1_12 + 1) := (by have hS_13 := hS_13.symm; subst hS_13; exact (iN c_9 rfl))
          exact ih_12 S_13 (x1_12 + 1) (by have hS_13 := hS_13.symm; subst hS_13; exact (nr (nr (sn hs_12 c_9)))) (fun q hq => hex_12 q (hq.trans he_14.symm)) _ _ hP hS ls (lv_sub hl [1, 0] rfl)
    refine hLp_12 ((fu 72 1152)) S 72 (nl (sp hs c_1)) (fun q_12 hq_12 H locs hP hS ls hl => ?_) _ _ hP hS ls (lv_sub hl [1, 0] rfl)
    refine lv_aload_n hx hb dX11_remember_40 rfl (lv_at hl 0 rfl) ?_
    refine lv_dup hx hb dX11_remember_41 rfl ?_
    refine xget (ref := "AbsentPraiseModel") (T := TX11) (v := .int (q_12 127 36)) hC hP hin_X11 xo_X11 rfl 36 (by decide) (List.mem_of_getElem? (i := 1) rfl) rfl rfl dX11_remember_42 ?_
    refine lv_iconst (v := 1) hx hb dX11_remember_45 (by decide) ?_
    refine lv_isub hx hb dX11_remember_46 ?_
    refine xput (ref := "AbsentPraiseModel") (T := TX11) (ty := .int) hC hP hS (by decide) hin_X11 tyX11 tyX11_ok nmX11 xo_X11 rfl 36 (by decide) (List.mem_of_getElem? (i := 1) rfl) rfl rfl rfl rfl rfl (Nat.le_of_ble_eq_true rfl) dX11_remember_47 rfl (fun S_15 hS_15 H locs hP hS => ?_)
    refine lv_iconst (v := 0) hx hb dX11_remember_50 (by decide) ?_
    refine lv_istore_n (lv' := [(1, .int 0), (0, .ref (X.2.1 127))]) hx hb dX11_remember_51 rfl hl (by decide) rfl (fun ls hl => ?_)
    have hLp_52 : ∀ (n : Nat) (T_52 : xS) (x1_52 : Int32), s_X11_remember_L52 n T_52 x1_52 → (∀ q : xS, q = f_X11_remember_L52 n T_52 x1_52 → (∀ (H : Heap) (locs : List Loc), va_P X.1 vwCl (xW X q) H → va_S (xA X) s.heap H locs → ∀ (ls : Array Slot), lv_has ls 2 [(0, .ref (X.2.1 127))] → W p l e ({ frames := 0, cells := 0, slots := 0, locals := 0 } : Room) s m ([.ref (X.2.1 127)] : List Value).toArray below meth c H locs 0 0 (MQ below (va_Qv (fun u : xS => u = (f_X11_remember S)) (xI X) (xA X)) ([.ref (X.2.1 127)] : List Value).toArray s 0 0 (xA X)) (F0 m 84 ls []))) → ∀ (H : Heap) (locs : List Loc), va_P X.1 vwCl (xW X T_52) H → va_S (xA X) s.heap H locs → ∀ (ls : Array Slot), lv_has ls 2 [(0, .ref (X.2.1 127)), (1, .int x1_52)] → W p l e ({ frames := 0, cells := 0, slots := 0, locals := 0 } : Room) s m ([.ref (X.2.1 127)] : List Value).toArray below meth c H locs 0 0 (MQ below (va_Qv (fun u : xS => u = (f_X11_remember S)) (xI X) (xA X)) ([.ref (X.2.1 127)] : List Value).toArray s 0 0 (xA X)) (F0 m 52 ls []) := by
      intro n
      induction n with
      | zero => intro T_52 x1_52 hs; exact hs.elim
      | succ n ih_52 =>
        intro T_52 x1_52 hs_52 hex_52 H locs hP hS ls hl
        refine lv_iload_n hx hb dX11_remember_52 rfl (lv_at hl 1 rfl) ?_
        refine lv_bipush (v := 72) hx hb dX11_remember_53 (by decide) ?_
        refine lv_icmp_ge (tgt := 84) hx hb dX11_remember_55 (by decide) (fun c_16 => ?_) (fun c_16 => ?_)
        · have he_17 : f_X11_remember_L52 (n + 1) T_52 x1_52 = T_52 := ((ip c_16 rfl))
          exact hex_52 _ he_17.symm _ _ hP hS ls (lv_sub hl [0] rfl)
        · refine lv_aload_n hx hb dX11_remember_58 rfl (lv_at hl 0 rfl) ?_
          refine xget (ref := "AbsentPraiseModel") (T := TX11) (v := .ref (X.2.1 144)) hC hP hin_X11 xo_X11 rfl 37 (by decide) (List.mem_of_getElem? (i := 2) rfl) rfl rfl dX11_remember_59 ?_
          refine lv_bipush (v := 72) hx hb dX11_remember_62 (by decide) ?_
          refine lv_aload_n hx hb dX11_remember_64 rfl (lv_at hl 0 rfl) ?_
          refine xget (ref := "AbsentPraiseModel") (T := TX11) (v := .int (T_52 127 36)) hC hP hin_X11 xo_X11 rfl 36 (by decide) (List.mem_of_getElem? (i := 1) rfl) rfl rfl dX11_remember_65 ?_
          refine lv_imul hx hb dX11_remember_68 ?_
          refine lv_iload_n hx hb dX11_remember_69 rfl (lv_at hl 1 rfl) ?_
          refine lv_iadd hx hb dX11_remember_70 ?_
          refine lv_aload_n hx hb dX11_remember_71 rfl (lv_at hl 0 rfl) ?_
          refine xget (ref := "AbsentPraiseModel") (T := TX11) (v := .ref (X.2.1 131)) hC hP hin_X11 xo_X11 rfl 8 (by decide) (List.mem_of_getElem? (i := 3) rfl) rfl rfl dX11_remember_72 ?_
          refine lv_iload_n hx hb dX11_remember_75 rfl (lv_at hl 1 rfl) ?_
          have hn_18 : vp_in x1_52 72 := (nl (sn hs_52 c_16))
          refine xiald hC hP rfl hn_18 dX11_remember_76 ?_
          have hn_19 : vp_in ((72 * (T_52 127 36)) + x1_52) 1152 := (nl (nr (sn hs_52 c_16)))
          refine xiast hC hP hS rfl hn_19 dX11_remember_77 (fun S_20 hS_20 H locs hP hS => ?_)
          refine lv_iinc (v := (x1_52 + 1)) (lv' := [(1, .int (x1_52 + 1)), (0, .ref (X.2.1 127))]) hx hb dX11_remember_78 hl (k := 1) rfl rfl (by decide) rfl (fun ls hl => ?_)
          refine lv_goto (tgt := 52) hx hb dX11_remember_81 (by decide) ?_
          have he_21 : f_X11_remember_L52 (n + 1) T_52 x1_52 = f_X11_remember_L52 n S_20 (x1_52 + 1) := (by have hS_20 := hS_20.symm; subst hS_20; exact (iN c_16 rfl))
          exact ih_52 S_20 (x1_52 + 1) (by have hS_20 := hS_20.symm; subst hS_20; exact (nr (nr (sn hs_52 c_16)))) (fun q hq => hex_52 q (hq.trans he_21.symm)) _ _ hP hS ls (lv_sub hl [1, 0] rfl)
    refine hLp_52 ((fu 0 72)) S_15 0 (by have hq_12 := hq_12.symm; have hS_15 := hS_15.symm; subst hq_12 hS_15; exact nl (nr (sp hs c_1))) (fun q_52 hq_52 H locs hP hS ls hl => ?_) _ _ hP hS ls (lv_sub hl [1, 0] rfl)
    refine lv_aload_n hx hb dX11_remember_84 rfl (lv_at hl 0 rfl) ?_
    refine lv_dup hx hb dX11_remember_85 rfl ?_
    refine xget (ref := "AbsentPraiseModel") (T := TX11) (v := .int (q_52 127 36)) hC hP hin_X11 xo_X11 rfl 36 (by decide) (List.mem_of_getElem? (i := 1) rfl) rfl rfl dX11_remember_86 ?_
    refine lv_iconst (v := 1) hx hb dX11_remember_89 (by decide) ?_
    refine lv_iadd hx hb dX11_remember_90 ?_
    refine xput (ref := "AbsentPraiseModel") (T := TX11) (ty := .int) hC hP hS (by decide) hin_X11 tyX11 tyX11_ok nmX11 xo_X11 rfl 36 (by decide) (List.mem_of_getElem? (i := 1) rfl) rfl rfl rfl rfl rfl (Nat.le_of_ble_eq_true rfl) dX11_remember_91 rfl (fun S_22 hS_22 H locs hP hS => ?_)
    exact xret_v hC hP hS hb hr (by simp only [f_X11_remember, ← hq_12, ← hS_15, ← hq_52, ← hS_22, if_pos c_1]) dX11_remember_94 hlocks
theorem hd_X11_hoursRefused : yX11_hoursRefused.cls = RX11 ∧ yX11_hoursRefused.cls ≠ "java/lang/invoke/MethodHandle" ∧ yX11_hoursRefused.cls ≠ "java/lang/invoke/VarHandle" ∧ (parseMethodDescriptor yX11_hoursRefused.desc).map (fun d => d.parameters.length) = some 1 := by decide +kernel
set_option maxHeartbeats 4000000 in
set_option maxRecDepth 100000 in
theorem k_X11_hoursRefused (l : Launch) (X : xX) (S : xS) (p0 : Int32) : Met l yX11_hoursRefused wsX11_hoursRefused ({ frames := 1, cells := 0, slots := 0, locals := 25 } : Room) (va_Pc [.ref (X.2.1 127), .int p0] (xI X S)) (va_Qi (fun (r : Int32) (u : xS) => r = (f_X11_hoursRefused S p0) ∧ u = S) (xI X) (xA X)) 0 0 (xA X) := by
  refine Met.ofW (cc := cX11_hoursRefused) (maxL := 2) (ret := (some .int)) (by decide +kernel) rfl ?_
  intro p e s m args below meth c s₁ B hml hv
  obtain ⟨rfl, hP, hK, hN, hJ⟩ := hv
  have hx := B.exec
  have hb := B.bytes
  have hr := B.returns
  have hts := atoms_spec (ws := wsX11_hoursRefused) B.pre
  have hown : s.vm.findClass RX11 = some m.cls := findClass_of_methodNamed B.named
  have hlocks := B.notSynchronized
  have hC : xC X p m c cX11_hoursRefused 2 s _ wsX11_hoursRefused RX11 := ⟨⟨hx, hb, hml, hown, hts⟩, hK, hN, hJ⟩
  have hS : va_S (xA X) s.heap s.heap [] := va_S.rf
  have hin_X11 : ∀ w ∈ u_ws RX11 TX11 41, w ∈ wsX11_hoursRefused := by decide +kernel
  have hl := lv_entry ([.ref (X.2.1 127), .int p0]) (n := 2) (Nat.le_of_ble_eq_true rfl)
  rw [lg_entry_eq]
  generalize (lg_sl ([.ref (X.2.1 127), .int p0]) ++ List.replicate (2 - (lg_sl ([.ref (X.2.1 127), .int p0])).length) Slot.unset).toArray = ls at hl ⊢
  have hl : lv_has ls 2 [(0, .ref (X.2.1 127)), (1, .int p0)] := hl
  refine lv_iload_n hx hb dX11_hoursRefused_0 rfl (lv_at hl 1 rfl) ?_
  refine lv_i2l (v := (p0 : Int32).toInt64) hx hb dX11_hoursRefused_1 rfl ?_
  refine lv_lconst (v := 1) hx hb dX11_hoursRefused_2 (by decide) ?_
  refine lv_ldc2 (v := 60) hx hb hown (hts (.constantLong RX11 237 (60)) (List.mem_of_getElem? (i := 1) rfl)) dX11_hoursRefused_3 ?_
  refine xcS_iR (As := [.long (p0 : Int32).toInt64, .long 1, .long 60]) (rest := []) hC hP hS (k_X11_in l X S (p0 : Int32).toInt64 1 60) (va_cwS 3 hts gX11_hoursRefused_X11_in rfl rfl rfl hs_X11_in ⟨Nat.le_of_ble_eq_true rfl, Nat.le_of_ble_eq_true rfl⟩) rfl rfl hl.1 (Nat.le_of_ble_eq_true rfl) dX11_hoursRefused_6 (fun r_1 hp_r_1 H locs hP hS => ?_)
  obtain ⟨hr_1, hzr_1⟩ := hp_r_1
  refine lv_if_ne (tgt := 15) hx hb dX11_hoursRefused_9 (by decide) (fun c_2 => ?_) (fun c_2 => ?_)
  · refine lv_aload_n hx hb dX11_hoursRefused_15 rfl (lv_at hl 0 rfl) ?_
    refine xget (ref := "AbsentPraiseModel") (T := TX11) (v := .int (S 127 0)) hC hP hin_X11 xo_X11 rfl 0 (by decide) (List.mem_of_getElem? (i := 3) rfl) rfl rfl dX11_hoursRefused_16 ?_
    refine lv_if_ne (tgt := 27) hx hb dX11_hoursRefused_19 (by decide) (fun c_3 => ?_) (fun c_3 => ?_)
    · refine lv_aload_n hx hb dX11_hoursRefused_27 rfl (lv_at hl 0 rfl) ?_
      refine xget (ref := "AbsentPraiseModel") (T := TX11) (v := .ref (X.2.1 131)) hC hP hin_X11 xo_X11 rfl 8 (by decide) (List.mem_of_getElem? (i := 5) rfl) rfl rfl dX11_hoursRefused_28 ?_
      refine lv_iconst (v := 0) hx hb dX11_hoursRefused_31 (by decide) ?_
      refine xiald hC hP rfl (vp_lit (by decide)) dX11_hoursRefused_32 ?_
      refine lv_sipush (v := 9000) hx hb dX11_hoursRefused_33 (by decide) ?_
      refine lv_icmp_le (tgt := 44) hx hb dX11_hoursRefused_36 (by decide) (fun c_4 => ?_) (fun c_4 => ?_)
      · refine lv_iconst (v := 0) hx hb dX11_hoursRefused_44 (by decide) ?_
        exact xret_iR hC hP hS hb hr ((by have hr_1 := hr_1.symm; subst hr_1; exact (iN c_2 (iN c_3 (ip c_4 rfl))))) dX11_hoursRefused_45 hlocks
      · refine lv_ldc (v := (-1000000004)) hx hb hown (hts (.constant RX11 95 (-1000000004)) (List.mem_of_getElem? (i := 6) rfl)) dX11_hoursRefused_39 ?_
        refine lv_goto (tgt := 45) hx hb dX11_hoursRefused_41 (by decide) ?_
        exact xret_iR hC hP hS hb hr ((by have hr_1 := hr_1.symm; subst hr_1; exact (iN c_2 (iN c_3 (iN c_4 rfl))))) dX11_hoursRefused_45 hlocks
    · refine lv_ldc (v := (-1000000003)) hx hb hown (hts (.constant RX11 239 (-1000000003)) (List.mem_of_getElem? (i := 4) rfl)) dX11_hoursRefused_22 ?_
      refine lv_goto (tgt := 45) hx hb dX11_hoursRefused_24 (by decide) ?_
      exact xret_iR hC hP hS hb hr ((by have hr_1 := hr_1.symm; subst hr_1; exact (iN c_2 (ip c_3 rfl)))) dX11_hoursRefused_45 hlocks
  · refine lv_ldc (v := (-1000000002)) hx hb hown (hts (.constant RX11 91 (-1000000002)) (List.mem_of_getElem? (i := 2) rfl)) dX11_hoursRefused_12 ?_
    exact xret_iR hC hP hS hb hr ((by have hr_1 := hr_1.symm; subst hr_1; exact (ip c_2 rfl))) dX11_hoursRefused_14 hlocks
theorem hd_X11_hour : yX11_hour.cls = RX11 ∧ yX11_hour.cls ≠ "java/lang/invoke/MethodHandle" ∧ yX11_hour.cls ≠ "java/lang/invoke/VarHandle" ∧ (parseMethodDescriptor yX11_hour.desc).map (fun d => d.parameters.length) = some 1 := by decide +kernel
set_option maxHeartbeats 4000000 in
set_option maxRecDepth 100000 in
theorem k_X11_hour (l : Launch) (X : xX) (S : xS) (p0 : Int32) (hs : s_X11_hour S p0) : Met l yX11_hour wsX11_hour ({ frames := 4, cells := 0, slots := 0, locals := 92 } : Room) (va_Pc [.ref (X.2.1 127), .int p0] (xI X S)) (va_Qi (fun (r : Int32) (u : xS) => r = (f_X11_hour S p0).1 ∧ u = (f_X11_hour S p0).2) (xI X) (xA X)) 0 0 (xA X) := by
  refine Met.ofW (cc := cX11_hour) (maxL := 4) (ret := (some .int)) (by decide +kernel) rfl ?_
  intro p e s m args below meth c s₁ B hml hv
  obtain ⟨rfl, hP, hK, hN, hJ⟩ := hv
  have hx := B.exec
  have hb := B.bytes
  have hr := B.returns
  have hts := atoms_spec (ws := wsX11_hour) B.pre
  have hown : s.vm.findClass RX11 = some m.cls := findClass_of_methodNamed B.named
  have hlocks := B.notSynchronized
  have hC : xC X p m c cX11_hour 4 s _ wsX11_hour RX11 := ⟨⟨hx, hb, hml, hown, hts⟩, hK, hN, hJ⟩
  have hS : va_S (xA X) s.heap s.heap [] := va_S.rf
  have hin_X11 : ∀ w ∈ u_ws RX11 TX11 41, w ∈ wsX11_hour := by decide +kernel
  have hl := lv_entry ([.ref (X.2.1 127), .int p0]) (n := 4) (Nat.le_of_ble_eq_true rfl)
  rw [lg_entry_eq]
  generalize (lg_sl ([.ref (X.2.1 127), .int p0]) ++ List.replicate (4 - (lg_sl ([.ref (X.2.1 127), .int p0])).length) Slot.unset).toArray = ls at hl ⊢
  have hl : lv_has ls 4 [(0, .ref (X.2.1 127)), (1, .int p0)] := hl
  refine lv_aload_n hx hb dX11_hour_0 rfl (lv_at hl 0 rfl) ?_
  refine lv_iload_n hx hb dX11_hour_1 rfl (lv_at hl 1 rfl) ?_
  refine xcV_iR (b := 127) (As := [.int p0]) (rest := []) hC hP hS (k_X11_hoursRefused l X S p0) (cwV 1 hts gX11_hour_X11_hoursRefused rfl rfl rfl hd_X11_hoursRefused ⟨Nat.le_of_ble_eq_true rfl, Nat.le_of_ble_eq_true rfl⟩) xo_X11 rfl rfl rfl hl.1 (Nat.le_of_ble_eq_true rfl) dX11_hour_2 (fun r_1 hr_1 H locs hP hS => ?_)
  refine lv_istore_n (lv' := [(2, .int r_1), (0, .ref (X.2.1 127)), (1, .int p0)]) hx hb dX11_hour_5 rfl hl (by decide) rfl (fun ls hl => ?_)
  refine lv_iload_n hx hb dX11_hour_6 rfl (lv_at hl 0 rfl) ?_
  refine lv_if_eq (tgt := 12) hx hb dX11_hour_7 (by decide) (fun c_2 => ?_) (fun c_2 => ?_)
  · refine lv_aload_n hx hb dX11_hour_12 rfl (lv_at hl 1 rfl) ?_
    have hn_3 : s_X11_remember S := (by have hr_1 := hr_1.symm; subst hr_1; exact nl (sp hs c_2))
    refine xcV_vW (b := 127) (As := []) (rest := []) hC hP hS (k_X11_remember l X S hn_3) (cwV 0 hts gX11_hour_X11_remember rfl rfl rfl hd_X11_remember ⟨Nat.le_of_ble_eq_true rfl, Nat.le_of_ble_eq_true rfl⟩) xo_X11 rfl rfl rfl hl.1 (Nat.le_of_ble_eq_true rfl) dX11_hour_13 (fun S_4 hS_4 H locs hP hS => ?_)
    refine lv_iconst (v := 0) hx hb dX11_hour_16 (by decide) ?_
    refine lv_istore_n (lv' := [(3, .int 0), (2, .int r_1), (0, .ref (X.2.1 127)), (1, .int p0)]) hx hb dX11_hour_17 rfl hl (by decide) rfl (fun ls hl => ?_)
    have hLp_18 : ∀ (n : Nat) (T_18 : xS) (x1_18 : Int32) (x3_18 : Int32), s_X11_hour_L18 n T_18 x1_18 x3_18 → (∀ q : xS, q = f_X11_hour_L18 n T_18 x1_18 x3_18 → (∀ (H : Heap) (locs : List Loc), va_P X.1 vwCl (xW X q) H → va_S (xA X) s.heap H locs → ∀ (ls : Array Slot), lv_has ls 4 [(0, .ref (X.2.1 127))] → W p l e ({ frames := 4, cells := 0, slots := 0, locals := 92 } : Room) s m ([.ref (X.2.1 127), .int p0] : List Value).toArray below meth c H locs 0 0 (MQ below (va_Qi (fun (r : Int32) (u : xS) => r = (f_X11_hour S p0).1 ∧ u = (f_X11_hour S p0).2) (xI X) (xA X)) ([.ref (X.2.1 127), .int p0] : List Value).toArray s 0 0 (xA X)) (F0 m 37 ls []))) → ∀ (H : Heap) (locs : List Loc), va_P X.1 vwCl (xW X T_18) H → va_S (xA X) s.heap H locs → ∀ (ls : Array Slot), lv_has ls 4 [(0, .ref (X.2.1 127)), (1, .int x1_18), (3, .int x3_18)] → W p l e ({ frames := 4, cells := 0, slots := 0, locals := 92 } : Room) s m ([.ref (X.2.1 127), .int p0] : List Value).toArray below meth c H locs 0 0 (MQ below (va_Qi (fun (r : Int32) (u : xS) => r = (f_X11_hour S p0).1 ∧ u = (f_X11_hour S p0).2) (xI X) (xA X)) ([.ref (X.2.1 127), .int p0] : List Value).toArray s 0 0 (xA X)) (F0 m 18 ls []) := by
      intro n
      induction n with
      | zero => intro T_18 x1_18 x3_18 hs; exact hs.elim
      | succ n ih_18 =>
        intro T_18 x1_18 x3_18 hs_18 hex_18 H locs hP hS ls hl
        refine lv_iload_n hx hb dX11_hour_18 rfl (lv_at hl 2 rfl) ?_
        refine lv_iload_n hx hb dX11_hour_19 rfl (lv_at hl 1 rfl) ?_
        refine lv_icmp_ge (tgt := 37) hx hb dX11_hour_20 (by decide) (fun c_5 => ?_) (fun c_5 => ?_)
        · have he_6 : f_X11_hour_L18 (n + 1) T_18 x1_18 x3_18 = T_18 := ((ip c_5 rfl))
          exact hex_18 _ he_6.symm _ _ hP hS ls (lv_sub hl [0] rfl)
        · refine lv_aload_n hx hb dX11_hour_23 rfl (lv_at hl 0 rfl) ?_
          refine lv_aload_n hx hb dX11_hour_24 rfl (lv_at hl 0 rfl) ?_
          refine xget (ref := "AbsentPraiseModel") (T := TX11) (v := .ref (X.2.1 131)) hC hP hin_X11 xo_X11 rfl 8 (by decide) (List.mem_of_getElem? (i := 1) rfl) rfl rfl dX11_hour_25 ?_
          have hn_7 : s_X11_passes T_18 131 := (nl (sn hs_18 c_5))
          refine xcV_vW (b := 127) (As := [.ref (X.2.1 131)]) (rest := []) hC hP hS (k_X11_passes l X T_18 131 rfl hn_7) (cwV 1 hts gX11_hour_X11_passes rfl rfl rfl hd_X11_passes ⟨Nat.le_of_ble_eq_true rfl, Nat.le_of_ble_eq_true rfl⟩) xo_X11 rfl rfl rfl hl.1 (Nat.le_of_ble_eq_true rfl) dX11_hour_28 (fun S_8 hS_8 H locs hP hS => ?_)
          refine lv_iinc (v := (x3_18 + 1)) (lv' := [(3, .int (x3_18 + 1)), (0, .ref (X.2.1 127)), (1, .int x1_18)]) hx hb dX11_hour_31 hl (k := 2) rfl rfl (by decide) rfl (fun ls hl => ?_)
          refine lv_goto (tgt := 18) hx hb dX11_hour_34 (by decide) ?_
          have he_9 : f_X11_hour_L18 (n + 1) T_18 x1_18 x3_18 = f_X11_hour_L18 n S_8 x1_18 (x3_18 + 1) := (by have hS_8 := hS_8.symm; subst hS_8; exact (iN c_5 rfl))
          exact ih_18 S_8 x1_18 (x3_18 + 1) (by have hS_8 := hS_8.symm; subst hS_8; exact (nr (sn hs_18 c_5))) (fun q hq => hex_18 q (hq.trans he_9.symm)) _ _ hP hS ls (lv_sub hl [1, 2, 0] rfl)
    refine hLp_18 ((fu 0 p0)) S_4 p0 0 (by have hr_1 := hr_1.symm; have hS_4 := hS_4.symm; subst hr_1 hS_4; exact nl (nr (sp hs c_2))) (fun q_18 hq_18 H locs hP hS ls hl => ?_) _ _ hP hS ls (lv_sub hl [2, 3, 0] rfl)
    refine lv_aload_n hx hb dX11_hour_37 rfl (lv_at hl 0 rfl) ?_
    refine xget (ref := "AbsentPraiseModel") (T := TX11) (v := .ref (X.2.1 131)) hC hP hin_X11 xo_X11 rfl 8 (by decide) (List.mem_of_getElem? (i := 1) rfl) rfl rfl dX11_hour_38 ?_
    refine lv_iconst (v := 0) hx hb dX11_hour_41 (by decide) ?_
    refine xiald hC hP rfl (vp_lit (by decide)) dX11_hour_42 ?_
    exact xret_iW hC hP hS hb hr (by simp only [f_X11_hour, ← hr_1, ← hS_4, ← hq_18, if_pos c_2]) dX11_hour_43 hlocks
  · refine lv_iload_n hx hb dX11_hour_10 rfl (lv_at hl 0 rfl) ?_
    exact xret_iW hC hP hS hb hr (by simp only [f_X11_hour, ← hr_1, if_neg c_2]) dX11_hour_11 hlocks
theorem hd_X11_go : yX11_go.cls = RX11 ∧ yX11_go.cls ≠ "java/lang/invoke/MethodHandle" ∧ yX11_go.cls ≠ "java/lang/invoke/VarHandle" ∧ (parseMethodDescriptor yX11_go.desc).map (fun d => d.parameters.length) = some 2 := by decide +kernel
set_option maxHeartbeats 4000000 in
set_option maxRecDepth 100000 in
theorem k_X11_go (l : Launch) (X : xX) (S : xS) (p0 : Int32) (p1 : Int32) (hs : s_X11_go S p0 p1) : Met l yX11_go wsX11_go ({ frames := 2, cells := 0, slots := 0, locals := 46 } : Room) (va_Pc [.ref (X.2.1 127), .int p0, .int p1] (xI X S)) (va_Qi (fun (r : Int32) (u : xS) => r = (f_X11_go S p0 p1).1 ∧ u = (f_X11_go S p0 p1).2) (xI X) (xA X)) 0 0 (xA X) := by
  refine Met.ofW (cc := cX11_go) (maxL := 4) (ret := (some .int)) (by decide +kernel) rfl ?_
  intro p e s m args below meth c s₁ B hml hv
  obtain ⟨rfl, hP, hK, hN, hJ⟩ := hv
  have hx := B.exec
  have hb := B.bytes
  have hr := B.returns
  have hts := atoms_spec (ws := wsX11_go) B.pre
  have hown : s.vm.findClass RX11 = some m.cls := findClass_of_methodNamed B.named
  have hlocks := B.notSynchronized
  have hC : xC X p m c cX11_go 4 s _ wsX11_go RX11 := ⟨⟨hx, hb, hml, hown, hts⟩, hK, hN, hJ⟩
  have hS : va_S (xA X) s.heap s.heap [] := va_S.rf
  have hin_X11 : ∀ w ∈ u_ws RX11 TX11 41, w ∈ wsX11_go := by decide +kernel
  have hl := lv_entry ([.ref (X.2.1 127), .int p0, .int p1]) (n := 4) (Nat.le_of_ble_eq_true rfl)
  rw [lg_entry_eq]
  generalize (lg_sl ([.ref (X.2.1 127), .int p0, .int p1]) ++ List.replicate (4 - (lg_sl ([.ref (X.2.1 127), .int p0, .int p1])).length) Slot.unset).toArray = ls at hl ⊢
  have hl : lv_has ls 4 [(0, .ref (X.2.1 127)), (1, .int p0), (2, .int p1)] := hl
  refine lv_aload_n hx hb dX11_go_0 rfl (lv_at hl 0 rfl) ?_
  refine lv_iload_n hx hb dX11_go_1 rfl (lv_at hl 1 rfl) ?_
  refine xcV_iR (b := 127) (As := [.int p0]) (rest := []) hC hP hS (k_X11_isPerson l X S p0) (cwV 1 hts gX11_go_X11_isPerson rfl rfl rfl hd_X11_isPerson ⟨Nat.le_of_ble_eq_true rfl, Nat.le_of_ble_eq_true rfl⟩) xo_X11 rfl rfl rfl hl.1 (Nat.le_of_ble_eq_true rfl) dX11_go_2 (fun r_1 hp_r_1 H locs hP hS => ?_)
  obtain ⟨hr_1, hzr_1⟩ := hp_r_1
  refine lv_if_eq (tgt := 16) hx hb dX11_go_5 (by decide) (fun c_2 => ?_) (fun c_2 => ?_)
  · refine lv_ldc (v := (-1000000001)) hx hb hown (hts (.constant RX11 230 (-1000000001)) (List.mem_of_getElem? (i := 1) rfl)) dX11_go_16 ?_
    exact xret_iW hC hP hS hb hr (by simp only [f_X11_go, ← hr_1, if_pos c_2]) dX11_go_18 hlocks
  · refine lv_aload_n hx hb dX11_go_8 rfl (lv_at hl 0 rfl) ?_
    refine lv_iload_n hx hb dX11_go_9 rfl (lv_at hl 2 rfl) ?_
    refine xcV_iR (b := 127) (As := [.int p1]) (rest := []) hC hP hS (k_X11_isRoom l X S p1) (cwV 1 hts gX11_go_X11_isRoom rfl rfl rfl hd_X11_isRoom ⟨Nat.le_of_ble_eq_true rfl, Nat.le_of_ble_eq_true rfl⟩) xo_X11 rfl rfl rfl hl.1 (Nat.le_of_ble_eq_true rfl) dX11_go_10 (fun r_3 hp_r_3 H locs hP hS => ?_)
    obtain ⟨hr_3, hzr_3⟩ := hp_r_3
    refine lv_if_ne (tgt := 19) hx hb dX11_go_13 (by decide) (fun c_4 => ?_) (fun c_4 => ?_)
    · refine lv_aload_n hx hb dX11_go_19 rfl (lv_at hl 0 rfl) ?_
      refine xget (ref := "AbsentPraiseModel") (T := TX11) (v := .ref (X.2.1 131)) hC hP hin_X11 xo_X11 rfl 8 (by decide) (List.mem_of_getElem? (i := 2) rfl) rfl rfl dX11_go_20 ?_
      refine lv_iconst (v := 2) hx hb dX11_go_23 (by decide) ?_
      refine lv_iload_n hx hb dX11_go_24 rfl (lv_at hl 1 rfl) ?_
      refine lv_iadd hx hb dX11_go_25 ?_
      have hn_5 : vp_in (2 + p0) 72 := (by have hr_1 := hr_1.symm; have hr_3 := hr_3.symm; subst hr_1 hr_3; exact nl (sn (sn hs c_2) c_4))
      refine xiald hC hP rfl hn_5 dX11_go_26 ?_
      refine lv_istore_n (lv' := [(3, .int (S 131 ((2 + p0)).toNatClampNeg)), (0, .ref (X.2.1 127)), (1, .int p0), (2, .int p1)]) hx hb dX11_go_27 rfl hl (by decide) rfl (fun ls hl => ?_)
      refine lv_aload_n hx hb dX11_go_28 rfl (lv_at hl 1 rfl) ?_
      refine xget (ref := "AbsentPraiseModel") (T := TX11) (v := .ref (X.2.1 129)) hC hP hin_X11 xo_X11 rfl 5 (by decide) (List.mem_of_getElem? (i := 3) rfl) rfl rfl dX11_go_29 ?_
      refine lv_iload_n hx hb dX11_go_32 rfl (lv_at hl 0 rfl) ?_
      have hn_6 : vp_in (S 131 ((2 + p0)).toNatClampNeg) 6 := (by have hr_1 := hr_1.symm; have hr_3 := hr_3.symm; subst hr_1 hr_3; exact nl (nr (sn (sn hs c_2) c_4)))
      refine xiald hC hP rfl hn_6 dX11_go_33 ?_
      refine lv_iload_n hx hb dX11_go_34 rfl (lv_at hl 3 rfl) ?_
      refine xcS_iR (As := [.int (S 129 ((S 131 ((2 + p0)).toNatClampNeg)).toNatClampNeg), .int p1]) (rest := []) hC hP hS (k_X11_has l X S (S 129 ((S 131 ((2 + p0)).toNatClampNeg)).toNatClampNeg) p1) (va_cwS 2 hts gX11_go_X11_has rfl rfl rfl hs_X11_has ⟨Nat.le_of_ble_eq_true rfl, Nat.le_of_ble_eq_true rfl⟩) rfl rfl hl.1 (Nat.le_of_ble_eq_true rfl) dX11_go_35 (fun r_7 hp_r_7 H locs hP hS => ?_)
      obtain ⟨hr_7, hzr_7⟩ := hp_r_7
      refine lv_if_ne (tgt := 44) hx hb dX11_go_38 (by decide) (fun c_8 => ?_) (fun c_8 => ?_)
      · refine lv_aload_n hx hb dX11_go_44 rfl (lv_at hl 1 rfl) ?_
        have hn_9 : s_X11_remember S := (by have hr_1 := hr_1.symm; have hr_3 := hr_3.symm; have hr_7 := hr_7.symm; subst hr_1 hr_3 hr_7; exact nl (sn (nr (nr (sn (sn hs c_2) c_4))) c_8))
        refine xcV_vW (b := 127) (As := []) (rest := []) hC hP hS (k_X11_remember l X S hn_9) (cwV 0 hts gX11_go_X11_remember rfl rfl rfl hd_X11_remember ⟨Nat.le_of_ble_eq_true rfl, Nat.le_of_ble_eq_true rfl⟩) xo_X11 rfl rfl rfl hl.1 (Nat.le_of_ble_eq_true rfl) dX11_go_45 (fun S_10 hS_10 H locs hP hS => ?_)
        refine lv_aload_n hx hb dX11_go_48 rfl (lv_at hl 1 rfl) ?_
        refine xget (ref := "AbsentPraiseModel") (T := TX11) (v := .ref (X.2.1 131)) hC hP hin_X11 xo_X11 rfl 8 (by decide) (List.mem_of_getElem? (i := 2) rfl) rfl rfl dX11_go_49 ?_
        refine lv_iconst (v := 2) hx hb dX11_go_52 (by decide) ?_
        refine lv_iload_n hx hb dX11_go_53 rfl (lv_at hl 2 rfl) ?_
        refine lv_iadd hx hb dX11_go_54 ?_
        refine lv_iload_n hx hb dX11_go_55 rfl (lv_at hl 3 rfl) ?_
        refine xiast hC hP hS rfl hn_5 dX11_go_56 (fun S_11 hS_11 H locs hP hS => ?_)
        refine lv_iload_n hx hb dX11_go_57 rfl (lv_at hl 0 rfl) ?_
        exact xret_iW hC hP hS hb hr (by simp only [f_X11_go, ← hr_1, ← hr_3, ← hr_7, ← hS_10, ← hS_11, if_neg c_2, if_neg c_4, if_neg c_8]) dX11_go_58 hlocks
      · refine lv_ldc (v := (-1000000003)) hx hb hown (hts (.constant RX11 239 (-1000000003)) (List.mem_of_getElem? (i := 4) rfl)) dX11_go_41 ?_
        exact xret_iW hC hP hS hb hr (by simp only [f_X11_go, ← hr_1, ← hr_3, ← hr_7, if_neg c_2, if_neg c_4, if_pos c_8]) dX11_go_43 hlocks
    · refine lv_ldc (v := (-1000000001)) hx hb hown (hts (.constant RX11 230 (-1000000001)) (List.mem_of_getElem? (i := 1) rfl)) dX11_go_16 ?_
      exact xret_iW hC hP hS hb hr (by simp only [f_X11_go, ← hr_1, ← hr_3, if_neg c_2, if_pos c_4]) dX11_go_18 hlocks
