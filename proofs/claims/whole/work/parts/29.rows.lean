set_option linter.all false
/-! contracts: X11_takePerson, X11_takeLiking, X11_isFull, X11_takeBody -/
theorem hd_X11_takePerson : yX11_takePerson.cls = RX11 ∧ yX11_takePerson.cls ≠ "java/lang/invoke/MethodHandle" ∧ yX11_takePerson.cls ≠ "java/lang/invoke/VarHandle" ∧ (parseMethodDescriptor yX11_takePerson.desc).map (fun d => d.parameters.length) = some 0 := by decide +kernel
set_option maxHeartbeats 4000000 in
set_option maxRecDepth 100000 in
theorem k_X11_takePerson (l : Launch) (X : xX) (S : xS) (hs : s_X11_takePerson S) : Met l yX11_takePerson wsX11_takePerson ({ frames := 2, cells := 0, slots := 0, locals := 48 } : Room) (va_Pc [.ref (X.2.1 127)] (xI X S)) (va_Qi (fun (r : Int32) (u : xS) => r = (f_X11_takePerson S).1 ∧ u = (f_X11_takePerson S).2) (xI X) (xA X)) 0 0 (xA X) := by
  refine Met.ofW (cc := cX11_takePerson) (maxL := 2) (ret := (some .int)) (by decide +kernel) rfl ?_
  intro p e s m args below meth c s₁ B hml hv
  obtain ⟨rfl, hP, hK, hN, hJ⟩ := hv
  have hx := B.exec
  have hb := B.bytes
  have hr := B.returns
  have hts := atoms_spec (ws := wsX11_takePerson) B.pre
  have hown : s.vm.findClass RX11 = some m.cls := findClass_of_methodNamed B.named
  have hlocks := B.notSynchronized
  have hC : xC X p m c cX11_takePerson 2 s _ wsX11_takePerson RX11 := ⟨⟨hx, hb, hml, hown, hts⟩, hK, hN, hJ⟩
  have hS : va_S (xA X) s.heap s.heap [] := va_S.rf
  have hin_X11 : ∀ w ∈ u_ws RX11 TX11 41, w ∈ wsX11_takePerson := by decide +kernel
  have hl := lv_entry ([.ref (X.2.1 127)]) (n := 2) (Nat.le_of_ble_eq_true rfl)
  rw [lg_entry_eq]
  generalize (lg_sl ([.ref (X.2.1 127)]) ++ List.replicate (2 - (lg_sl ([.ref (X.2.1 127)])).length) Slot.unset).toArray = ls at hl ⊢
  have hl : lv_has ls 2 [(0, .ref (X.2.1 127))] := hl
  refine lv_aload_n hx hb dX11_takePerson_0 rfl (lv_at hl 0 rfl) ?_
  refine lv_iconst (v := 0) hx hb dX11_takePerson_1 (by decide) ?_
  refine lv_iconst (v := 3) hx hb dX11_takePerson_2 (by decide) ?_
  have hn_1 : s_X11_takeNumber S 0 3 := (nl hs)
  refine xcV_iW (b := 127) (As := [.int 0, .int 3]) (rest := []) hC hP hS (k_X11_takeNumber l X S 0 3 hn_1) (cwV 2 hts gX11_takePerson_X11_takeNumber rfl rfl rfl hd_X11_takeNumber ⟨Nat.le_of_ble_eq_true rfl, Nat.le_of_ble_eq_true rfl⟩) xo_X11 rfl rfl rfl hl.1 (Nat.le_of_ble_eq_true rfl) dX11_takePerson_3 (fun r_2 S_3 hp_r_2 H locs hP hS => ?_)
  obtain ⟨hr_2, hS_3⟩ := hp_r_2
  refine lv_istore_n (lv' := [(1, .int r_2), (0, .ref (X.2.1 127))]) hx hb dX11_takePerson_6 rfl hl (by decide) rfl (fun ls hl => ?_)
  refine lv_iload_n hx hb dX11_takePerson_7 rfl (lv_at hl 0 rfl) ?_
  refine lv_if_le (tgt := 13) hx hb dX11_takePerson_8 (by decide) (fun c_5 => ?_) (fun c_5 => ?_)
  · refine lv_aload_n hx hb dX11_takePerson_13 rfl (lv_at hl 1 rfl) ?_
    refine xget (ref := "AbsentPraiseModel") (T := TX11) (v := .ref (X.2.1 141)) hC hP hin_X11 xo_X11 rfl 31 (by decide) (List.mem_of_getElem? (i := 1) rfl) rfl rfl dX11_takePerson_14 ?_
    refine lv_aload_n hx hb dX11_takePerson_17 rfl (lv_at hl 1 rfl) ?_
    refine xget (ref := "AbsentPraiseModel") (T := TX11) (v := .int (S_3 127 30)) hC hP hin_X11 xo_X11 rfl 30 (by decide) (List.mem_of_getElem? (i := 2) rfl) rfl rfl dX11_takePerson_18 ?_
    refine lv_aload_n hx hb dX11_takePerson_21 rfl (lv_at hl 1 rfl) ?_
    refine xget (ref := "AbsentPraiseModel") (T := TX11) (v := .int (S_3 127 22)) hC hP hin_X11 xo_X11 rfl 22 (by decide) (List.mem_of_getElem? (i := 3) rfl) rfl rfl dX11_takePerson_22 ?_
    have hn_6 : vp_in (S_3 127 30) 7 := (by have hr_2 := hr_2.symm; have hS_3 := hS_3.symm; subst hr_2 hS_3; exact nl (sp (nr hs) c_5))
    refine xiast hC hP hS rfl hn_6 dX11_takePerson_25 (fun S_7 hS_7 H locs hP hS => ?_)
    refine lv_aload_n hx hb dX11_takePerson_26 rfl (lv_at hl 1 rfl) ?_
    refine lv_iconst (v := 0) hx hb dX11_takePerson_27 (by decide) ?_
    refine lv_aload_n hx hb dX11_takePerson_28 rfl (lv_at hl 1 rfl) ?_
    refine xget (ref := "AbsentPraiseModel") (T := TX11) (v := .int (S_7 127 24)) hC hP hin_X11 xo_X11 rfl 24 (by decide) (List.mem_of_getElem? (i := 4) rfl) rfl rfl dX11_takePerson_29 ?_
    refine lv_iconst (v := 1) hx hb dX11_takePerson_32 (by decide) ?_
    refine lv_isub hx hb dX11_takePerson_33 ?_
    have hn_8 : s_X11_takeNumber S_7 0 ((S_7 127 24) - 1) := (by have hr_2 := hr_2.symm; have hS_3 := hS_3.symm; have hS_7 := hS_7.symm; subst hr_2 hS_3 hS_7; exact nl (nr (sp (nr hs) c_5)))
    refine xcV_iW (b := 127) (As := [.int 0, .int ((S_7 127 24) - 1)]) (rest := []) hC hP hS (k_X11_takeNumber l X S_7 0 ((S_7 127 24) - 1) hn_8) (cwV 2 hts gX11_takePerson_X11_takeNumber rfl rfl rfl hd_X11_takeNumber ⟨Nat.le_of_ble_eq_true rfl, Nat.le_of_ble_eq_true rfl⟩) xo_X11 rfl rfl rfl hl.1 (Nat.le_of_ble_eq_true rfl) dX11_takePerson_34 (fun r_9 S_10 hp_r_9 H locs hP hS => ?_)
    obtain ⟨hr_9, hS_10⟩ := hp_r_9
    refine lv_istore_n (lv' := [(1, .int r_9), (0, .ref (X.2.1 127))]) hx hb dX11_takePerson_37 rfl hl (by decide) rfl (fun ls hl => ?_)
    refine lv_aload_n hx hb dX11_takePerson_38 rfl (lv_at hl 1 rfl) ?_
    refine xget (ref := "AbsentPraiseModel") (T := TX11) (v := .ref (X.2.1 142)) hC hP hin_X11 xo_X11 rfl 32 (by decide) (List.mem_of_getElem? (i := 5) rfl) rfl rfl dX11_takePerson_39 ?_
    refine lv_aload_n hx hb dX11_takePerson_42 rfl (lv_at hl 1 rfl) ?_
    refine xget (ref := "AbsentPraiseModel") (T := TX11) (v := .int (S_10 127 30)) hC hP hin_X11 xo_X11 rfl 30 (by decide) (List.mem_of_getElem? (i := 2) rfl) rfl rfl dX11_takePerson_43 ?_
    refine lv_aload_n hx hb dX11_takePerson_46 rfl (lv_at hl 1 rfl) ?_
    refine xget (ref := "AbsentPraiseModel") (T := TX11) (v := .int (S_10 127 22)) hC hP hin_X11 xo_X11 rfl 22 (by decide) (List.mem_of_getElem? (i := 3) rfl) rfl rfl dX11_takePerson_47 ?_
    have hn_12 : vp_in (S_10 127 30) 7 := (by have hr_2 := hr_2.symm; have hS_3 := hS_3.symm; have hS_7 := hS_7.symm; have hr_9 := hr_9.symm; have hS_10 := hS_10.symm; subst hr_2 hS_3 hS_7 hr_9 hS_10; exact nl (nr (nr (sp (nr hs) c_5))))
    refine xiast hC hP hS rfl hn_12 dX11_takePerson_50 (fun S_13 hS_13 H locs hP hS => ?_)
    refine lv_aload_n hx hb dX11_takePerson_51 rfl (lv_at hl 1 rfl) ?_
    refine lv_dup hx hb dX11_takePerson_52 rfl ?_
    refine xget (ref := "AbsentPraiseModel") (T := TX11) (v := .int (S_13 127 30)) hC hP hin_X11 xo_X11 rfl 30 (by decide) (List.mem_of_getElem? (i := 2) rfl) rfl rfl dX11_takePerson_53 ?_
    refine lv_iconst (v := 1) hx hb dX11_takePerson_56 (by decide) ?_
    refine lv_iadd hx hb dX11_takePerson_57 ?_
    refine xput (ref := "AbsentPraiseModel") (T := TX11) (ty := .int) hC hP hS (by decide) hin_X11 tyX11 tyX11_ok nmX11 xo_X11 rfl 30 (by decide) (List.mem_of_getElem? (i := 2) rfl) rfl rfl rfl rfl rfl (Nat.le_of_ble_eq_true rfl) dX11_takePerson_58 rfl (fun S_14 hS_14 H locs hP hS => ?_)
    refine lv_iload_n hx hb dX11_takePerson_61 rfl (lv_at hl 0 rfl) ?_
    exact xret_iW hC hP hS hb hr (by simp only [f_X11_takePerson, ← hr_2, ← hS_3, ← hS_7, ← hr_9, ← hS_10, ← hS_13, ← hS_14, if_pos c_5]) dX11_takePerson_62 hlocks
  · refine lv_iload_n hx hb dX11_takePerson_11 rfl (lv_at hl 0 rfl) ?_
    exact xret_iW hC hP hS hb hr (by simp only [f_X11_takePerson, ← hr_2, ← hS_3, if_neg c_5]) dX11_takePerson_12 hlocks
theorem hd_X11_takeLiking : yX11_takeLiking.cls = RX11 ∧ yX11_takeLiking.cls ≠ "java/lang/invoke/MethodHandle" ∧ yX11_takeLiking.cls ≠ "java/lang/invoke/VarHandle" ∧ (parseMethodDescriptor yX11_takeLiking.desc).map (fun d => d.parameters.length) = some 0 := by decide +kernel
set_option maxHeartbeats 4000000 in
set_option maxRecDepth 100000 in
theorem k_X11_takeLiking (l : Launch) (X : xX) (S : xS) (hs : s_X11_takeLiking S) : Met l yX11_takeLiking wsX11_takeLiking ({ frames := 2, cells := 0, slots := 0, locals := 48 } : Room) (va_Pc [.ref (X.2.1 127)] (xI X S)) (va_Qi (fun (r : Int32) (u : xS) => r = (f_X11_takeLiking S).1 ∧ u = (f_X11_takeLiking S).2) (xI X) (xA X)) 0 0 (xA X) := by
  refine Met.ofW (cc := cX11_takeLiking) (maxL := 4) (ret := (some .int)) (by decide +kernel) rfl ?_
  intro p e s m args below meth c s₁ B hml hv
  obtain ⟨rfl, hP, hK, hN, hJ⟩ := hv
  have hx := B.exec
  have hb := B.bytes
  have hr := B.returns
  have hts := atoms_spec (ws := wsX11_takeLiking) B.pre
  have hown : s.vm.findClass RX11 = some m.cls := findClass_of_methodNamed B.named
  have hlocks := B.notSynchronized
  have hC : xC X p m c cX11_takeLiking 4 s _ wsX11_takeLiking RX11 := ⟨⟨hx, hb, hml, hown, hts⟩, hK, hN, hJ⟩
  have hS : va_S (xA X) s.heap s.heap [] := va_S.rf
  have hin_X11 : ∀ w ∈ u_ws RX11 TX11 41, w ∈ wsX11_takeLiking := by decide +kernel
  have hl := lv_entry ([.ref (X.2.1 127)]) (n := 4) (Nat.le_of_ble_eq_true rfl)
  rw [lg_entry_eq]
  generalize (lg_sl ([.ref (X.2.1 127)]) ++ List.replicate (4 - (lg_sl ([.ref (X.2.1 127)])).length) Slot.unset).toArray = ls at hl ⊢
  have hl : lv_has ls 4 [(0, .ref (X.2.1 127))] := hl
  refine lv_aload_n hx hb dX11_takeLiking_0 rfl (lv_at hl 0 rfl) ?_
  refine lv_iconst (v := 0) hx hb dX11_takeLiking_1 (by decide) ?_
  refine lv_aload_n hx hb dX11_takeLiking_2 rfl (lv_at hl 0 rfl) ?_
  refine xget (ref := "AbsentPraiseModel") (T := TX11) (v := .int (S 127 30)) hC hP hin_X11 xo_X11 rfl 30 (by decide) (List.mem_of_getElem? (i := 1) rfl) rfl rfl dX11_takeLiking_3 ?_
  refine lv_iconst (v := 1) hx hb dX11_takeLiking_6 (by decide) ?_
  refine lv_isub hx hb dX11_takeLiking_7 ?_
  have hn_1 : s_X11_takeNumber S 0 ((S 127 30) - 1) := (nl hs)
  refine xcV_iW (b := 127) (As := [.int 0, .int ((S 127 30) - 1)]) (rest := []) hC hP hS (k_X11_takeNumber l X S 0 ((S 127 30) - 1) hn_1) (cwV 2 hts gX11_takeLiking_X11_takeNumber rfl rfl rfl hd_X11_takeNumber ⟨Nat.le_of_ble_eq_true rfl, Nat.le_of_ble_eq_true rfl⟩) xo_X11 rfl rfl rfl hl.1 (Nat.le_of_ble_eq_true rfl) dX11_takeLiking_8 (fun r_2 S_3 hp_r_2 H locs hP hS => ?_)
  obtain ⟨hr_2, hS_3⟩ := hp_r_2
  refine lv_istore_n (lv' := [(1, .int r_2), (0, .ref (X.2.1 127))]) hx hb dX11_takeLiking_11 rfl hl (by decide) rfl (fun ls hl => ?_)
  refine lv_iload_n hx hb dX11_takeLiking_12 rfl (lv_at hl 0 rfl) ?_
  refine lv_if_le (tgt := 18) hx hb dX11_takeLiking_13 (by decide) (fun c_5 => ?_) (fun c_5 => ?_)
  · refine lv_aload_n hx hb dX11_takeLiking_18 rfl (lv_at hl 1 rfl) ?_
    refine xget (ref := "AbsentPraiseModel") (T := TX11) (v := .int (S_3 127 22)) hC hP hin_X11 xo_X11 rfl 22 (by decide) (List.mem_of_getElem? (i := 2) rfl) rfl rfl dX11_takeLiking_19 ?_
    refine lv_istore_n (lv' := [(2, .int (S_3 127 22)), (1, .int r_2), (0, .ref (X.2.1 127))]) hx hb dX11_takeLiking_22 rfl hl (by decide) rfl (fun ls hl => ?_)
    refine lv_aload_n hx hb dX11_takeLiking_23 rfl (lv_at hl 2 rfl) ?_
    refine lv_iconst (v := 0) hx hb dX11_takeLiking_24 (by decide) ?_
    refine lv_aload_n hx hb dX11_takeLiking_25 rfl (lv_at hl 2 rfl) ?_
    refine xget (ref := "AbsentPraiseModel") (T := TX11) (v := .int (S_3 127 30)) hC hP hin_X11 xo_X11 rfl 30 (by decide) (List.mem_of_getElem? (i := 1) rfl) rfl rfl dX11_takeLiking_26 ?_
    refine lv_iconst (v := 1) hx hb dX11_takeLiking_29 (by decide) ?_
    refine lv_isub hx hb dX11_takeLiking_30 ?_
    have hn_6 : s_X11_takeNumber S_3 0 ((S_3 127 30) - 1) := (by have hr_2 := hr_2.symm; have hS_3 := hS_3.symm; subst hr_2 hS_3; exact nl (sp (nr hs) c_5))
    refine xcV_iW (b := 127) (As := [.int 0, .int ((S_3 127 30) - 1)]) (rest := []) hC hP hS (k_X11_takeNumber l X S_3 0 ((S_3 127 30) - 1) hn_6) (cwV 2 hts gX11_takeLiking_X11_takeNumber rfl rfl rfl hd_X11_takeNumber ⟨Nat.le_of_ble_eq_true rfl, Nat.le_of_ble_eq_true rfl⟩) xo_X11 rfl rfl rfl hl.1 (Nat.le_of_ble_eq_true rfl) dX11_takeLiking_31 (fun r_7 S_8 hp_r_7 H locs hP hS => ?_)
    obtain ⟨hr_7, hS_8⟩ := hp_r_7
    refine lv_istore_n (lv' := [(1, .int r_7), (2, .int (S_3 127 22)), (0, .ref (X.2.1 127))]) hx hb dX11_takeLiking_34 rfl hl (by decide) rfl (fun ls hl => ?_)
    refine lv_iload_n hx hb dX11_takeLiking_35 rfl (lv_at hl 0 rfl) ?_
    refine lv_if_le (tgt := 41) hx hb dX11_takeLiking_36 (by decide) (fun c_10 => ?_) (fun c_10 => ?_)
    · refine lv_aload_n hx hb dX11_takeLiking_41 rfl (lv_at hl 2 rfl) ?_
      refine xget (ref := "AbsentPraiseModel") (T := TX11) (v := .int (S_8 127 22)) hC hP hin_X11 xo_X11 rfl 22 (by decide) (List.mem_of_getElem? (i := 2) rfl) rfl rfl dX11_takeLiking_42 ?_
      refine lv_istore_n (lv' := [(3, .int (S_8 127 22)), (1, .int r_7), (2, .int (S_3 127 22)), (0, .ref (X.2.1 127))]) hx hb dX11_takeLiking_45 rfl hl (by decide) rfl (fun ls hl => ?_)
      refine lv_iload_n hx hb dX11_takeLiking_46 rfl (lv_at hl 2 rfl) ?_
      refine lv_iload_n hx hb dX11_takeLiking_47 rfl (lv_at hl 0 rfl) ?_
      refine lv_icmp_ne (tgt := 61) hx hb dX11_takeLiking_48 (by decide) (fun c_11 => ?_) (fun c_11 => ?_)
      · refine lv_aload_n hx hb dX11_takeLiking_61 rfl (lv_at hl 3 rfl) ?_
        refine lv_iconst (v := 0) hx hb dX11_takeLiking_62 (by decide) ?_
        refine lv_bipush (v := 9) hx hb dX11_takeLiking_63 (by decide) ?_
        have hn_12 : s_X11_takeNumber S_8 0 9 := (by have hr_2 := hr_2.symm; have hS_3 := hS_3.symm; have hr_7 := hr_7.symm; have hS_8 := hS_8.symm; subst hr_2 hS_3 hr_7 hS_8; exact nl (sn (sp (nr (sp (nr hs) c_5)) c_10) c_11))
        refine xcV_iW (b := 127) (As := [.int 0, .int 9]) (rest := []) hC hP hS (k_X11_takeNumber l X S_8 0 9 hn_12) (cwV 2 hts gX11_takeLiking_X11_takeNumber rfl rfl rfl hd_X11_takeNumber ⟨Nat.le_of_ble_eq_true rfl, Nat.le_of_ble_eq_true rfl⟩) xo_X11 rfl rfl rfl hl.1 (Nat.le_of_ble_eq_true rfl) dX11_takeLiking_65 (fun r_13 S_14 hp_r_13 H locs hP hS => ?_)
        obtain ⟨hr_13, hS_14⟩ := hp_r_13
        refine lv_istore_n (lv' := [(1, .int r_13), (3, .int (S_8 127 22)), (2, .int (S_3 127 22)), (0, .ref (X.2.1 127))]) hx hb dX11_takeLiking_68 rfl hl (by decide) rfl (fun ls hl => ?_)
        refine lv_aload_n hx hb dX11_takeLiking_69 rfl (lv_at hl 3 rfl) ?_
        refine xget (ref := "AbsentPraiseModel") (T := TX11) (v := .ref (X.2.1 143)) hC hP hin_X11 xo_X11 rfl 34 (by decide) (List.mem_of_getElem? (i := 4) rfl) rfl rfl dX11_takeLiking_70 ?_
        refine lv_bipush (v := 7) hx hb dX11_takeLiking_73 (by decide) ?_
        refine lv_iload_n hx hb dX11_takeLiking_75 rfl (lv_at hl 2 rfl) ?_
        refine lv_imul hx hb dX11_takeLiking_76 ?_
        refine lv_iload_n hx hb dX11_takeLiking_77 rfl (lv_at hl 1 rfl) ?_
        refine lv_iadd hx hb dX11_takeLiking_78 ?_
        refine lv_aload_n hx hb dX11_takeLiking_79 rfl (lv_at hl 3 rfl) ?_
        refine xget (ref := "AbsentPraiseModel") (T := TX11) (v := .int (S_14 127 22)) hC hP hin_X11 xo_X11 rfl 22 (by decide) (List.mem_of_getElem? (i := 2) rfl) rfl rfl dX11_takeLiking_80 ?_
        have hn_16 : vp_in ((7 * (S_3 127 22)) + (S_8 127 22)) 49 := (by have hr_2 := hr_2.symm; have hS_3 := hS_3.symm; have hr_7 := hr_7.symm; have hS_8 := hS_8.symm; have hr_13 := hr_13.symm; have hS_14 := hS_14.symm; subst hr_2 hS_3 hr_7 hS_8 hr_13 hS_14; exact nl (nr (sn (sp (nr (sp (nr hs) c_5)) c_10) c_11)))
        refine xiast hC hP hS rfl hn_16 dX11_takeLiking_83 (fun S_17 hS_17 H locs hP hS => ?_)
        refine lv_aload_n hx hb dX11_takeLiking_84 rfl (lv_at hl 3 rfl) ?_
        refine lv_dup hx hb dX11_takeLiking_85 rfl ?_
        refine xget (ref := "AbsentPraiseModel") (T := TX11) (v := .int (S_17 127 33)) hC hP hin_X11 xo_X11 rfl 33 (by decide) (List.mem_of_getElem? (i := 5) rfl) rfl rfl dX11_takeLiking_86 ?_
        refine lv_iconst (v := 1) hx hb dX11_takeLiking_89 (by decide) ?_
        refine lv_iadd hx hb dX11_takeLiking_90 ?_
        refine xput (ref := "AbsentPraiseModel") (T := TX11) (ty := .int) hC hP hS (by decide) hin_X11 tyX11 tyX11_ok nmX11 xo_X11 rfl 33 (by decide) (List.mem_of_getElem? (i := 5) rfl) rfl rfl rfl rfl rfl (Nat.le_of_ble_eq_true rfl) dX11_takeLiking_91 rfl (fun S_18 hS_18 H locs hP hS => ?_)
        refine lv_iload_n hx hb dX11_takeLiking_94 rfl (lv_at hl 0 rfl) ?_
        exact xret_iW hC hP hS hb hr (by simp only [f_X11_takeLiking, ← hr_2, ← hS_3, ← hr_7, ← hS_8, ← hr_13, ← hS_14, ← hS_17, ← hS_18, if_pos c_5, if_pos c_10, if_neg c_11]) dX11_takeLiking_95 hlocks
      · refine lv_aload_n hx hb dX11_takeLiking_51 rfl (lv_at hl 3 rfl) ?_
        refine lv_iconst (v := 4) hx hb dX11_takeLiking_52 (by decide) ?_
        refine lv_aload_n hx hb dX11_takeLiking_53 rfl (lv_at hl 3 rfl) ?_
        refine xget (ref := "AbsentPraiseModel") (T := TX11) (v := .int (S_8 127 23)) hC hP hin_X11 xo_X11 rfl 23 (by decide) (List.mem_of_getElem? (i := 3) rfl) rfl rfl dX11_takeLiking_54 ?_
        refine xcV_iW (b := 127) (As := [.int 4, .int (S_8 127 23)]) (rest := []) hC hP hS (k_X11_fails l X S_8 4 (S_8 127 23)) (cwV 2 hts gX11_takeLiking_X11_fails rfl rfl rfl hd_X11_fails ⟨Nat.le_of_ble_eq_true rfl, Nat.le_of_ble_eq_true rfl⟩) xo_X11 rfl rfl rfl hl.1 (Nat.le_of_ble_eq_true rfl) dX11_takeLiking_57 (fun r_19 S_20 hp_r_19 H locs hP hS => ?_)
        obtain ⟨hr_19, hS_20⟩ := hp_r_19
        exact xret_iW hC hP hS hb hr (by simp only [f_X11_takeLiking, ← hr_2, ← hS_3, ← hr_7, ← hS_8, ← hr_19, ← hS_20, if_pos c_5, if_pos c_10, if_pos c_11]) dX11_takeLiking_60 hlocks
    · refine lv_iload_n hx hb dX11_takeLiking_39 rfl (lv_at hl 0 rfl) ?_
      exact xret_iW hC hP hS hb hr (by simp only [f_X11_takeLiking, ← hr_2, ← hS_3, ← hr_7, ← hS_8, if_pos c_5, if_neg c_10]) dX11_takeLiking_40 hlocks
  · refine lv_iload_n hx hb dX11_takeLiking_16 rfl (lv_at hl 0 rfl) ?_
    exact xret_iW hC hP hS hb hr (by simp only [f_X11_takeLiking, ← hr_2, ← hS_3, if_neg c_5]) dX11_takeLiking_17 hlocks
theorem hd_X11_isFull : yX11_isFull.cls = RX11 ∧ yX11_isFull.cls ≠ "java/lang/invoke/MethodHandle" ∧ yX11_isFull.cls ≠ "java/lang/invoke/VarHandle" ∧ (parseMethodDescriptor yX11_isFull.desc).map (fun d => d.parameters.length) = some 1 := by decide +kernel
set_option maxHeartbeats 4000000 in
set_option maxRecDepth 100000 in
theorem k_X11_isFull (l : Launch) (X : xX) (S : xS) (p0 : Int32) : Met l yX11_isFull wsX11_isFull ({ frames := 0, cells := 0, slots := 0, locals := 0 } : Room) (va_Pc [.ref (X.2.1 127), .int p0] (xI X S)) (va_Qi (fun (r : Int32) (u : xS) => (r = (f_X11_isFull S p0) ∧ (r = 0 ∨ r = 1)) ∧ u = S) (xI X) (xA X)) 0 0 (xA X) := by
  refine Met.ofW (cc := cX11_isFull) (maxL := 2) (ret := (some .boolean)) (by decide +kernel) rfl ?_
  intro p e s m args below meth c s₁ B hml hv
  obtain ⟨rfl, hP, hK, hN, hJ⟩ := hv
  have hx := B.exec
  have hb := B.bytes
  have hr := B.returns
  have hts := atoms_spec (ws := wsX11_isFull) B.pre
  have hown : s.vm.findClass RX11 = some m.cls := findClass_of_methodNamed B.named
  have hlocks := B.notSynchronized
  have hC : xC X p m c cX11_isFull 2 s _ wsX11_isFull RX11 := ⟨⟨hx, hb, hml, hown, hts⟩, hK, hN, hJ⟩
  have hS : va_S (xA X) s.heap s.heap [] := va_S.rf
  have hin_X11 : ∀ w ∈ u_ws RX11 TX11 41, w ∈ wsX11_isFull := by decide +kernel
  have hl := lv_entry ([.ref (X.2.1 127), .int p0]) (n := 2) (Nat.le_of_ble_eq_true rfl)
  rw [lg_entry_eq]
  generalize (lg_sl ([.ref (X.2.1 127), .int p0]) ++ List.replicate (2 - (lg_sl ([.ref (X.2.1 127), .int p0])).length) Slot.unset).toArray = ls at hl ⊢
  have hl : lv_has ls 2 [(0, .ref (X.2.1 127)), (1, .int p0)] := hl
  refine lv_iload_n hx hb dX11_isFull_0 rfl (lv_at hl 1 rfl) ?_
  refine lv_if_ne (tgt := 19) hx hb dX11_isFull_1 (by decide) (fun c_1 => ?_) (fun c_1 => ?_)
  · refine lv_iload_n hx hb dX11_isFull_19 rfl (lv_at hl 1 rfl) ?_
    refine lv_iconst (v := 1) hx hb dX11_isFull_20 (by decide) ?_
    refine lv_icmp_ne (tgt := 41) hx hb dX11_isFull_21 (by decide) (fun c_2 => ?_) (fun c_2 => ?_)
    · refine lv_iload_n hx hb dX11_isFull_41 rfl (lv_at hl 1 rfl) ?_
      refine lv_iconst (v := 2) hx hb dX11_isFull_42 (by decide) ?_
      refine lv_icmp_ne (tgt := 63) hx hb dX11_isFull_43 (by decide) (fun c_3 => ?_) (fun c_3 => ?_)
      · refine lv_iload_n hx hb dX11_isFull_63 rfl (lv_at hl 1 rfl) ?_
        refine lv_iconst (v := 3) hx hb dX11_isFull_64 (by decide) ?_
        refine lv_icmp_ne (tgt := 85) hx hb dX11_isFull_65 (by decide) (fun c_4 => ?_) (fun c_4 => ?_)
        · refine lv_aload_n hx hb dX11_isFull_85 rfl (lv_at hl 0 rfl) ?_
          refine xget (ref := "AbsentPraiseModel") (T := TX11) (v := .int (S 127 33)) hC hP hin_X11 xo_X11 rfl 33 (by decide) (List.mem_of_getElem? (i := 5) rfl) rfl rfl dX11_isFull_86 ?_
          refine lv_bipush (v := 20) hx hb dX11_isFull_89 (by decide) ?_
          refine lv_icmp_ne (tgt := 98) hx hb dX11_isFull_91 (by decide) (fun c_5 => ?_) (fun c_5 => ?_)
          · refine lv_iconst (v := 0) hx hb dX11_isFull_98 (by decide) ?_
            exact xret_zR hC hP hS hb hr (.inl rfl) (((iN c_1 (iN c_2 (iN c_3 (iN c_4 (iN c_5 rfl))))))) dX11_isFull_99 hlocks
          · refine lv_iconst (v := 1) hx hb dX11_isFull_94 (by decide) ?_
            refine lv_goto (tgt := 99) hx hb dX11_isFull_95 (by decide) ?_
            exact xret_zR hC hP hS hb hr (.inr rfl) (((iN c_1 (iN c_2 (iN c_3 (iN c_4 (ip c_5 rfl))))))) dX11_isFull_99 hlocks
        · refine lv_aload_n hx hb dX11_isFull_68 rfl (lv_at hl 0 rfl) ?_
          refine xget (ref := "AbsentPraiseModel") (T := TX11) (v := .int (S 127 30)) hC hP hin_X11 xo_X11 rfl 30 (by decide) (List.mem_of_getElem? (i := 4) rfl) rfl rfl dX11_isFull_69 ?_
          refine lv_bipush (v := 7) hx hb dX11_isFull_72 (by decide) ?_
          refine lv_icmp_ne (tgt := 81) hx hb dX11_isFull_74 (by decide) (fun c_6 => ?_) (fun c_6 => ?_)
          · refine lv_iconst (v := 0) hx hb dX11_isFull_81 (by decide) ?_
            refine lv_goto (tgt := 99) hx hb dX11_isFull_82 (by decide) ?_
            exact xret_zR hC hP hS hb hr (.inl rfl) (((iN c_1 (iN c_2 (iN c_3 (ip c_4 (iN c_6 rfl))))))) dX11_isFull_99 hlocks
          · refine lv_iconst (v := 1) hx hb dX11_isFull_77 (by decide) ?_
            refine lv_goto (tgt := 99) hx hb dX11_isFull_78 (by decide) ?_
            exact xret_zR hC hP hS hb hr (.inr rfl) (((iN c_1 (iN c_2 (iN c_3 (ip c_4 (ip c_6 rfl))))))) dX11_isFull_99 hlocks
      · refine lv_aload_n hx hb dX11_isFull_46 rfl (lv_at hl 0 rfl) ?_
        refine xget (ref := "AbsentPraiseModel") (T := TX11) (v := .int (S 127 27)) hC hP hin_X11 xo_X11 rfl 27 (by decide) (List.mem_of_getElem? (i := 3) rfl) rfl rfl dX11_isFull_47 ?_
        refine lv_bipush (v := 9) hx hb dX11_isFull_50 (by decide) ?_
        refine lv_icmp_ne (tgt := 59) hx hb dX11_isFull_52 (by decide) (fun c_7 => ?_) (fun c_7 => ?_)
        · refine lv_iconst (v := 0) hx hb dX11_isFull_59 (by decide) ?_
          refine lv_goto (tgt := 99) hx hb dX11_isFull_60 (by decide) ?_
          exact xret_zR hC hP hS hb hr (.inl rfl) (((iN c_1 (iN c_2 (ip c_3 (iN c_7 rfl)))))) dX11_isFull_99 hlocks
        · refine lv_iconst (v := 1) hx hb dX11_isFull_55 (by decide) ?_
          refine lv_goto (tgt := 99) hx hb dX11_isFull_56 (by decide) ?_
          exact xret_zR hC hP hS hb hr (.inr rfl) (((iN c_1 (iN c_2 (ip c_3 (ip c_7 rfl)))))) dX11_isFull_99 hlocks
    · refine lv_aload_n hx hb dX11_isFull_24 rfl (lv_at hl 0 rfl) ?_
      refine xget (ref := "AbsentPraiseModel") (T := TX11) (v := .int (S 127 26)) hC hP hin_X11 xo_X11 rfl 26 (by decide) (List.mem_of_getElem? (i := 2) rfl) rfl rfl dX11_isFull_25 ?_
      refine lv_bipush (v := 9) hx hb dX11_isFull_28 (by decide) ?_
      refine lv_icmp_ne (tgt := 37) hx hb dX11_isFull_30 (by decide) (fun c_8 => ?_) (fun c_8 => ?_)
      · refine lv_iconst (v := 0) hx hb dX11_isFull_37 (by decide) ?_
        refine lv_goto (tgt := 99) hx hb dX11_isFull_38 (by decide) ?_
        exact xret_zR hC hP hS hb hr (.inl rfl) (((iN c_1 (ip c_2 (iN c_8 rfl))))) dX11_isFull_99 hlocks
      · refine lv_iconst (v := 1) hx hb dX11_isFull_33 (by decide) ?_
        refine lv_goto (tgt := 99) hx hb dX11_isFull_34 (by decide) ?_
        exact xret_zR hC hP hS hb hr (.inr rfl) (((iN c_1 (ip c_2 (ip c_8 rfl))))) dX11_isFull_99 hlocks
  · refine lv_aload_n hx hb dX11_isFull_4 rfl (lv_at hl 0 rfl) ?_
    refine xget (ref := "AbsentPraiseModel") (T := TX11) (v := .int (S 127 24)) hC hP hin_X11 xo_X11 rfl 24 (by decide) (List.mem_of_getElem? (i := 1) rfl) rfl rfl dX11_isFull_5 ?_
    refine lv_if_le (tgt := 15) hx hb dX11_isFull_8 (by decide) (fun c_9 => ?_) (fun c_9 => ?_)
    · refine lv_iconst (v := 0) hx hb dX11_isFull_15 (by decide) ?_
      refine lv_goto (tgt := 99) hx hb dX11_isFull_16 (by decide) ?_
      exact xret_zR hC hP hS hb hr (.inl rfl) (((ip c_1 (ip c_9 rfl)))) dX11_isFull_99 hlocks
    · refine lv_iconst (v := 1) hx hb dX11_isFull_11 (by decide) ?_
      refine lv_goto (tgt := 99) hx hb dX11_isFull_12 (by decide) ?_
      exact xret_zR hC hP hS hb hr (.inr rfl) (((ip c_1 (iN c_9 rfl)))) dX11_isFull_99 hlocks
theorem hd_X11_takeBody : yX11_takeBody.cls = RX11 ∧ yX11_takeBody.cls ≠ "java/lang/invoke/MethodHandle" ∧ yX11_takeBody.cls ≠ "java/lang/invoke/VarHandle" ∧ (parseMethodDescriptor yX11_takeBody.desc).map (fun d => d.parameters.length) = some 1 := by decide +kernel
set_option maxHeartbeats 4000000 in
set_option maxRecDepth 100000 in
theorem k_X11_takeBody (l : Launch) (X : xX) (S : xS) (p0 : Int32) (hs : s_X11_takeBody S p0) : Met l yX11_takeBody wsX11_takeBody ({ frames := 4, cells := 0, slots := 0, locals := 91 } : Room) (va_Pc [.ref (X.2.1 127), .int p0] (xI X S)) (va_Qi (fun (r : Int32) (u : xS) => r = (f_X11_takeBody S p0).1 ∧ u = (f_X11_takeBody S p0).2) (xI X) (xA X)) 0 0 (xA X) := by
  refine Met.ofW (cc := cX11_takeBody) (maxL := 2) (ret := (some .int)) (by decide +kernel) rfl ?_
  intro p e s m args below meth c s₁ B hml hv
  obtain ⟨rfl, hP, hK, hN, hJ⟩ := hv
  have hx := B.exec
  have hb := B.bytes
  have hr := B.returns
  have hts := atoms_spec (ws := wsX11_takeBody) B.pre
  have hown : s.vm.findClass RX11 = some m.cls := findClass_of_methodNamed B.named
  have hlocks := B.notSynchronized
  have hC : xC X p m c cX11_takeBody 2 s _ wsX11_takeBody RX11 := ⟨⟨hx, hb, hml, hown, hts⟩, hK, hN, hJ⟩
  have hS : va_S (xA X) s.heap s.heap [] := va_S.rf
  have hl := lv_entry ([.ref (X.2.1 127), .int p0]) (n := 2) (Nat.le_of_ble_eq_true rfl)
  rw [lg_entry_eq]
  generalize (lg_sl ([.ref (X.2.1 127), .int p0]) ++ List.replicate (2 - (lg_sl ([.ref (X.2.1 127), .int p0])).length) Slot.unset).toArray = ls at hl ⊢
  have hl : lv_has ls 2 [(0, .ref (X.2.1 127)), (1, .int p0)] := hl
  refine lv_iload_n hx hb dX11_takeBody_0 rfl (lv_at hl 1 rfl) ?_
  refine lv_if_ne (tgt := 11) hx hb dX11_takeBody_1 (by decide) (fun c_1 => ?_) (fun c_1 => ?_)
  · refine lv_iload_n hx hb dX11_takeBody_11 rfl (lv_at hl 1 rfl) ?_
    refine lv_iconst (v := 1) hx hb dX11_takeBody_12 (by decide) ?_
    refine lv_icmp_ne (tgt := 23) hx hb dX11_takeBody_13 (by decide) (fun c_2 => ?_) (fun c_2 => ?_)
    · refine lv_iload_n hx hb dX11_takeBody_23 rfl (lv_at hl 1 rfl) ?_
      refine lv_iconst (v := 2) hx hb dX11_takeBody_24 (by decide) ?_
      refine lv_icmp_ne (tgt := 35) hx hb dX11_takeBody_25 (by decide) (fun c_3 => ?_) (fun c_3 => ?_)
      · refine lv_iload_n hx hb dX11_takeBody_35 rfl (lv_at hl 1 rfl) ?_
        refine lv_iconst (v := 3) hx hb dX11_takeBody_36 (by decide) ?_
        refine lv_icmp_ne (tgt := 47) hx hb dX11_takeBody_37 (by decide) (fun c_4 => ?_) (fun c_4 => ?_)
        · refine lv_aload_n hx hb dX11_takeBody_47 rfl (lv_at hl 0 rfl) ?_
          have hn_5 : s_X11_takeLiking S := (nl (sn (sn (sn (sn hs c_1) c_2) c_3) c_4))
          refine xcV_iW (b := 127) (As := []) (rest := []) hC hP hS (k_X11_takeLiking l X S hn_5) (cwV 0 hts gX11_takeBody_X11_takeLiking rfl rfl rfl hd_X11_takeLiking ⟨Nat.le_of_ble_eq_true rfl, Nat.le_of_ble_eq_true rfl⟩) xo_X11 rfl rfl rfl hl.1 (Nat.le_of_ble_eq_true rfl) dX11_takeBody_48 (fun r_6 S_7 hp_r_6 H locs hP hS => ?_)
          obtain ⟨hr_6, hS_7⟩ := hp_r_6
          exact xret_iW hC hP hS hb hr (by simp only [f_X11_takeBody, ← hr_6, ← hS_7, if_neg c_1, if_neg c_2, if_neg c_3, if_neg c_4]) dX11_takeBody_51 hlocks
        · refine lv_aload_n hx hb dX11_takeBody_40 rfl (lv_at hl 0 rfl) ?_
          have hn_9 : s_X11_takePerson S := (nl (sp (sn (sn (sn hs c_1) c_2) c_3) c_4))
          refine xcV_iW (b := 127) (As := []) (rest := []) hC hP hS (k_X11_takePerson l X S hn_9) (cwV 0 hts gX11_takeBody_X11_takePerson rfl rfl rfl hd_X11_takePerson ⟨Nat.le_of_ble_eq_true rfl, Nat.le_of_ble_eq_true rfl⟩) xo_X11 rfl rfl rfl hl.1 (Nat.le_of_ble_eq_true rfl) dX11_takeBody_41 (fun r_10 S_11 hp_r_10 H locs hP hS => ?_)
          obtain ⟨hr_10, hS_11⟩ := hp_r_10
          refine lv_goto (tgt := 51) hx hb dX11_takeBody_44 (by decide) ?_
          exact xret_iW hC hP hS hb hr (by simp only [f_X11_takeBody, ← hr_10, ← hS_11, if_neg c_1, if_neg c_2, if_neg c_3, if_pos c_4]) dX11_takeBody_51 hlocks
      · refine lv_aload_n hx hb dX11_takeBody_28 rfl (lv_at hl 0 rfl) ?_
        have hn_13 : s_X11_takeWay S := (nl (sp (sn (sn hs c_1) c_2) c_3))
        refine xcV_iW (b := 127) (As := []) (rest := []) hC hP hS (k_X11_takeWay l X S hn_13) (cwV 0 hts gX11_takeBody_X11_takeWay rfl rfl rfl hd_X11_takeWay ⟨Nat.le_of_ble_eq_true rfl, Nat.le_of_ble_eq_true rfl⟩) xo_X11 rfl rfl rfl hl.1 (Nat.le_of_ble_eq_true rfl) dX11_takeBody_29 (fun r_14 S_15 hp_r_14 H locs hP hS => ?_)
        obtain ⟨hr_14, hS_15⟩ := hp_r_14
        refine lv_goto (tgt := 51) hx hb dX11_takeBody_32 (by decide) ?_
        exact xret_iW hC hP hS hb hr (by simp only [f_X11_takeBody, ← hr_14, ← hS_15, if_neg c_1, if_neg c_2, if_pos c_3]) dX11_takeBody_51 hlocks
    · refine lv_aload_n hx hb dX11_takeBody_16 rfl (lv_at hl 0 rfl) ?_
      have hn_17 : s_X11_takeBench S := (nl (sp (sn hs c_1) c_2))
      refine xcV_iW (b := 127) (As := []) (rest := []) hC hP hS (k_X11_takeBench l X S hn_17) (cwV 0 hts gX11_takeBody_X11_takeBench rfl rfl rfl hd_X11_takeBench ⟨Nat.le_of_ble_eq_true rfl, Nat.le_of_ble_eq_true rfl⟩) xo_X11 rfl rfl rfl hl.1 (Nat.le_of_ble_eq_true rfl) dX11_takeBody_17 (fun r_18 S_19 hp_r_18 H locs hP hS => ?_)
      obtain ⟨hr_18, hS_19⟩ := hp_r_18
      refine lv_goto (tgt := 51) hx hb dX11_takeBody_20 (by decide) ?_
      exact xret_iW hC hP hS hb hr (by simp only [f_X11_takeBody, ← hr_18, ← hS_19, if_neg c_1, if_pos c_2]) dX11_takeBody_51 hlocks
  · refine lv_aload_n hx hb dX11_takeBody_4 rfl (lv_at hl 0 rfl) ?_
    have hn_21 : s_X11_takeRooms S := (nl (sp hs c_1))
    refine xcV_iW (b := 127) (As := []) (rest := []) hC hP hS (k_X11_takeRooms l X S hn_21) (cwV 0 hts gX11_takeBody_X11_takeRooms rfl rfl rfl hd_X11_takeRooms ⟨Nat.le_of_ble_eq_true rfl, Nat.le_of_ble_eq_true rfl⟩) xo_X11 rfl rfl rfl hl.1 (Nat.le_of_ble_eq_true rfl) dX11_takeBody_5 (fun r_22 S_23 hp_r_22 H locs hP hS => ?_)
    obtain ⟨hr_22, hS_23⟩ := hp_r_22
    refine lv_goto (tgt := 51) hx hb dX11_takeBody_8 (by decide) ?_
    exact xret_iW hC hP hS hb hr (by simp only [f_X11_takeBody, ← hr_22, ← hS_23, if_pos c_1]) dX11_takeBody_51 hlocks
