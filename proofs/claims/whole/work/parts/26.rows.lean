set_option linter.all false
/-! contracts: X10_tear, X10_judge, X10_seed, X10_imageAt, X10_keep, X10_goBack -/
theorem hd_X10_tear : yX10_tear.cls = RX10 ∧ yX10_tear.cls ≠ "java/lang/invoke/MethodHandle" ∧ yX10_tear.cls ≠ "java/lang/invoke/VarHandle" ∧ (parseMethodDescriptor yX10_tear.desc).map (fun d => d.parameters.length) = some 0 := by decide +kernel
set_option maxHeartbeats 4000000 in
set_option maxRecDepth 100000 in
theorem k_X10_tear (l : Launch) (X : xX) (S : xS) : Met l yX10_tear wsX10_tear ({ frames := 0, cells := 0, slots := 0, locals := 0 } : Room) (va_Pc [.ref (X.2.1 0)] (xI X S)) (va_Qi (fun (r : Int32) (u : xS) => r = (f_X10_tear S).1 ∧ u = (f_X10_tear S).2) (xI X) (xA X)) 0 0 (xA X) := by
  refine Met.ofW (cc := cX10_tear) (maxL := 2) (ret := (some .int)) (by decide +kernel) rfl ?_
  intro p e s m args below meth c s₁ B hml hv
  obtain ⟨rfl, hP, hK, hN, hJ⟩ := hv
  have hx := B.exec
  have hb := B.bytes
  have hr := B.returns
  have hts := atoms_spec (ws := wsX10_tear) B.pre
  have hown : s.vm.findClass RX10 = some m.cls := findClass_of_methodNamed B.named
  have hlocks := B.notSynchronized
  have hC : xC X p m c cX10_tear 2 s _ wsX10_tear RX10 := ⟨⟨hx, hb, hml, hown, hts⟩, hK, hN, hJ⟩
  have hS : va_S (xA X) s.heap s.heap [] := va_S.rf
  have hin_X0 : ∀ w ∈ u_ws RX0 TX0 3, w ∈ wsX10_tear := by decide +kernel
  have hin_X10 : ∀ w ∈ u_ws RX10 TX10 10, w ∈ wsX10_tear := by decide +kernel
  have hin_X5 : ∀ w ∈ u_ws RX5 TX5 4, w ∈ wsX10_tear := by decide +kernel
  have hl := lv_entry ([.ref (X.2.1 0)]) (n := 2) (Nat.le_of_ble_eq_true rfl)
  rw [lg_entry_eq]
  generalize (lg_sl ([.ref (X.2.1 0)]) ++ List.replicate (2 - (lg_sl ([.ref (X.2.1 0)])).length) Slot.unset).toArray = ls at hl ⊢
  have hl : lv_has ls 2 [(0, .ref (X.2.1 0))] := hl
  refine lv_aload_n hx hb dX10_tear_0 rfl (lv_at hl 0 rfl) ?_
  refine xget (ref := "AbsentPraise") (T := TX10) (v := .ref (X.2.1 19)) hC hP hin_X10 xo_X10 rfl 6 (by decide) (List.mem_of_getElem? (i := 1) rfl) rfl rfl dX10_tear_1 ?_
  refine xget (ref := "AbsentPraise$Notes") (T := TX5) (v := .int (S 19 3)) hC hP hin_X5 xo_X5 rfl 3 (by decide) (List.mem_of_getElem? (i := 2) rfl) rfl rfl dX10_tear_4 ?_
  refine lv_aload_n hx hb dX10_tear_7 rfl (lv_at hl 0 rfl) ?_
  refine xget (ref := "AbsentPraise") (T := TX10) (v := .ref (X.2.1 23)) hC hP hin_X10 xo_X10 rfl 7 (by decide) (List.mem_of_getElem? (i := 3) rfl) rfl rfl dX10_tear_8 ?_
  refine xget (ref := "AbsentPraise$Book") (T := TX0) (v := .int (S 23 2)) hC hP hin_X0 xo_X0 rfl 2 (by decide) (List.mem_of_getElem? (i := 4) rfl) rfl rfl dX10_tear_11 ?_
  refine lv_iadd hx hb dX10_tear_14 ?_
  refine lv_istore_n (lv' := [(1, .int ((S 19 3) + (S 23 2))), (0, .ref (X.2.1 0))]) hx hb dX10_tear_15 rfl hl (by decide) rfl (fun ls hl => ?_)
  refine lv_aload_n hx hb dX10_tear_16 rfl (lv_at hl 1 rfl) ?_
  refine xget (ref := "AbsentPraise") (T := TX10) (v := .ref (X.2.1 19)) hC hP hin_X10 xo_X10 rfl 6 (by decide) (List.mem_of_getElem? (i := 1) rfl) rfl rfl dX10_tear_17 ?_
  refine lv_iconst (v := 0) hx hb dX10_tear_20 (by decide) ?_
  refine xput (ref := "AbsentPraise$Notes") (T := TX5) (ty := .int) hC hP hS (by decide) hin_X5 tyX5 tyX5_ok nmX5 xo_X5 rfl 3 (by decide) (List.mem_of_getElem? (i := 2) rfl) rfl rfl rfl rfl rfl (Nat.le_of_ble_eq_true rfl) dX10_tear_21 rfl (fun S_1 hS_1 H locs hP hS => ?_)
  refine lv_aload_n hx hb dX10_tear_24 rfl (lv_at hl 1 rfl) ?_
  refine xget (ref := "AbsentPraise") (T := TX10) (v := .ref (X.2.1 23)) hC hP hin_X10 xo_X10 rfl 7 (by decide) (List.mem_of_getElem? (i := 3) rfl) rfl rfl dX10_tear_25 ?_
  refine lv_iconst (v := 0) hx hb dX10_tear_28 (by decide) ?_
  refine xput (ref := "AbsentPraise$Book") (T := TX0) (ty := .int) hC hP hS (by decide) hin_X0 tyX0 tyX0_ok nmX0 xo_X0 rfl 2 (by decide) (List.mem_of_getElem? (i := 4) rfl) rfl rfl rfl rfl rfl (Nat.le_of_ble_eq_true rfl) dX10_tear_29 rfl (fun S_2 hS_2 H locs hP hS => ?_)
  refine lv_iload_n hx hb dX10_tear_32 rfl (lv_at hl 0 rfl) ?_
  exact xret_iW hC hP hS hb hr ((by have hS_1 := hS_1.symm; have hS_2 := hS_2.symm; subst hS_1 hS_2; exact rfl)) dX10_tear_33 hlocks
theorem hd_X10_judge : yX10_judge.cls = RX10 ∧ yX10_judge.cls ≠ "java/lang/invoke/MethodHandle" ∧ yX10_judge.cls ≠ "java/lang/invoke/VarHandle" ∧ (parseMethodDescriptor yX10_judge.desc).map (fun d => d.parameters.length) = some 0 := by decide +kernel
set_option maxHeartbeats 4000000 in
set_option maxRecDepth 100000 in
theorem k_X10_judge (l : Launch) (X : xX) (S : xS) (hs : s_X10_judge S) : Met l yX10_judge wsX10_judge ({ frames := 2, cells := 0, slots := 0, locals := 43 } : Room) (va_Pc [.ref (X.2.1 0)] (xI X S)) (va_Qi (fun (r : Int32) (u : xS) => r = (f_X10_judge S) ∧ u = S) (xI X) (xA X)) 0 0 (xA X) := by
  refine Met.ofW (cc := cX10_judge) (maxL := 1) (ret := (some .int)) (by decide +kernel) rfl ?_
  intro p e s m args below meth c s₁ B hml hv
  obtain ⟨rfl, hP, hK, hN, hJ⟩ := hv
  have hx := B.exec
  have hb := B.bytes
  have hr := B.returns
  have hts := atoms_spec (ws := wsX10_judge) B.pre
  have hown : s.vm.findClass RX10 = some m.cls := findClass_of_methodNamed B.named
  have hlocks := B.notSynchronized
  have hC : xC X p m c cX10_judge 1 s _ wsX10_judge RX10 := ⟨⟨hx, hb, hml, hown, hts⟩, hK, hN, hJ⟩
  have hS : va_S (xA X) s.heap s.heap [] := va_S.rf
  have hin_X10 : ∀ w ∈ u_ws RX10 TX10 10, w ∈ wsX10_judge := by decide +kernel
  have hl := lv_entry ([.ref (X.2.1 0)]) (n := 1) (Nat.le_of_ble_eq_true rfl)
  rw [lg_entry_eq]
  generalize (lg_sl ([.ref (X.2.1 0)]) ++ List.replicate (1 - (lg_sl ([.ref (X.2.1 0)])).length) Slot.unset).toArray = ls at hl ⊢
  have hl : lv_has ls 1 [(0, .ref (X.2.1 0))] := hl
  refine lv_aload_n hx hb dX10_judge_0 rfl (lv_at hl 0 rfl) ?_
  refine xget (ref := "AbsentPraise") (T := TX10) (v := .ref (X.2.1 23)) hC hP hin_X10 xo_X10 rfl 7 (by decide) (List.mem_of_getElem? (i := 1) rfl) rfl rfl dX10_judge_1 ?_
  refine lv_aload_n hx hb dX10_judge_4 rfl (lv_at hl 0 rfl) ?_
  refine xget (ref := "AbsentPraise") (T := TX10) (v := .ref (X.2.1 32)) hC hP hin_X10 xo_X10 rfl 2 (by decide) (List.mem_of_getElem? (i := 2) rfl) rfl rfl dX10_judge_5 ?_
  have hn_1 : s_X0_firstWrong S 32 := (nl hs)
  refine xcV_iR (b := 23) (As := [.ref (X.2.1 32)]) (rest := []) hC hP hS (k_X0_firstWrong l X S 32 (by decide) hn_1) (cwV 1 hts gX10_judge_X0_firstWrong rfl rfl rfl hd_X0_firstWrong ⟨Nat.le_of_ble_eq_true rfl, Nat.le_of_ble_eq_true rfl⟩) xo_X0 rfl rfl rfl hl.1 (Nat.le_of_ble_eq_true rfl) dX10_judge_8 (fun r_2 hr_2 H locs hP hS => ?_)
  exact xret_iR hC hP hS hb hr ((by have hr_2 := hr_2.symm; subst hr_2; exact rfl)) dX10_judge_11 hlocks
theorem hd_X10_seed : yX10_seed.cls = RX10 ∧ yX10_seed.cls ≠ "java/lang/invoke/MethodHandle" ∧ yX10_seed.cls ≠ "java/lang/invoke/VarHandle" ∧ (parseMethodDescriptor yX10_seed.desc).map (fun d => d.parameters.length) = some 1 := by decide +kernel
set_option maxHeartbeats 4000000 in
set_option maxRecDepth 100000 in
theorem k_X10_seed (l : Launch) (X : xX) (S : xS) (p0 : Int32) : Met l yX10_seed wsX10_seed ({ frames := 0, cells := 0, slots := 0, locals := 0 } : Room) (va_Pc [.ref (X.2.1 0), .int p0] (xI X S)) (va_Qi (fun (r : Int32) (u : xS) => r = (f_X10_seed S p0).1 ∧ u = (f_X10_seed S p0).2) (xI X) (xA X)) 0 0 (xA X) := by
  refine Met.ofW (cc := cX10_seed) (maxL := 3) (ret := (some .int)) (by decide +kernel) rfl ?_
  intro p e s m args below meth c s₁ B hml hv
  obtain ⟨rfl, hP, hK, hN, hJ⟩ := hv
  have hx := B.exec
  have hb := B.bytes
  have hr := B.returns
  have hts := atoms_spec (ws := wsX10_seed) B.pre
  have hown : s.vm.findClass RX10 = some m.cls := findClass_of_methodNamed B.named
  have hlocks := B.notSynchronized
  have hC : xC X p m c cX10_seed 3 s _ wsX10_seed RX10 := ⟨⟨hx, hb, hml, hown, hts⟩, hK, hN, hJ⟩
  have hS : va_S (xA X) s.heap s.heap [] := va_S.rf
  have hin_X1 : ∀ w ∈ u_ws RX1 TX1 1, w ∈ wsX10_seed := by decide +kernel
  have hin_X10 : ∀ w ∈ u_ws RX10 TX10 10, w ∈ wsX10_seed := by decide +kernel
  have hl := lv_entry ([.ref (X.2.1 0), .int p0]) (n := 3) (Nat.le_of_ble_eq_true rfl)
  rw [lg_entry_eq]
  generalize (lg_sl ([.ref (X.2.1 0), .int p0]) ++ List.replicate (3 - (lg_sl ([.ref (X.2.1 0), .int p0])).length) Slot.unset).toArray = ls at hl ⊢
  have hl : lv_has ls 3 [(0, .ref (X.2.1 0)), (1, .int p0)] := hl
  refine lv_iload_n hx hb dX10_seed_0 rfl (lv_at hl 1 rfl) ?_
  refine lv_if_ge (tgt := 7) hx hb dX10_seed_1 (by decide) (fun c_1 => ?_) (fun c_1 => ?_)
  · refine lv_aload_n hx hb dX10_seed_7 rfl (lv_at hl 0 rfl) ?_
    refine xget (ref := "AbsentPraise") (T := TX10) (v := .ref (X.2.1 26)) hC hP hin_X10 xo_X10 rfl 8 (by decide) (List.mem_of_getElem? (i := 2) rfl) rfl rfl dX10_seed_8 ?_
    refine xget (ref := "AbsentPraise$Draws") (T := TX1) (v := .int (S 26 0)) hC hP hin_X1 xo_X1 rfl 0 (by decide) (List.mem_of_getElem? (i := 3) rfl) rfl rfl dX10_seed_11 ?_
    refine lv_istore_n (lv' := [(2, .int (S 26 0)), (0, .ref (X.2.1 0)), (1, .int p0)]) hx hb dX10_seed_14 rfl hl (by decide) rfl (fun ls hl => ?_)
    refine lv_aload_n hx hb dX10_seed_15 rfl (lv_at hl 1 rfl) ?_
    refine xget (ref := "AbsentPraise") (T := TX10) (v := .ref (X.2.1 26)) hC hP hin_X10 xo_X10 rfl 8 (by decide) (List.mem_of_getElem? (i := 2) rfl) rfl rfl dX10_seed_16 ?_
    refine lv_iload_n hx hb dX10_seed_19 rfl (lv_at hl 2 rfl) ?_
    refine xput (ref := "AbsentPraise$Draws") (T := TX1) (ty := .int) hC hP hS (by decide) hin_X1 tyX1 tyX1_ok nmX1 xo_X1 rfl 0 (by decide) (List.mem_of_getElem? (i := 3) rfl) rfl rfl rfl rfl rfl (Nat.le_of_ble_eq_true rfl) dX10_seed_20 rfl (fun S_2 hS_2 H locs hP hS => ?_)
    refine lv_iload_n hx hb dX10_seed_23 rfl (lv_at hl 0 rfl) ?_
    exact xret_iW hC hP hS hb hr ((by have hS_2 := hS_2.symm; subst hS_2; exact (ip c_1 rfl))) dX10_seed_24 hlocks
  · refine lv_ldc (v := (-1000000002)) hx hb hown (hts (.constant RX10 87 (-1000000002)) (List.mem_of_getElem? (i := 1) rfl)) dX10_seed_4 ?_
    exact xret_iW hC hP hS hb hr (((iN c_1 rfl))) dX10_seed_6 hlocks
theorem hd_X10_imageAt : yX10_imageAt.cls = RX10 ∧ yX10_imageAt.cls ≠ "java/lang/invoke/MethodHandle" ∧ yX10_imageAt.cls ≠ "java/lang/invoke/VarHandle" ∧ (parseMethodDescriptor yX10_imageAt.desc).map (fun d => d.parameters.length) = some 1 := by decide +kernel
set_option maxHeartbeats 4000000 in
set_option maxRecDepth 100000 in
theorem k_X10_imageAt (l : Launch) (X : xX) (S : xS) (p0 : Int32) : Met l yX10_imageAt wsX10_imageAt ({ frames := 0, cells := 0, slots := 0, locals := 0 } : Room) (va_Pc [.ref (X.2.1 0), .int p0] (xI X S)) (va_Qq (fun (r : Option Nat) (u : xS) => r = (f_X10_imageAt S p0).map X.2.1 ∧ u = S) (xI X) (xA X)) 0 0 (xA X) := by
  refine Met.ofW (cc := cX10_imageAt) (maxL := 2) (ret := (some (.object "AbsentPraise$Image"))) (by decide +kernel) rfl ?_
  intro p e s m args below meth c s₁ B hml hv
  obtain ⟨rfl, hP, hK, hN, hJ⟩ := hv
  have hx := B.exec
  have hb := B.bytes
  have hr := B.returns
  have hts := atoms_spec (ws := wsX10_imageAt) B.pre
  have hown : s.vm.findClass RX10 = some m.cls := findClass_of_methodNamed B.named
  have hlocks := B.notSynchronized
  have hC : xC X p m c cX10_imageAt 2 s _ wsX10_imageAt RX10 := ⟨⟨hx, hb, hml, hown, hts⟩, hK, hN, hJ⟩
  have hS : va_S (xA X) s.heap s.heap [] := va_S.rf
  have hin_X10 : ∀ w ∈ u_ws RX10 TX10 10, w ∈ wsX10_imageAt := by decide +kernel
  have hl := lv_entry ([.ref (X.2.1 0), .int p0]) (n := 2) (Nat.le_of_ble_eq_true rfl)
  rw [lg_entry_eq]
  generalize (lg_sl ([.ref (X.2.1 0), .int p0]) ++ List.replicate (2 - (lg_sl ([.ref (X.2.1 0), .int p0])).length) Slot.unset).toArray = ls at hl ⊢
  have hl : lv_has ls 2 [(0, .ref (X.2.1 0)), (1, .int p0)] := hl
  refine lv_iload_n hx hb dX10_imageAt_0 rfl (lv_at hl 1 rfl) ?_
  refine lv_if_lt (tgt := 22) hx hb dX10_imageAt_1 (by decide) (fun c_1 => ?_) (fun c_1 => ?_)
  · refine lv_null hx hb dX10_imageAt_22 ?_
    exact xret_qN hC hP hS hb hr (.inl ⟨_, rfl⟩) (((ip c_1 rfl))) dX10_imageAt_23 hlocks
  · refine lv_iload_n hx hb dX10_imageAt_4 rfl (lv_at hl 1 rfl) ?_
    refine lv_aload_n hx hb dX10_imageAt_5 rfl (lv_at hl 0 rfl) ?_
    refine xget (ref := "AbsentPraise") (T := TX10) (v := .ref (X.2.1 29)) hC hP hin_X10 xo_X10 rfl 9 (by decide) (List.mem_of_getElem? (i := 1) rfl) rfl rfl dX10_imageAt_6 ?_
    refine xalen29 hC hP dX10_imageAt_9 ?_
    refine lv_icmp_ge (tgt := 22) hx hb dX10_imageAt_10 (by decide) (fun c_2 => ?_) (fun c_2 => ?_)
    · refine lv_null hx hb dX10_imageAt_22 ?_
      exact xret_qN hC hP hS hb hr (.inl ⟨_, rfl⟩) (((iN c_1 (ip c_2 rfl)))) dX10_imageAt_23 hlocks
    · refine lv_aload_n hx hb dX10_imageAt_13 rfl (lv_at hl 0 rfl) ?_
      refine xget (ref := "AbsentPraise") (T := TX10) (v := .ref (X.2.1 29)) hC hP hin_X10 xo_X10 rfl 9 (by decide) (List.mem_of_getElem? (i := 1) rfl) rfl rfl dX10_imageAt_14 ?_
      refine lv_iload_n hx hb dX10_imageAt_17 rfl (lv_at hl 1 rfl) ?_
      refine xaald29 hC hP (vp_of (by decide) c_1 c_2) dX10_imageAt_18 (fun hk_3 => ?_)
      refine lv_goto (tgt := 23) hx hb dX10_imageAt_19 (by decide) ?_
      exact xret_q hC hP hS hb hr (.inl ⟨_, rfl⟩) (((iN c_1 (iN c_2 rfl)))) dX10_imageAt_23 hlocks
theorem hd_X10_keep : yX10_keep.cls = RX10 ∧ yX10_keep.cls ≠ "java/lang/invoke/MethodHandle" ∧ yX10_keep.cls ≠ "java/lang/invoke/VarHandle" ∧ (parseMethodDescriptor yX10_keep.desc).map (fun d => d.parameters.length) = some 1 := by decide +kernel
set_option maxHeartbeats 4000000 in
set_option maxRecDepth 100000 in
theorem k_X10_keep (l : Launch) (X : xX) (S : xS) (p0 : Int32) (hs : s_X10_keep S p0) : Met l yX10_keep wsX10_keep ({ frames := 3, cells := 0, slots := 0, locals := 82 } : Room) (va_Pc [.ref (X.2.1 0), .int p0] (xI X S)) (va_Qi (fun (r : Int32) (u : xS) => r = (f_X10_keep S p0).1 ∧ u = (f_X10_keep S p0).2) (xI X) (xA X)) 0 0 (xA X) := by
  refine Met.ofW (cc := cX10_keep) (maxL := 3) (ret := (some .int)) (by decide +kernel) rfl ?_
  intro p e s m args below meth c s₁ B hml hv
  obtain ⟨rfl, hP, hK, hN, hJ⟩ := hv
  have hx := B.exec
  have hb := B.bytes
  have hr := B.returns
  have hts := atoms_spec (ws := wsX10_keep) B.pre
  have hown : s.vm.findClass RX10 = some m.cls := findClass_of_methodNamed B.named
  have hlocks := B.notSynchronized
  have hC : xC X p m c cX10_keep 3 s _ wsX10_keep RX10 := ⟨⟨hx, hb, hml, hown, hts⟩, hK, hN, hJ⟩
  have hS : va_S (xA X) s.heap s.heap [] := va_S.rf
  have hin_X1 : ∀ w ∈ u_ws RX1 TX1 1, w ∈ wsX10_keep := by decide +kernel
  have hin_X10 : ∀ w ∈ u_ws RX10 TX10 10, w ∈ wsX10_keep := by decide +kernel
  have hin_X3 : ∀ w ∈ u_ws RX3 TX3 3, w ∈ wsX10_keep := by decide +kernel
  have hl := lv_entry ([.ref (X.2.1 0), .int p0]) (n := 3) (Nat.le_of_ble_eq_true rfl)
  rw [lg_entry_eq]
  generalize (lg_sl ([.ref (X.2.1 0), .int p0]) ++ List.replicate (3 - (lg_sl ([.ref (X.2.1 0), .int p0])).length) Slot.unset).toArray = ls at hl ⊢
  have hl : lv_has ls 3 [(0, .ref (X.2.1 0)), (1, .int p0)] := hl
  refine lv_aload_n hx hb dX10_keep_0 rfl (lv_at hl 0 rfl) ?_
  refine lv_iload_n hx hb dX10_keep_1 rfl (lv_at hl 1 rfl) ?_
  refine xcV_qR (b := 0) (As := [.int p0]) (rest := []) hC hP hS (k_X10_imageAt l X S p0) (cwV 1 hts gX10_keep_X10_imageAt rfl rfl rfl hd_X10_imageAt ⟨Nat.le_of_ble_eq_true rfl, Nat.le_of_ble_eq_true rfl⟩) xo_X10 rfl rfl rfl hl.1 (Nat.le_of_ble_eq_true rfl) dX10_keep_2 (fun r_1 hr_1 H locs hP hS => ?_)
  rcases hq_2 : f_X10_imageAt S p0 with _ | t_3
  · rw [hq_2] at hr_1
    subst hr_1
    refine W.eq (g2 := F0 m 5 ls (.null :: [])) rfl ?_
    refine lv_astore_nN (lv' := [(2, .null), (0, .ref (X.2.1 0)), (1, .int p0)]) hx hb dX10_keep_5 rfl hl (by decide) rfl (fun ls hl => ?_)
    refine lv_aload_nN hx hb dX10_keep_6 rfl (lv_at hl 0 rfl) ?_
    refine lv_ifnonnullN hx hb dX10_keep_7 ?_
    refine lv_ldc (v := (-1000000001)) hx hb hown (hts (.constant RX10 162 (-1000000001)) (List.mem_of_getElem? (i := 1) rfl)) dX10_keep_10 ?_
    exact xret_iW hC hP hS hb hr (((oe_n hq_2 rfl))) dX10_keep_12 hlocks
  · rw [hq_2] at hr_1
    subst hr_1
    refine W.eq (g2 := F0 m 5 ls (.ref (X.2.1 t_3) :: [])) rfl ?_
    have hk_4 : isM t_3 = true := kd_X10_imageAt hq_2
    refine lv_astore_n (lv' := [(2, .ref (X.2.1 t_3)), (0, .ref (X.2.1 0)), (1, .int p0)]) hx hb dX10_keep_5 rfl hl (by decide) rfl (fun ls hl => ?_)
    refine lv_aload_n hx hb dX10_keep_6 rfl (lv_at hl 0 rfl) ?_
    refine lv_ifnonnull (tgt := 13) hx hb dX10_keep_7 (by decide) ?_
    refine lv_aload_n hx hb dX10_keep_13 rfl (lv_at hl 0 rfl) ?_
    refine xget (ref := "AbsentPraise$Image") (T := TX3) (v := .ref (X.2.1 (117 + 5 * (t_3 - 30)))) hC hP hin_X3 (xo_M hk_4) rfl 0 (by decide) (List.mem_of_getElem? (i := 2) rfl) rfl rfl dX10_keep_14 ?_
    refine lv_aload_n hx hb dX10_keep_17 rfl (lv_at hl 1 rfl) ?_
    refine xget (ref := "AbsentPraise") (T := TX10) (v := .ref (X.2.1 32)) hC hP hin_X10 xo_X10 rfl 2 (by decide) (List.mem_of_getElem? (i := 3) rfl) rfl rfl dX10_keep_18 ?_
    have hn_5 : s_X7_copyFrom S (117 + 5 * (t_3 - 30)) 32 := (nl ((nr hs) t_3 hq_2))
    refine xcV_vW (b := (117 + 5 * (t_3 - 30))) (As := [.ref (X.2.1 32)]) (rest := []) hC hP hS (k_X7_copyFrom l X S (117 + 5 * (t_3 - 30)) 32 (isT_M hk_4) (by decide) hn_5) (cwV 1 hts gX10_keep_X7_copyFrom rfl rfl rfl hd_X7_copyFrom ⟨Nat.le_of_ble_eq_true rfl, Nat.le_of_ble_eq_true rfl⟩) (xo_T (isT_M hk_4)) rfl rfl rfl hl.1 (Nat.le_of_ble_eq_true rfl) dX10_keep_21 (fun S_6 hS_6 H locs hP hS => ?_)
    refine lv_aload_n hx hb dX10_keep_24 rfl (lv_at hl 0 rfl) ?_
    refine lv_aload_n hx hb dX10_keep_25 rfl (lv_at hl 1 rfl) ?_
    refine xget (ref := "AbsentPraise") (T := TX10) (v := .ref (X.2.1 26)) hC hP hin_X10 xo_X10 rfl 8 (by decide) (List.mem_of_getElem? (i := 4) rfl) rfl rfl dX10_keep_26 ?_
    refine xget (ref := "AbsentPraise$Draws") (T := TX1) (v := .int (S_6 26 0)) hC hP hin_X1 xo_X1 rfl 0 (by decide) (List.mem_of_getElem? (i := 5) rfl) rfl rfl dX10_keep_29 ?_
    refine xput (ref := "AbsentPraise$Image") (T := TX3) (ty := .int) hC hP hS (isM_lt hk_4) hin_X3 tyX3 tyX3_ok nmX3 (xo_M hk_4) rfl 1 (by decide) (List.mem_of_getElem? (i := 6) rfl) rfl rfl rfl rfl rfl (Nat.le_of_ble_eq_true rfl) dX10_keep_32 (xn_X3_1 hk_4) (fun S_7 hS_7 H locs hP hS => ?_)
    refine lv_aload_n hx hb dX10_keep_35 rfl (lv_at hl 0 rfl) ?_
    refine lv_iconst (v := 1) hx hb dX10_keep_36 (by decide) ?_
    refine xput (ref := "AbsentPraise$Image") (T := TX3) (ty := .boolean) hC hP hS (isM_lt hk_4) hin_X3 tyX3 tyX3_ok nmX3 (xo_M hk_4) rfl 2 (by decide) (List.mem_of_getElem? (i := 7) rfl) rfl rfl rfl rfl rfl (Nat.le_of_ble_eq_true rfl) dX10_keep_37 (xn_X3_2 hk_4) (fun S_8 hS_8 H locs hP hS => ?_)
    refine lv_aload_n hx hb dX10_keep_40 rfl (lv_at hl 1 rfl) ?_
    refine xget (ref := "AbsentPraise") (T := TX10) (v := .ref (X.2.1 27)) hC hP hin_X10 xo_X10 rfl 5 (by decide) (List.mem_of_getElem? (i := 8) rfl) rfl rfl dX10_keep_41 ?_
    refine xcV_vW (b := 27) (As := []) (rest := []) hC hP hS (k_X6_forget l X S_8) (cwV 0 hts gX10_keep_X6_forget rfl rfl rfl hd_X6_forget ⟨Nat.le_of_ble_eq_true rfl, Nat.le_of_ble_eq_true rfl⟩) xo_X6 rfl rfl rfl hl.1 (Nat.le_of_ble_eq_true rfl) dX10_keep_44 (fun S_9 hS_9 H locs hP hS => ?_)
    refine lv_iconst (v := 1) hx hb dX10_keep_47 (by decide) ?_
    exact xret_iW hC hP hS hb hr ((by have hS_6 := hS_6.symm; have hS_7 := hS_7.symm; have hS_8 := hS_8.symm; have hS_9 := hS_9.symm; subst hS_6 hS_7 hS_8 hS_9; exact (oe_s hq_2 rfl))) dX10_keep_48 hlocks
theorem hd_X10_goBack : yX10_goBack.cls = RX10 ∧ yX10_goBack.cls ≠ "java/lang/invoke/MethodHandle" ∧ yX10_goBack.cls ≠ "java/lang/invoke/VarHandle" ∧ (parseMethodDescriptor yX10_goBack.desc).map (fun d => d.parameters.length) = some 1 := by decide +kernel
set_option maxHeartbeats 4000000 in
set_option maxRecDepth 100000 in
theorem k_X10_goBack (l : Launch) (X : xX) (S : xS) (p0 : Int32) (hs : s_X10_goBack S p0) : Met l yX10_goBack wsX10_goBack ({ frames := 3, cells := 0, slots := 0, locals := 82 } : Room) (va_Pc [.ref (X.2.1 0), .int p0] (xI X S)) (va_Qi (fun (r : Int32) (u : xS) => r = (f_X10_goBack S p0).1 ∧ u = (f_X10_goBack S p0).2) (xI X) (xA X)) 0 0 (xA X) := by
  refine Met.ofW (cc := cX10_goBack) (maxL := 3) (ret := (some .int)) (by decide +kernel) rfl ?_
  intro p e s m args below meth c s₁ B hml hv
  obtain ⟨rfl, hP, hK, hN, hJ⟩ := hv
  have hx := B.exec
  have hb := B.bytes
  have hr := B.returns
  have hts := atoms_spec (ws := wsX10_goBack) B.pre
  have hown : s.vm.findClass RX10 = some m.cls := findClass_of_methodNamed B.named
  have hlocks := B.notSynchronized
  have hC : xC X p m c cX10_goBack 3 s _ wsX10_goBack RX10 := ⟨⟨hx, hb, hml, hown, hts⟩, hK, hN, hJ⟩
  have hS : va_S (xA X) s.heap s.heap [] := va_S.rf
  have hin_X1 : ∀ w ∈ u_ws RX1 TX1 1, w ∈ wsX10_goBack := by decide +kernel
  have hin_X10 : ∀ w ∈ u_ws RX10 TX10 10, w ∈ wsX10_goBack := by decide +kernel
  have hin_X3 : ∀ w ∈ u_ws RX3 TX3 3, w ∈ wsX10_goBack := by decide +kernel
  have hl := lv_entry ([.ref (X.2.1 0), .int p0]) (n := 3) (Nat.le_of_ble_eq_true rfl)
  rw [lg_entry_eq]
  generalize (lg_sl ([.ref (X.2.1 0), .int p0]) ++ List.replicate (3 - (lg_sl ([.ref (X.2.1 0), .int p0])).length) Slot.unset).toArray = ls at hl ⊢
  have hl : lv_has ls 3 [(0, .ref (X.2.1 0)), (1, .int p0)] := hl
  refine lv_aload_n hx hb dX10_goBack_0 rfl (lv_at hl 0 rfl) ?_
  refine lv_iload_n hx hb dX10_goBack_1 rfl (lv_at hl 1 rfl) ?_
  refine xcV_qR (b := 0) (As := [.int p0]) (rest := []) hC hP hS (k_X10_imageAt l X S p0) (cwV 1 hts gX10_goBack_X10_imageAt rfl rfl rfl hd_X10_imageAt ⟨Nat.le_of_ble_eq_true rfl, Nat.le_of_ble_eq_true rfl⟩) xo_X10 rfl rfl rfl hl.1 (Nat.le_of_ble_eq_true rfl) dX10_goBack_2 (fun r_1 hr_1 H locs hP hS => ?_)
  rcases hq_2 : f_X10_imageAt S p0 with _ | t_3
  · rw [hq_2] at hr_1
    subst hr_1
    refine W.eq (g2 := F0 m 5 ls (.null :: [])) rfl ?_
    refine lv_astore_nN (lv' := [(2, .null), (0, .ref (X.2.1 0)), (1, .int p0)]) hx hb dX10_goBack_5 rfl hl (by decide) rfl (fun ls hl => ?_)
    refine lv_aload_nN hx hb dX10_goBack_6 rfl (lv_at hl 0 rfl) ?_
    refine lv_ifnonnullN hx hb dX10_goBack_7 ?_
    refine lv_ldc (v := (-1000000001)) hx hb hown (hts (.constant RX10 162 (-1000000001)) (List.mem_of_getElem? (i := 1) rfl)) dX10_goBack_10 ?_
    exact xret_iW hC hP hS hb hr (((oe_n hq_2 rfl))) dX10_goBack_12 hlocks
  · rw [hq_2] at hr_1
    subst hr_1
    refine W.eq (g2 := F0 m 5 ls (.ref (X.2.1 t_3) :: [])) rfl ?_
    have hk_4 : isM t_3 = true := kd_X10_imageAt hq_2
    refine lv_astore_n (lv' := [(2, .ref (X.2.1 t_3)), (0, .ref (X.2.1 0)), (1, .int p0)]) hx hb dX10_goBack_5 rfl hl (by decide) rfl (fun ls hl => ?_)
    refine lv_aload_n hx hb dX10_goBack_6 rfl (lv_at hl 0 rfl) ?_
    refine lv_ifnonnull (tgt := 13) hx hb dX10_goBack_7 (by decide) ?_
    refine lv_aload_n hx hb dX10_goBack_13 rfl (lv_at hl 0 rfl) ?_
    refine xget (ref := "AbsentPraise$Image") (T := TX3) (v := .int (S t_3 2)) hC hP hin_X3 (xo_M hk_4) rfl 2 (by decide) (List.mem_of_getElem? (i := 2) rfl) rfl rfl dX10_goBack_14 ?_
    refine lv_if_ne (tgt := 23) hx hb dX10_goBack_17 (by decide) (fun c_5 => ?_) (fun c_5 => ?_)
    · refine lv_aload_n hx hb dX10_goBack_23 rfl (lv_at hl 1 rfl) ?_
      refine xget (ref := "AbsentPraise") (T := TX10) (v := .ref (X.2.1 32)) hC hP hin_X10 xo_X10 rfl 2 (by decide) (List.mem_of_getElem? (i := 4) rfl) rfl rfl dX10_goBack_24 ?_
      refine lv_aload_n hx hb dX10_goBack_27 rfl (lv_at hl 0 rfl) ?_
      refine xget (ref := "AbsentPraise$Image") (T := TX3) (v := .ref (X.2.1 (117 + 5 * (t_3 - 30)))) hC hP hin_X3 (xo_M hk_4) rfl 0 (by decide) (List.mem_of_getElem? (i := 5) rfl) rfl rfl dX10_goBack_28 ?_
      have hn_6 : s_X7_copyFrom S 32 (117 + 5 * (t_3 - 30)) := (nl (sn ((nr hs) t_3 hq_2) c_5))
      refine xcV_vW (b := 32) (As := [.ref (X.2.1 (117 + 5 * (t_3 - 30)))]) (rest := []) hC hP hS (k_X7_copyFrom l X S 32 (117 + 5 * (t_3 - 30)) (by decide) (isT_M hk_4) hn_6) (cwV 1 hts gX10_goBack_X7_copyFrom rfl rfl rfl hd_X7_copyFrom ⟨Nat.le_of_ble_eq_true rfl, Nat.le_of_ble_eq_true rfl⟩) (xo_T (by decide)) rfl rfl rfl hl.1 (Nat.le_of_ble_eq_true rfl) dX10_goBack_31 (fun S_7 hS_7 H locs hP hS => ?_)
      refine lv_aload_n hx hb dX10_goBack_34 rfl (lv_at hl 1 rfl) ?_
      refine xget (ref := "AbsentPraise") (T := TX10) (v := .ref (X.2.1 26)) hC hP hin_X10 xo_X10 rfl 8 (by decide) (List.mem_of_getElem? (i := 6) rfl) rfl rfl dX10_goBack_35 ?_
      refine lv_aload_n hx hb dX10_goBack_38 rfl (lv_at hl 0 rfl) ?_
      refine xget (ref := "AbsentPraise$Image") (T := TX3) (v := .int (S_7 t_3 1)) hC hP hin_X3 (xo_M hk_4) rfl 1 (by decide) (List.mem_of_getElem? (i := 7) rfl) rfl rfl dX10_goBack_39 ?_
      refine xput (ref := "AbsentPraise$Draws") (T := TX1) (ty := .int) hC hP hS (by decide) hin_X1 tyX1 tyX1_ok nmX1 xo_X1 rfl 0 (by decide) (List.mem_of_getElem? (i := 8) rfl) rfl rfl rfl rfl rfl (Nat.le_of_ble_eq_true rfl) dX10_goBack_42 rfl (fun S_8 hS_8 H locs hP hS => ?_)
      refine lv_aload_n hx hb dX10_goBack_45 rfl (lv_at hl 1 rfl) ?_
      refine xget (ref := "AbsentPraise") (T := TX10) (v := .ref (X.2.1 27)) hC hP hin_X10 xo_X10 rfl 5 (by decide) (List.mem_of_getElem? (i := 9) rfl) rfl rfl dX10_goBack_46 ?_
      refine xcV_vW (b := 27) (As := []) (rest := []) hC hP hS (k_X6_forget l X S_8) (cwV 0 hts gX10_goBack_X6_forget rfl rfl rfl hd_X6_forget ⟨Nat.le_of_ble_eq_true rfl, Nat.le_of_ble_eq_true rfl⟩) xo_X6 rfl rfl rfl hl.1 (Nat.le_of_ble_eq_true rfl) dX10_goBack_49 (fun S_9 hS_9 H locs hP hS => ?_)
      refine lv_iconst (v := 1) hx hb dX10_goBack_52 (by decide) ?_
      exact xret_iW hC hP hS hb hr ((by have hS_7 := hS_7.symm; have hS_8 := hS_8.symm; have hS_9 := hS_9.symm; subst hS_7 hS_8 hS_9; exact (oe_s hq_2 (iN c_5 rfl)))) dX10_goBack_53 hlocks
    · refine lv_ldc (v := (-1000000003)) hx hb hown (hts (.constant RX10 227 (-1000000003)) (List.mem_of_getElem? (i := 3) rfl)) dX10_goBack_20 ?_
      exact xret_iW hC hP hS hb hr (((oe_s hq_2 (ip c_5 rfl)))) dX10_goBack_22 hlocks
