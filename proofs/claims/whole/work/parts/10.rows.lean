set_option linter.all false
/-! contracts: X10_put, X0_add, X10_at, X0_firstWrong, X1_next, J7_fill_53178, X2_clear, X10_copy, X2_copyFrom, X2_isTold -/
theorem hs_X10_put : yX10_put.cls ≠ "java/lang/invoke/MethodHandle" ∧ yX10_put.cls ≠ "java/lang/invoke/VarHandle" ∧ (parseMethodDescriptor yX10_put.desc).map (fun d => d.parameters.length) = some 3 := by decide +kernel
set_option maxHeartbeats 4000000 in
set_option maxRecDepth 100000 in
theorem k_X10_put (l : Launch) (X : xX) (S : xS) (k0 : Nat) (p1 : Int32) (p2 : Int32) (hk0 : isI k0 = true) : Met l yX10_put wsX10_put ({ frames := 0, cells := 0, slots := 0, locals := 0 } : Room) (va_Pc [.ref (X.2.1 k0), .int p1, .int p2] (xI X S)) (va_Qv (fun u : xS => u = (f_X10_put S k0 p1 p2)) (xI X) (xA X)) 0 0 (xA X) := by
  refine Met.ofW (cc := cX10_put) (maxL := 3) (ret := none) (by decide +kernel) rfl ?_
  intro p e s m args below meth c s₁ B hml hv
  obtain ⟨rfl, hP, hK, hN, hJ⟩ := hv
  have hx := B.exec
  have hb := B.bytes
  have hr := B.returns
  have hts := atoms_spec (ws := wsX10_put) B.pre
  have hown : s.vm.findClass RX10 = some m.cls := findClass_of_methodNamed B.named
  have hlocks := B.notSynchronized
  have hC : xC X p m c cX10_put 3 s _ wsX10_put RX10 := ⟨⟨hx, hb, hml, hown, hts⟩, hK, hN, hJ⟩
  have hS : va_S (xA X) s.heap s.heap [] := va_S.rf
  have hl := lv_entry ([.ref (X.2.1 k0), .int p1, .int p2]) (n := 3) (Nat.le_of_ble_eq_true rfl)
  rw [lg_entry_eq]
  generalize (lg_sl ([.ref (X.2.1 k0), .int p1, .int p2]) ++ List.replicate (3 - (lg_sl ([.ref (X.2.1 k0), .int p1, .int p2])).length) Slot.unset).toArray = ls at hl ⊢
  have hl : lv_has ls 3 [(0, .ref (X.2.1 k0)), (1, .int p1), (2, .int p2)] := hl
  refine lv_iload_n hx hb dX10_put_0 rfl (lv_at hl 1 rfl) ?_
  refine lv_if_lt (tgt := 14) hx hb dX10_put_1 (by decide) (fun c_1 => ?_) (fun c_1 => ?_)
  · exact xret_v hC hP hS hb hr (((ip c_1 rfl))) dX10_put_14 hlocks
  · refine lv_iload_n hx hb dX10_put_4 rfl (lv_at hl 1 rfl) ?_
    refine lv_aload_n hx hb dX10_put_5 rfl (lv_at hl 0 rfl) ?_
    refine xalen hC hP hk0 dX10_put_6 ?_
    refine lv_icmp_ge (tgt := 14) hx hb dX10_put_7 (by decide) (fun c_2 => ?_) (fun c_2 => ?_)
    · exact xret_v hC hP hS hb hr (((iN c_1 (ip c_2 rfl)))) dX10_put_14 hlocks
    · refine lv_aload_n hx hb dX10_put_10 rfl (lv_at hl 0 rfl) ?_
      refine lv_iload_n hx hb dX10_put_11 rfl (lv_at hl 1 rfl) ?_
      refine lv_iload_n hx hb dX10_put_12 rfl (lv_at hl 2 rfl) ?_
      refine xiast hC hP hS hk0 (vp_of (xlen_lt _) c_1 c_2) dX10_put_13 (fun S_3 hS_3 H locs hP hS => ?_)
      exact xret_v hC hP hS hb hr ((by have hS_3 := hS_3.symm; subst hS_3; exact (iN c_1 (iN c_2 rfl)))) dX10_put_14 hlocks
theorem hd_X0_add : yX0_add.cls = RX0 ∧ yX0_add.cls ≠ "java/lang/invoke/MethodHandle" ∧ yX0_add.cls ≠ "java/lang/invoke/VarHandle" ∧ (parseMethodDescriptor yX0_add.desc).map (fun d => d.parameters.length) = some 2 := by decide +kernel
set_option maxHeartbeats 4000000 in
set_option maxRecDepth 100000 in
theorem k_X0_add (l : Launch) (X : xX) (S : xS) (p0 : Int32) (p1 : Int32) : Met l yX0_add wsX0_add ({ frames := 1, cells := 0, slots := 0, locals := 22 } : Room) (va_Pc [.ref (X.2.1 23), .int p0, .int p1] (xI X S)) (va_Qi (fun (r : Int32) (u : xS) => r = (f_X0_add S p0 p1).1 ∧ u = (f_X0_add S p0 p1).2) (xI X) (xA X)) 0 0 (xA X) := by
  refine Met.ofW (cc := cX0_add) (maxL := 3) (ret := (some .int)) (by decide +kernel) rfl ?_
  intro p e s m args below meth c s₁ B hml hv
  obtain ⟨rfl, hP, hK, hN, hJ⟩ := hv
  have hx := B.exec
  have hb := B.bytes
  have hr := B.returns
  have hts := atoms_spec (ws := wsX0_add) B.pre
  have hown : s.vm.findClass RX0 = some m.cls := findClass_of_methodNamed B.named
  have hlocks := B.notSynchronized
  have hC : xC X p m c cX0_add 3 s _ wsX0_add RX0 := ⟨⟨hx, hb, hml, hown, hts⟩, hK, hN, hJ⟩
  have hS : va_S (xA X) s.heap s.heap [] := va_S.rf
  have hin_X0 : ∀ w ∈ u_ws RX0 TX0 3, w ∈ wsX0_add := by decide +kernel
  have hl := lv_entry ([.ref (X.2.1 23), .int p0, .int p1]) (n := 3) (Nat.le_of_ble_eq_true rfl)
  rw [lg_entry_eq]
  generalize (lg_sl ([.ref (X.2.1 23), .int p0, .int p1]) ++ List.replicate (3 - (lg_sl ([.ref (X.2.1 23), .int p0, .int p1])).length) Slot.unset).toArray = ls at hl ⊢
  have hl : lv_has ls 3 [(0, .ref (X.2.1 23)), (1, .int p0), (2, .int p1)] := hl
  refine lv_aload_n hx hb dX0_add_0 rfl (lv_at hl 0 rfl) ?_
  refine xget (ref := "AbsentPraise$Book") (T := TX0) (v := .ref (X.2.1 24)) hC hP hin_X0 xo_X0 rfl 0 (by decide) (List.mem_of_getElem? (i := 1) rfl) rfl rfl dX0_add_1 ?_
  refine lv_aload_n hx hb dX0_add_4 rfl (lv_at hl 0 rfl) ?_
  refine xget (ref := "AbsentPraise$Book") (T := TX0) (v := .int (S 23 2)) hC hP hin_X0 xo_X0 rfl 2 (by decide) (List.mem_of_getElem? (i := 2) rfl) rfl rfl dX0_add_5 ?_
  refine lv_iload_n hx hb dX0_add_8 rfl (lv_at hl 1 rfl) ?_
  refine xcSN_vW (As := [.ref (X.2.1 24), .int (S 23 2), .int p0]) (rest := []) hC hP hS (k_X10_put l X S 24 (S 23 2) p0 rfl) (va_cnB (host := "AbsentPraise") 3 hts gX0_add_X10_put_n22 rfl rfl rfl (xn_27 hN) (hts (.initialized RX10) (List.mem_of_getElem? (i := 5) rfl)) hs_X10_put ⟨Nat.le_of_ble_eq_true rfl, Nat.le_of_ble_eq_true rfl⟩) (hts (.static yX10_put) (List.mem_of_getElem? (i := 4) rfl)) rfl rfl hl.1 (Nat.le_of_ble_eq_true rfl) dX0_add_9 (fun S_1 hS_1 H locs hP hS => ?_)
  refine lv_aload_n hx hb dX0_add_12 rfl (lv_at hl 0 rfl) ?_
  refine xget (ref := "AbsentPraise$Book") (T := TX0) (v := .ref (X.2.1 25)) hC hP hin_X0 xo_X0 rfl 1 (by decide) (List.mem_of_getElem? (i := 3) rfl) rfl rfl dX0_add_13 ?_
  refine lv_aload_n hx hb dX0_add_16 rfl (lv_at hl 0 rfl) ?_
  refine xget (ref := "AbsentPraise$Book") (T := TX0) (v := .int (S_1 23 2)) hC hP hin_X0 xo_X0 rfl 2 (by decide) (List.mem_of_getElem? (i := 2) rfl) rfl rfl dX0_add_17 ?_
  refine lv_iload_n hx hb dX0_add_20 rfl (lv_at hl 2 rfl) ?_
  refine xcSN_vW (As := [.ref (X.2.1 25), .int (S_1 23 2), .int p1]) (rest := []) hC hP hS (k_X10_put l X S_1 25 (S_1 23 2) p1 rfl) (va_cnB (host := "AbsentPraise") 3 hts gX0_add_X10_put_n22 rfl rfl rfl (xn_27 hN) (hts (.initialized RX10) (List.mem_of_getElem? (i := 5) rfl)) hs_X10_put ⟨Nat.le_of_ble_eq_true rfl, Nat.le_of_ble_eq_true rfl⟩) (hts (.static yX10_put) (List.mem_of_getElem? (i := 4) rfl)) rfl rfl hl.1 (Nat.le_of_ble_eq_true rfl) dX0_add_21 (fun S_2 hS_2 H locs hP hS => ?_)
  refine lv_aload_n hx hb dX0_add_24 rfl (lv_at hl 0 rfl) ?_
  refine lv_dup hx hb dX0_add_25 rfl ?_
  refine xget (ref := "AbsentPraise$Book") (T := TX0) (v := .int (S_2 23 2)) hC hP hin_X0 xo_X0 rfl 2 (by decide) (List.mem_of_getElem? (i := 2) rfl) rfl rfl dX0_add_26 ?_
  refine lv_iconst (v := 1) hx hb dX0_add_29 (by decide) ?_
  refine lv_iadd hx hb dX0_add_30 ?_
  refine xput (ref := "AbsentPraise$Book") (T := TX0) (ty := .int) hC hP hS (by decide) hin_X0 tyX0 tyX0_ok nmX0 xo_X0 rfl 2 (by decide) (List.mem_of_getElem? (i := 2) rfl) rfl rfl rfl rfl rfl (Nat.le_of_ble_eq_true rfl) dX0_add_31 rfl (fun S_3 hS_3 H locs hP hS => ?_)
  refine lv_aload_n hx hb dX0_add_34 rfl (lv_at hl 0 rfl) ?_
  refine xget (ref := "AbsentPraise$Book") (T := TX0) (v := .int (S_3 23 2)) hC hP hin_X0 xo_X0 rfl 2 (by decide) (List.mem_of_getElem? (i := 2) rfl) rfl rfl dX0_add_35 ?_
  exact xret_iW hC hP hS hb hr ((by have hS_1 := hS_1.symm; have hS_2 := hS_2.symm; have hS_3 := hS_3.symm; subst hS_1 hS_2 hS_3; exact rfl)) dX0_add_38 hlocks
theorem hs_X10_at : yX10_at.cls ≠ "java/lang/invoke/MethodHandle" ∧ yX10_at.cls ≠ "java/lang/invoke/VarHandle" ∧ (parseMethodDescriptor yX10_at.desc).map (fun d => d.parameters.length) = some 2 := by decide +kernel
set_option maxHeartbeats 4000000 in
set_option maxRecDepth 100000 in
theorem k_X10_at (l : Launch) (X : xX) (S : xS) (k0 : Nat) (p1 : Int32) (hk0 : isI k0 = true) : Met l yX10_at wsX10_at ({ frames := 0, cells := 0, slots := 0, locals := 0 } : Room) (va_Pc [.ref (X.2.1 k0), .int p1] (xI X S)) (va_Qi (fun (r : Int32) (u : xS) => r = (f_X10_at S k0 p1) ∧ u = S) (xI X) (xA X)) 0 0 (xA X) := by
  refine Met.ofW (cc := cX10_at) (maxL := 2) (ret := (some .int)) (by decide +kernel) rfl ?_
  intro p e s m args below meth c s₁ B hml hv
  obtain ⟨rfl, hP, hK, hN, hJ⟩ := hv
  have hx := B.exec
  have hb := B.bytes
  have hr := B.returns
  have hts := atoms_spec (ws := wsX10_at) B.pre
  have hown : s.vm.findClass RX10 = some m.cls := findClass_of_methodNamed B.named
  have hlocks := B.notSynchronized
  have hC : xC X p m c cX10_at 2 s _ wsX10_at RX10 := ⟨⟨hx, hb, hml, hown, hts⟩, hK, hN, hJ⟩
  have hS : va_S (xA X) s.heap s.heap [] := va_S.rf
  have hl := lv_entry ([.ref (X.2.1 k0), .int p1]) (n := 2) (Nat.le_of_ble_eq_true rfl)
  rw [lg_entry_eq]
  generalize (lg_sl ([.ref (X.2.1 k0), .int p1]) ++ List.replicate (2 - (lg_sl ([.ref (X.2.1 k0), .int p1])).length) Slot.unset).toArray = ls at hl ⊢
  have hl : lv_has ls 2 [(0, .ref (X.2.1 k0)), (1, .int p1)] := hl
  refine lv_iload_n hx hb dX10_at_0 rfl (lv_at hl 1 rfl) ?_
  refine lv_if_lt (tgt := 16) hx hb dX10_at_1 (by decide) (fun c_1 => ?_) (fun c_1 => ?_)
  · refine lv_iconst (v := 0) hx hb dX10_at_16 (by decide) ?_
    exact xret_iR hC hP hS hb hr (((ip c_1 rfl))) dX10_at_17 hlocks
  · refine lv_iload_n hx hb dX10_at_4 rfl (lv_at hl 1 rfl) ?_
    refine lv_aload_n hx hb dX10_at_5 rfl (lv_at hl 0 rfl) ?_
    refine xalen hC hP hk0 dX10_at_6 ?_
    refine lv_icmp_ge (tgt := 16) hx hb dX10_at_7 (by decide) (fun c_2 => ?_) (fun c_2 => ?_)
    · refine lv_iconst (v := 0) hx hb dX10_at_16 (by decide) ?_
      exact xret_iR hC hP hS hb hr (((iN c_1 (ip c_2 rfl)))) dX10_at_17 hlocks
    · refine lv_aload_n hx hb dX10_at_10 rfl (lv_at hl 0 rfl) ?_
      refine lv_iload_n hx hb dX10_at_11 rfl (lv_at hl 1 rfl) ?_
      refine xiald hC hP hk0 (vp_of (xlen_lt _) c_1 c_2) dX10_at_12 ?_
      refine lv_goto (tgt := 17) hx hb dX10_at_13 (by decide) ?_
      exact xret_iR hC hP hS hb hr (((iN c_1 (iN c_2 rfl)))) dX10_at_17 hlocks
theorem hd_X0_firstWrong : yX0_firstWrong.cls = RX0 ∧ yX0_firstWrong.cls ≠ "java/lang/invoke/MethodHandle" ∧ yX0_firstWrong.cls ≠ "java/lang/invoke/VarHandle" ∧ (parseMethodDescriptor yX0_firstWrong.desc).map (fun d => d.parameters.length) = some 1 := by decide +kernel
set_option maxHeartbeats 4000000 in
set_option maxRecDepth 100000 in
theorem k_X0_firstWrong (l : Launch) (X : xX) (S : xS) (k0 : Nat) (hk0 : isT k0 = true) (hs : s_X0_firstWrong S k0) : Met l yX0_firstWrong wsX0_firstWrong ({ frames := 1, cells := 0, slots := 0, locals := 21 } : Room) (va_Pc [.ref (X.2.1 23), .ref (X.2.1 k0)] (xI X S)) (va_Qi (fun (r : Int32) (u : xS) => r = (f_X0_firstWrong S k0) ∧ u = S) (xI X) (xA X)) 0 0 (xA X) := by
  refine Met.ofW (cc := cX0_firstWrong) (maxL := 3) (ret := (some .int)) (by decide +kernel) rfl ?_
  intro p e s m args below meth c s₁ B hml hv
  obtain ⟨rfl, hP, hK, hN, hJ⟩ := hv
  have hx := B.exec
  have hb := B.bytes
  have hr := B.returns
  have hts := atoms_spec (ws := wsX0_firstWrong) B.pre
  have hown : s.vm.findClass RX0 = some m.cls := findClass_of_methodNamed B.named
  have hlocks := B.notSynchronized
  have hC : xC X p m c cX0_firstWrong 3 s _ wsX0_firstWrong RX0 := ⟨⟨hx, hb, hml, hown, hts⟩, hK, hN, hJ⟩
  have hS : va_S (xA X) s.heap s.heap [] := va_S.rf
  have hin_X0 : ∀ w ∈ u_ws RX0 TX0 3, w ∈ wsX0_firstWrong := by decide +kernel
  have hin_X7 : ∀ w ∈ u_ws RX7 TX7 6, w ∈ wsX0_firstWrong := by decide +kernel
  have hl := lv_entry ([.ref (X.2.1 23), .ref (X.2.1 k0)]) (n := 3) (Nat.le_of_ble_eq_true rfl)
  rw [lg_entry_eq]
  generalize (lg_sl ([.ref (X.2.1 23), .ref (X.2.1 k0)]) ++ List.replicate (3 - (lg_sl ([.ref (X.2.1 23), .ref (X.2.1 k0)])).length) Slot.unset).toArray = ls at hl ⊢
  have hl : lv_has ls 3 [(0, .ref (X.2.1 23)), (1, .ref (X.2.1 k0))] := hl
  refine lv_iconst (v := 0) hx hb dX0_firstWrong_0 (by decide) ?_
  refine lv_istore_n (lv' := [(2, .int 0), (0, .ref (X.2.1 23)), (1, .ref (X.2.1 k0))]) hx hb dX0_firstWrong_1 rfl hl (by decide) rfl (fun ls hl => ?_)
  have hLp_2 : ∀ (n : Nat) (x2_2 : Int32), s_X0_firstWrong_L2 n S k0 x2_2 → (∀ q : Unit, f_X0_firstWrong_L2 n S k0 x2_2 = .inr q → (∀ (H : Heap) (locs : List Loc), va_P X.1 vwCl (xW X S) H → va_S (xA X) s.heap H locs → ∀ (ls : Array Slot), lv_has ls 3 [] → W p l e ({ frames := 1, cells := 0, slots := 0, locals := 21 } : Room) s m ([.ref (X.2.1 23), .ref (X.2.1 k0)] : List Value).toArray below meth c H locs 0 0 (MQ below (va_Qi (fun (r : Int32) (u : xS) => r = (f_X0_firstWrong S k0) ∧ u = S) (xI X) (xA X)) ([.ref (X.2.1 23), .ref (X.2.1 k0)] : List Value).toArray s 0 0 (xA X)) (F0 m 44 ls []))) → (∀ r : Int32, f_X0_firstWrong_L2 n S k0 x2_2 = .inl r → ∀ (H : Heap) (locs : List Loc), va_P X.1 vwCl (xW X S) H → va_S (xA X) s.heap H locs → ∀ (pc : Nat) (ls : Array Slot), decode cX0_firstWrong pc = .ok (.ireturn, 1) → W p l e ({ frames := 1, cells := 0, slots := 0, locals := 21 } : Room) s m ([.ref (X.2.1 23), .ref (X.2.1 k0)] : List Value).toArray below meth c H locs 0 0 (MQ below (va_Qi (fun (r : Int32) (u : xS) => r = (f_X0_firstWrong S k0) ∧ u = S) (xI X) (xA X)) ([.ref (X.2.1 23), .ref (X.2.1 k0)] : List Value).toArray s 0 0 (xA X)) (F0 m pc ls [.int r])) → ∀ (H : Heap) (locs : List Loc), va_P X.1 vwCl (xW X S) H → va_S (xA X) s.heap H locs → ∀ (ls : Array Slot), lv_has ls 3 [(0, .ref (X.2.1 23)), (1, .ref (X.2.1 k0)), (2, .int x2_2)] → W p l e ({ frames := 1, cells := 0, slots := 0, locals := 21 } : Room) s m ([.ref (X.2.1 23), .ref (X.2.1 k0)] : List Value).toArray below meth c H locs 0 0 (MQ below (va_Qi (fun (r : Int32) (u : xS) => r = (f_X0_firstWrong S k0) ∧ u = S) (xI X) (xA X)) ([.ref (X.2.1 23), .ref (X.2.1 k0)] : List Value).toArray s 0 0 (xA X)) (F0 m 2 ls []) := by
    intro n
    induction n with
    | zero => intro x2_2 hs; exact hs.elim
    | succ n ih_2 =>
      intro x2_2 hs_2 hex_2 hret_2 H locs hP hS ls hl
      refine lv_iload_n hx hb dX0_firstWrong_2 rfl (lv_at hl 2 rfl) ?_
      refine lv_aload_n hx hb dX0_firstWrong_3 rfl (lv_at hl 0 rfl) ?_
      refine xget (ref := "AbsentPraise$Book") (T := TX0) (v := .int (S 23 2)) hC hP hin_X0 xo_X0 rfl 2 (by decide) (List.mem_of_getElem? (i := 1) rfl) rfl rfl dX0_firstWrong_4 ?_
      refine lv_icmp_ge (tgt := 44) hx hb dX0_firstWrong_7 (by decide) (fun c_1 => ?_) (fun c_1 => ?_)
      · have he_2 : f_X0_firstWrong_L2 (n + 1) S k0 x2_2 = .inr () := ((ip c_1 rfl))
        exact hex_2 _ he_2 _ _ hP hS ls (lv_sub hl [] rfl)
      · refine lv_aload_n hx hb dX0_firstWrong_10 rfl (lv_at hl 0 rfl) ?_
        refine xget (ref := "AbsentPraise$Book") (T := TX0) (v := .ref (X.2.1 25)) hC hP hin_X0 xo_X0 rfl 1 (by decide) (List.mem_of_getElem? (i := 2) rfl) rfl rfl dX0_firstWrong_11 ?_
        refine lv_iload_n hx hb dX0_firstWrong_14 rfl (lv_at hl 2 rfl) ?_
        refine xcSN_iR (As := [.ref (X.2.1 25), .int x2_2]) (rest := []) hC hP hS (k_X10_at l X S 25 x2_2 rfl) (va_cnB (host := "AbsentPraise") 2 hts gX0_firstWrong_X10_at_n26 rfl rfl rfl (xn_28 hN) (hts (.initialized RX10) (List.mem_of_getElem? (i := 6) rfl)) hs_X10_at ⟨Nat.le_of_ble_eq_true rfl, Nat.le_of_ble_eq_true rfl⟩) (hts (.static yX10_at) (List.mem_of_getElem? (i := 5) rfl)) rfl rfl hl.1 (Nat.le_of_ble_eq_true rfl) dX0_firstWrong_15 (fun r_3 hr_3 H locs hP hS => ?_)
        refine lv_aload_n hx hb dX0_firstWrong_18 rfl (lv_at hl 1 rfl) ?_
        refine xget (ref := "AbsentPraise$Talk") (T := TX7) (v := .ref (X.2.1 (k0 + 2))) hC hP hin_X7 (xo_T hk0) rfl 1 (by decide) (List.mem_of_getElem? (i := 3) rfl) rfl rfl dX0_firstWrong_19 ?_
        refine lv_aload_n hx hb dX0_firstWrong_22 rfl (lv_at hl 0 rfl) ?_
        refine xget (ref := "AbsentPraise$Book") (T := TX0) (v := .ref (X.2.1 24)) hC hP hin_X0 xo_X0 rfl 0 (by decide) (List.mem_of_getElem? (i := 4) rfl) rfl rfl dX0_firstWrong_23 ?_
        refine lv_iload_n hx hb dX0_firstWrong_26 rfl (lv_at hl 2 rfl) ?_
        refine xcSN_iR (As := [.ref (X.2.1 24), .int x2_2]) (rest := [.ref (X.2.1 (k0 + 2)), .int r_3]) hC hP hS (k_X10_at l X S 24 x2_2 rfl) (va_cnB (host := "AbsentPraise") 2 hts gX0_firstWrong_X10_at_n26 rfl rfl rfl (xn_28 hN) (hts (.initialized RX10) (List.mem_of_getElem? (i := 6) rfl)) hs_X10_at ⟨Nat.le_of_ble_eq_true rfl, Nat.le_of_ble_eq_true rfl⟩) (hts (.static yX10_at) (List.mem_of_getElem? (i := 5) rfl)) rfl rfl hl.1 (Nat.le_of_ble_eq_true rfl) dX0_firstWrong_27 (fun r_4 hr_4 H locs hP hS => ?_)
        refine xcSN_iR (As := [.ref (X.2.1 (k0 + 2)), .int r_4]) (rest := [.int r_3]) hC hP hS (k_X10_at l X S (k0 + 2) r_4 (isI_T2 hk0)) (va_cnB (host := "AbsentPraise") 2 hts gX0_firstWrong_X10_at_n26 rfl rfl rfl (xn_28 hN) (hts (.initialized RX10) (List.mem_of_getElem? (i := 6) rfl)) hs_X10_at ⟨Nat.le_of_ble_eq_true rfl, Nat.le_of_ble_eq_true rfl⟩) (hts (.static yX10_at) (List.mem_of_getElem? (i := 5) rfl)) rfl rfl hl.1 (Nat.le_of_ble_eq_true rfl) dX0_firstWrong_30 (fun r_5 hr_5 H locs hP hS => ?_)
        refine lv_icmp_eq (tgt := 38) hx hb dX0_firstWrong_33 (by decide) (fun c_6 => ?_) (fun c_6 => ?_)
        · refine lv_iinc (v := (x2_2 + 1)) (lv' := [(2, .int (x2_2 + 1)), (0, .ref (X.2.1 23)), (1, .ref (X.2.1 k0))]) hx hb dX0_firstWrong_38 hl (k := 2) rfl rfl (by decide) rfl (fun ls hl => ?_)
          refine lv_goto (tgt := 2) hx hb dX0_firstWrong_41 (by decide) ?_
          have he_7 : f_X0_firstWrong_L2 (n + 1) S k0 x2_2 = f_X0_firstWrong_L2 n S k0 (x2_2 + 1) := (by have hr_3 := hr_3.symm; have hr_4 := hr_4.symm; have hr_5 := hr_5.symm; subst hr_3 hr_4 hr_5; exact (iN c_1 (ip c_6 rfl)))
          exact ih_2 (x2_2 + 1) (by have hr_3 := hr_3.symm; have hr_4 := hr_4.symm; have hr_5 := hr_5.symm; subst hr_3 hr_4 hr_5; exact (sp (sn hs_2 c_1) c_6)) (fun q hq => hex_2 q (he_7.trans hq)) (fun r hq => hret_2 r (he_7.trans hq)) _ _ hP hS ls (lv_sub hl [1, 2, 0] rfl)
        · refine lv_iload_n hx hb dX0_firstWrong_36 rfl (lv_at hl 2 rfl) ?_
          have he_8 : f_X0_firstWrong_L2 (n + 1) S k0 x2_2 = .inl (x2_2) := (by have hr_3 := hr_3.symm; have hr_4 := hr_4.symm; have hr_5 := hr_5.symm; subst hr_3 hr_4 hr_5; exact (iN c_1 (iN c_6 rfl)))
          exact hret_2 _ he_8 _ _ hP hS 37 ls dX0_firstWrong_37
  refine hLp_2 ((fu 0 (S 23 2))) 0 (nl hs) (fun q_2 hq_2 H locs hP hS ls hl => ?_) (fun r hr_2 H locs hP hS pc_2 ls hd_2 => ?_) _ _ hP hS ls (lv_sub hl [1, 2, 0] rfl)
  · refine lv_iconst (v := (-1)) hx hb dX0_firstWrong_44 (by decide) ?_
    exact xret_iR hC hP hS hb hr (((sm_r hq_2 rfl))) dX0_firstWrong_45 hlocks
  · exact xret_iR hC hP hS hb hr (((sm_l hr_2 rfl))) hd_2 hlocks
theorem hd_X1_next : yX1_next.cls = RX1 ∧ yX1_next.cls ≠ "java/lang/invoke/MethodHandle" ∧ yX1_next.cls ≠ "java/lang/invoke/VarHandle" ∧ (parseMethodDescriptor yX1_next.desc).map (fun d => d.parameters.length) = some 1 := by decide +kernel
set_option maxHeartbeats 4000000 in
set_option maxRecDepth 100000 in
theorem k_X1_next (l : Launch) (X : xX) (S : xS) (p0 : Int32) : Met l yX1_next wsX1_next ({ frames := 0, cells := 0, slots := 0, locals := 0 } : Room) (va_Pc [.ref (X.2.1 26), .int p0] (xI X S)) (va_Qi (fun (r : Int32) (u : xS) => r = (f_X1_next S p0).1 ∧ u = (f_X1_next S p0).2) (xI X) (xA X)) 0 0 (xA X) := by
  refine Met.ofW (cc := cX1_next) (maxL := 2) (ret := (some .int)) (by decide +kernel) rfl ?_
  intro p e s m args below meth c s₁ B hml hv
  obtain ⟨rfl, hP, hK, hN, hJ⟩ := hv
  have hx := B.exec
  have hb := B.bytes
  have hr := B.returns
  have hts := atoms_spec (ws := wsX1_next) B.pre
  have hown : s.vm.findClass RX1 = some m.cls := findClass_of_methodNamed B.named
  have hlocks := B.notSynchronized
  have hC : xC X p m c cX1_next 2 s _ wsX1_next RX1 := ⟨⟨hx, hb, hml, hown, hts⟩, hK, hN, hJ⟩
  have hS : va_S (xA X) s.heap s.heap [] := va_S.rf
  have hin_X1 : ∀ w ∈ u_ws RX1 TX1 1, w ∈ wsX1_next := by decide +kernel
  have hl := lv_entry ([.ref (X.2.1 26), .int p0]) (n := 2) (Nat.le_of_ble_eq_true rfl)
  rw [lg_entry_eq]
  generalize (lg_sl ([.ref (X.2.1 26), .int p0]) ++ List.replicate (2 - (lg_sl ([.ref (X.2.1 26), .int p0])).length) Slot.unset).toArray = ls at hl ⊢
  have hl : lv_has ls 2 [(0, .ref (X.2.1 26)), (1, .int p0)] := hl
  refine lv_aload_n hx hb dX1_next_0 rfl (lv_at hl 0 rfl) ?_
  refine lv_aload_n hx hb dX1_next_1 rfl (lv_at hl 0 rfl) ?_
  refine xget (ref := "AbsentPraise$Draws") (T := TX1) (v := .int (S 26 0)) hC hP hin_X1 xo_X1 rfl 0 (by decide) (List.mem_of_getElem? (i := 1) rfl) rfl rfl dX1_next_2 ?_
  refine lv_i2l (v := ((S 26 0) : Int32).toInt64) hx hb dX1_next_5 rfl ?_
  refine lv_ldc2 (v := 1103515245) hx hb hown (hts (.constantLong RX1 13 (1103515245)) (List.mem_of_getElem? (i := 2) rfl)) dX1_next_6 ?_
  refine lv_lmul hx hb dX1_next_9 ?_
  refine lv_ldc2 (v := 12345) hx hb hown (hts (.constantLong RX1 15 (12345)) (List.mem_of_getElem? (i := 3) rfl)) dX1_next_10 ?_
  refine lv_ladd hx hb dX1_next_13 ?_
  refine lv_ldc2 (v := 2147483647) hx hb hown (hts (.constantLong RX1 17 (2147483647)) (List.mem_of_getElem? (i := 4) rfl)) dX1_next_14 ?_
  refine lv_land hx hb dX1_next_17 ?_
  refine lv_l2i (v := ((((((S 26 0) : Int32).toInt64 * 1103515245) + 12345) &&& 2147483647)).toInt32) hx hb dX1_next_18 rfl ?_
  refine xput (ref := "AbsentPraise$Draws") (T := TX1) (ty := .int) hC hP hS (by decide) hin_X1 tyX1 tyX1_ok nmX1 xo_X1 rfl 0 (by decide) (List.mem_of_getElem? (i := 1) rfl) rfl rfl rfl rfl rfl (Nat.le_of_ble_eq_true rfl) dX1_next_19 rfl (fun S_1 hS_1 H locs hP hS => ?_)
  refine lv_iload_n hx hb dX1_next_22 rfl (lv_at hl 1 rfl) ?_
  refine lv_if_le (tgt := 38) hx hb dX1_next_23 (by decide) (fun c_2 => ?_) (fun c_2 => ?_)
  · refine lv_iconst (v := 0) hx hb dX1_next_38 (by decide) ?_
    exact xret_iW hC hP hS hb hr ((by have hS_1 := hS_1.symm; subst hS_1; exact (ip c_2 rfl))) dX1_next_39 hlocks
  · refine lv_aload_n hx hb dX1_next_26 rfl (lv_at hl 0 rfl) ?_
    refine xget (ref := "AbsentPraise$Draws") (T := TX1) (v := .int (S_1 26 0)) hC hP hin_X1 xo_X1 rfl 0 (by decide) (List.mem_of_getElem? (i := 1) rfl) rfl rfl dX1_next_27 ?_
    refine lv_ldc (v := 65536) hx hb hown (hts (.constant RX1 19 (65536)) (List.mem_of_getElem? (i := 5) rfl)) dX1_next_30 ?_
    refine lv_idiv hx hb dX1_next_32 (by decide) ?_
    refine lv_iload_n hx hb dX1_next_33 rfl (lv_at hl 1 rfl) ?_
    refine lv_irem hx hb dX1_next_34 (nz_of c_2) ?_
    refine lv_goto (tgt := 39) hx hb dX1_next_35 (by decide) ?_
    exact xret_iW hC hP hS hb hr ((by have hS_1 := hS_1.symm; subst hS_1; exact (iN c_2 rfl))) dX1_next_39 hlocks
theorem hs_J7_fill_53178 : yJ7_fill_53178.cls ≠ "java/lang/invoke/MethodHandle" ∧ yJ7_fill_53178.cls ≠ "java/lang/invoke/VarHandle" ∧ (parseMethodDescriptor yJ7_fill_53178.desc).map (fun d => d.parameters.length) = some 2 := by decide +kernel
set_option maxHeartbeats 4000000 in
set_option maxRecDepth 100000 in
theorem k_J7_fill_53178 (l : Launch) (X : xX) (S : xS) (k0 : Nat) (p1 : Int32) (hk0 : isI k0 = true) (hs : s_J7_fill_53178 S k0 p1) : Met l yJ7_fill_53178 wsJ7_fill_53178 ({ frames := 0, cells := 0, slots := 0, locals := 0 } : Room) (va_Pc [.ref (X.2.1 k0), .int p1] (xI X S)) (va_Qv (fun u : xS => u = (f_J7_fill_53178 S k0 p1)) (xI X) (xA X)) 0 0 (xA X) := by
  refine Met.ofW (cc := cJ7_fill_53178) (maxL := 4) (ret := none) (by decide +kernel) rfl ?_
  intro p e s m args below meth c s₁ B hml hv
  obtain ⟨rfl, hP, hK, hN, hJ⟩ := hv
  have hx := B.exec
  have hb := B.bytes
  have hr := B.returns
  have hts := atoms_spec (ws := wsJ7_fill_53178) B.pre
  have hown : s.vm.findClass RJ7 = some m.cls := findClass_of_methodNamed B.named
  have hlocks := B.notSynchronized
  have hC : xC X p m c cJ7_fill_53178 4 s _ wsJ7_fill_53178 RJ7 := ⟨⟨hx, hb, hml, hown, hts⟩, hK, hN, hJ⟩
  have hS : va_S (xA X) s.heap s.heap [] := va_S.rf
  have hl := lv_entry ([.ref (X.2.1 k0), .int p1]) (n := 4) (Nat.le_of_ble_eq_true rfl)
  rw [lg_entry_eq]
  generalize (lg_sl ([.ref (X.2.1 k0), .int p1]) ++ List.replicate (4 - (lg_sl ([.ref (X.2.1 k0), .int p1])).length) Slot.unset).toArray = ls at hl ⊢
  have hl : lv_has ls 4 [(0, .ref (X.2.1 k0)), (1, .int p1)] := hl
  refine lv_iconst (v := 0) hx hb dJ7_fill_53178_0 (by decide) ?_
  refine lv_istore_n (lv' := [(2, .int 0), (0, .ref (X.2.1 k0)), (1, .int p1)]) hx hb dJ7_fill_53178_1 rfl hl (by decide) rfl (fun ls hl => ?_)
  refine lv_aload_n hx hb dJ7_fill_53178_2 rfl (lv_at hl 1 rfl) ?_
  refine xalen hC hP hk0 dJ7_fill_53178_3 ?_
  refine lv_istore_n (lv' := [(3, .int (nI (xlen k0))), (2, .int 0), (0, .ref (X.2.1 k0)), (1, .int p1)]) hx hb dJ7_fill_53178_4 rfl hl (by decide) rfl (fun ls hl => ?_)
  have hLp_5 : ∀ (n : Nat) (T_5 : xS) (x1_5 : Int32) (x2_5 : Int32) (x3_5 : Int32), s_J7_fill_53178_L5 n T_5 k0 x1_5 x2_5 x3_5 → (∀ q : xS, q = f_J7_fill_53178_L5 n T_5 k0 x1_5 x2_5 x3_5 → (∀ (H : Heap) (locs : List Loc), va_P X.1 vwCl (xW X q) H → va_S (xA X) s.heap H locs → ∀ (ls : Array Slot), lv_has ls 4 [] → W p l e ({ frames := 0, cells := 0, slots := 0, locals := 0 } : Room) s m ([.ref (X.2.1 k0), .int p1] : List Value).toArray below meth c H locs 0 0 (MQ below (va_Qv (fun u : xS => u = (f_J7_fill_53178 S k0 p1)) (xI X) (xA X)) ([.ref (X.2.1 k0), .int p1] : List Value).toArray s 0 0 (xA X)) (F0 m 20 ls []))) → ∀ (H : Heap) (locs : List Loc), va_P X.1 vwCl (xW X T_5) H → va_S (xA X) s.heap H locs → ∀ (ls : Array Slot), lv_has ls 4 [(0, .ref (X.2.1 k0)), (1, .int x1_5), (2, .int x2_5), (3, .int x3_5)] → W p l e ({ frames := 0, cells := 0, slots := 0, locals := 0 } : Room) s m ([.ref (X.2.1 k0), .int p1] : List Value).toArray below meth c H locs 0 0 (MQ below (va_Qv (fun u : xS => u = (f_J7_fill_53178 S k0 p1)) (xI X) (xA X)) ([.ref (X.2.1 k0), .int p1] : List Value).toArray s 0 0 (xA X)) (F0 m 5 ls []) := by
    intro n
    induction n with
    | zero => intro T_5 x1_5 x2_5 x3_5 hs; exact hs.elim
    | succ n ih_5 =>
      intro T_5 x1_5 x2_5 x3_5 hs_5 hex_5 H locs hP hS ls hl
      refine lv_iload_n hx hb dJ7_fill_53178_5 rfl (lv_at hl 2 rfl) ?_
      refine lv_iload_n hx hb dJ7_fill_53178_6 rfl (lv_at hl 3 rfl) ?_
      refine lv_icmp_ge (tgt := 20) hx hb dJ7_fill_53178_7 (by decide) (fun c_1 => ?_) (fun c_1 => ?_)
      · have he_2 : f_J7_fill_53178_L5 (n + 1) T_5 k0 x1_5 x2_5 x3_5 = T_5 := ((ip c_1 rfl))
        exact hex_5 _ he_2.symm _ _ hP hS ls (lv_sub hl [] rfl)
      · refine lv_aload_n hx hb dJ7_fill_53178_10 rfl (lv_at hl 0 rfl) ?_
        refine lv_iload_n hx hb dJ7_fill_53178_11 rfl (lv_at hl 2 rfl) ?_
        refine lv_iload_n hx hb dJ7_fill_53178_12 rfl (lv_at hl 1 rfl) ?_
        have hn_3 : vp_in x2_5 (xlen k0) := (nl (sn hs_5 c_1))
        refine xiast hC hP hS hk0 hn_3 dJ7_fill_53178_13 (fun S_4 hS_4 H locs hP hS => ?_)
        refine lv_iinc (v := (x2_5 + 1)) (lv' := [(2, .int (x2_5 + 1)), (0, .ref (X.2.1 k0)), (1, .int x1_5), (3, .int x3_5)]) hx hb dJ7_fill_53178_14 hl (k := 2) rfl rfl (by decide) rfl (fun ls hl => ?_)
        refine lv_goto (tgt := 5) hx hb dJ7_fill_53178_17 (by decide) ?_
        have he_5 : f_J7_fill_53178_L5 (n + 1) T_5 k0 x1_5 x2_5 x3_5 = f_J7_fill_53178_L5 n S_4 k0 x1_5 (x2_5 + 1) x3_5 := (by have hS_4 := hS_4.symm; subst hS_4; exact (iN c_1 rfl))
        exact ih_5 S_4 x1_5 (x2_5 + 1) x3_5 (by have hS_4 := hS_4.symm; subst hS_4; exact (nr (sn hs_5 c_1))) (fun q hq => hex_5 q (hq.trans he_5.symm)) _ _ hP hS ls (lv_sub hl [1, 2, 0, 3] rfl)
  refine hLp_5 ((fu 0 (nI (xlen k0)))) S p1 0 (nI (xlen k0)) (nl hs) (fun q_5 hq_5 H locs hP hS ls hl => ?_) _ _ hP hS ls (lv_sub hl [2, 3, 1, 0] rfl)
  exact xret_v hC hP hS hb hr ((by have hq_5 := hq_5.symm; subst hq_5; exact rfl)) dJ7_fill_53178_20 hlocks
theorem hd_X2_clear : yX2_clear.cls = RX2 ∧ yX2_clear.cls ≠ "java/lang/invoke/MethodHandle" ∧ yX2_clear.cls ≠ "java/lang/invoke/VarHandle" ∧ (parseMethodDescriptor yX2_clear.desc).map (fun d => d.parameters.length) = some 0 := by decide +kernel
set_option maxHeartbeats 4000000 in
set_option maxRecDepth 100000 in
theorem k_X2_clear (l : Launch) (X : xX) (S : xS) (b : Nat) (hb0 : isH b = true) (hs : s_X2_clear S b) : Met l yX2_clear wsX2_clear ({ frames := 1, cells := 0, slots := 0, locals := 23 } : Room) (va_Pc [.ref (X.2.1 b)] (xI X S)) (va_Qv (fun u : xS => u = (f_X2_clear S b)) (xI X) (xA X)) 0 0 (xA X) := by
  refine Met.ofW (cc := cX2_clear) (maxL := 1) (ret := none) (by decide +kernel) rfl ?_
  intro p e s m args below meth c s₁ B hml hv
  obtain ⟨rfl, hP, hK, hN, hJ⟩ := hv
  have hx := B.exec
  have hb := B.bytes
  have hr := B.returns
  have hts := atoms_spec (ws := wsX2_clear) B.pre
  have hown : s.vm.findClass RX2 = some m.cls := findClass_of_methodNamed B.named
  have hlocks := B.notSynchronized
  have hC : xC X p m c cX2_clear 1 s _ wsX2_clear RX2 := ⟨⟨hx, hb, hml, hown, hts⟩, hK, hN, hJ⟩
  have hS : va_S (xA X) s.heap s.heap [] := va_S.rf
  have hin_X2 : ∀ w ∈ u_ws RX2 TX2 10, w ∈ wsX2_clear := by decide +kernel
  have hl := lv_entry ([.ref (X.2.1 b)]) (n := 1) (Nat.le_of_ble_eq_true rfl)
  rw [lg_entry_eq]
  generalize (lg_sl ([.ref (X.2.1 b)]) ++ List.replicate (1 - (lg_sl ([.ref (X.2.1 b)])).length) Slot.unset).toArray = ls at hl ⊢
  have hl : lv_has ls 1 [(0, .ref (X.2.1 b))] := hl
  refine lv_aload_n hx hb dX2_clear_0 rfl (lv_at hl 0 rfl) ?_
  refine xget (ref := "AbsentPraise$Hill") (T := TX2) (v := .ref (X.2.1 (b + 1))) hC hP hin_X2 (xo_H hb0) rfl 0 (by decide) (List.mem_of_getElem? (i := 1) rfl) rfl rfl dX2_clear_1 ?_
  refine lv_iconst (v := 0) hx hb dX2_clear_4 (by decide) ?_
  have hn_1 : s_J7_fill_53178 S (b + 1) 0 := (nl hs)
  refine xcS_vW (As := [.ref (X.2.1 (b + 1)), .int 0]) (rest := []) hC hP hS (k_J7_fill_53178 l X S (b + 1) 0 (isI_H1 hb0) hn_1) (va_cwS 2 hts gX2_clear_J7_fill_53178 rfl rfl rfl hs_J7_fill_53178 ⟨Nat.le_of_ble_eq_true rfl, Nat.le_of_ble_eq_true rfl⟩) rfl rfl hl.1 (Nat.le_of_ble_eq_true rfl) dX2_clear_5 (fun S_2 hS_2 H locs hP hS => ?_)
  refine lv_aload_n hx hb dX2_clear_8 rfl (lv_at hl 0 rfl) ?_
  refine xget (ref := "AbsentPraise$Hill") (T := TX2) (v := .ref (X.2.1 (b + 2))) hC hP hin_X2 (xo_H hb0) rfl 1 (by decide) (List.mem_of_getElem? (i := 2) rfl) rfl rfl dX2_clear_9 ?_
  refine lv_iconst (v := 0) hx hb dX2_clear_12 (by decide) ?_
  have hn_3 : s_J7_fill_53178 S_2 (b + 2) 0 := (by have hS_2 := hS_2.symm; subst hS_2; exact nl (nr hs))
  refine xcS_vW (As := [.ref (X.2.1 (b + 2)), .int 0]) (rest := []) hC hP hS (k_J7_fill_53178 l X S_2 (b + 2) 0 (isI_H2 hb0) hn_3) (va_cwS 2 hts gX2_clear_J7_fill_53178 rfl rfl rfl hs_J7_fill_53178 ⟨Nat.le_of_ble_eq_true rfl, Nat.le_of_ble_eq_true rfl⟩) rfl rfl hl.1 (Nat.le_of_ble_eq_true rfl) dX2_clear_13 (fun S_4 hS_4 H locs hP hS => ?_)
  refine lv_aload_n hx hb dX2_clear_16 rfl (lv_at hl 0 rfl) ?_
  refine xget (ref := "AbsentPraise$Hill") (T := TX2) (v := .ref (X.2.1 (b + 3))) hC hP hin_X2 (xo_H hb0) rfl 2 (by decide) (List.mem_of_getElem? (i := 3) rfl) rfl rfl dX2_clear_17 ?_
  refine lv_iconst (v := 0) hx hb dX2_clear_20 (by decide) ?_
  have hn_5 : s_J7_fill_53178 S_4 (b + 3) 0 := (by have hS_2 := hS_2.symm; have hS_4 := hS_4.symm; subst hS_2 hS_4; exact nl (nr (nr hs)))
  refine xcS_vW (As := [.ref (X.2.1 (b + 3)), .int 0]) (rest := []) hC hP hS (k_J7_fill_53178 l X S_4 (b + 3) 0 (isI_H3 hb0) hn_5) (va_cwS 2 hts gX2_clear_J7_fill_53178 rfl rfl rfl hs_J7_fill_53178 ⟨Nat.le_of_ble_eq_true rfl, Nat.le_of_ble_eq_true rfl⟩) rfl rfl hl.1 (Nat.le_of_ble_eq_true rfl) dX2_clear_21 (fun S_6 hS_6 H locs hP hS => ?_)
  refine lv_aload_n hx hb dX2_clear_24 rfl (lv_at hl 0 rfl) ?_
  refine xget (ref := "AbsentPraise$Hill") (T := TX2) (v := .ref (X.2.1 (b + 4))) hC hP hin_X2 (xo_H hb0) rfl 3 (by decide) (List.mem_of_getElem? (i := 4) rfl) rfl rfl dX2_clear_25 ?_
  refine lv_iconst (v := 0) hx hb dX2_clear_28 (by decide) ?_
  have hn_7 : s_J7_fill_53178 S_6 (b + 4) 0 := (by have hS_2 := hS_2.symm; have hS_4 := hS_4.symm; have hS_6 := hS_6.symm; subst hS_2 hS_4 hS_6; exact nl (nr (nr (nr hs))))
  refine xcS_vW (As := [.ref (X.2.1 (b + 4)), .int 0]) (rest := []) hC hP hS (k_J7_fill_53178 l X S_6 (b + 4) 0 (isI_H4 hb0) hn_7) (va_cwS 2 hts gX2_clear_J7_fill_53178 rfl rfl rfl hs_J7_fill_53178 ⟨Nat.le_of_ble_eq_true rfl, Nat.le_of_ble_eq_true rfl⟩) rfl rfl hl.1 (Nat.le_of_ble_eq_true rfl) dX2_clear_29 (fun S_8 hS_8 H locs hP hS => ?_)
  refine lv_aload_n hx hb dX2_clear_32 rfl (lv_at hl 0 rfl) ?_
  refine xget (ref := "AbsentPraise$Hill") (T := TX2) (v := .ref (X.2.1 (b + 5))) hC hP hin_X2 (xo_H hb0) rfl 4 (by decide) (List.mem_of_getElem? (i := 5) rfl) rfl rfl dX2_clear_33 ?_
  refine lv_iconst (v := 5) hx hb dX2_clear_36 (by decide) ?_
  have hn_9 : s_J7_fill_53178 S_8 (b + 5) 5 := (by have hS_2 := hS_2.symm; have hS_4 := hS_4.symm; have hS_6 := hS_6.symm; have hS_8 := hS_8.symm; subst hS_2 hS_4 hS_6 hS_8; exact nl (nr (nr (nr (nr hs)))))
  refine xcS_vW (As := [.ref (X.2.1 (b + 5)), .int 5]) (rest := []) hC hP hS (k_J7_fill_53178 l X S_8 (b + 5) 5 (isI_H5 hb0) hn_9) (va_cwS 2 hts gX2_clear_J7_fill_53178 rfl rfl rfl hs_J7_fill_53178 ⟨Nat.le_of_ble_eq_true rfl, Nat.le_of_ble_eq_true rfl⟩) rfl rfl hl.1 (Nat.le_of_ble_eq_true rfl) dX2_clear_37 (fun S_10 hS_10 H locs hP hS => ?_)
  refine lv_aload_n hx hb dX2_clear_40 rfl (lv_at hl 0 rfl) ?_
  refine lv_iconst (v := 0) hx hb dX2_clear_41 (by decide) ?_
  refine xput (ref := "AbsentPraise$Hill") (T := TX2) (ty := .int) hC hP hS (isH_lt hb0) hin_X2 tyX2 tyX2_ok nmX2 (xo_H hb0) rfl 5 (by decide) (List.mem_of_getElem? (i := 6) rfl) rfl rfl rfl rfl rfl (Nat.le_of_ble_eq_true rfl) dX2_clear_42 (xn_X2_5 hb0) (fun S_11 hS_11 H locs hP hS => ?_)
  refine lv_aload_n hx hb dX2_clear_45 rfl (lv_at hl 0 rfl) ?_
  refine lv_iconst (v := 0) hx hb dX2_clear_46 (by decide) ?_
  refine xput (ref := "AbsentPraise$Hill") (T := TX2) (ty := .int) hC hP hS (isH_lt hb0) hin_X2 tyX2 tyX2_ok nmX2 (xo_H hb0) rfl 6 (by decide) (List.mem_of_getElem? (i := 7) rfl) rfl rfl rfl rfl rfl (Nat.le_of_ble_eq_true rfl) dX2_clear_47 (xn_X2_6 hb0) (fun S_12 hS_12 H locs hP hS => ?_)
  refine lv_aload_n hx hb dX2_clear_50 rfl (lv_at hl 0 rfl) ?_
  refine lv_iconst (v := 0) hx hb dX2_clear_51 (by decide) ?_
  refine xput (ref := "AbsentPraise$Hill") (T := TX2) (ty := .int) hC hP hS (isH_lt hb0) hin_X2 tyX2 tyX2_ok nmX2 (xo_H hb0) rfl 7 (by decide) (List.mem_of_getElem? (i := 8) rfl) rfl rfl rfl rfl rfl (Nat.le_of_ble_eq_true rfl) dX2_clear_52 (xn_X2_7 hb0) (fun S_13 hS_13 H locs hP hS => ?_)
  refine lv_aload_n hx hb dX2_clear_55 rfl (lv_at hl 0 rfl) ?_
  refine lv_iconst (v := 0) hx hb dX2_clear_56 (by decide) ?_
  refine xput (ref := "AbsentPraise$Hill") (T := TX2) (ty := .int) hC hP hS (isH_lt hb0) hin_X2 tyX2 tyX2_ok nmX2 (xo_H hb0) rfl 8 (by decide) (List.mem_of_getElem? (i := 9) rfl) rfl rfl rfl rfl rfl (Nat.le_of_ble_eq_true rfl) dX2_clear_57 (xn_X2_8 hb0) (fun S_14 hS_14 H locs hP hS => ?_)
  refine lv_aload_n hx hb dX2_clear_60 rfl (lv_at hl 0 rfl) ?_
  refine lv_iconst (v := 0) hx hb dX2_clear_61 (by decide) ?_
  refine xput (ref := "AbsentPraise$Hill") (T := TX2) (ty := .int) hC hP hS (isH_lt hb0) hin_X2 tyX2 tyX2_ok nmX2 (xo_H hb0) rfl 9 (by decide) (List.mem_of_getElem? (i := 10) rfl) rfl rfl rfl rfl rfl (Nat.le_of_ble_eq_true rfl) dX2_clear_62 (xn_X2_9 hb0) (fun S_15 hS_15 H locs hP hS => ?_)
  exact xret_v hC hP hS hb hr ((by have hS_2 := hS_2.symm; have hS_4 := hS_4.symm; have hS_6 := hS_6.symm; have hS_8 := hS_8.symm; have hS_10 := hS_10.symm; have hS_11 := hS_11.symm; have hS_12 := hS_12.symm; have hS_13 := hS_13.symm; have hS_14 := hS_14.symm; have hS_15 := hS_15.symm; subst hS_2 hS_4 hS_6 hS_8 hS_10 hS_11 hS_12 hS_13 hS_14 hS_15; exact rfl)) dX2_clear_65 hlocks
theorem hs_X10_copy : yX10_copy.cls ≠ "java/lang/invoke/MethodHandle" ∧ yX10_copy.cls ≠ "java/lang/invoke/VarHandle" ∧ (parseMethodDescriptor yX10_copy.desc).map (fun d => d.parameters.length) = some 2 := by decide +kernel
set_option maxHeartbeats 4000000 in
set_option maxRecDepth 100000 in
theorem k_X10_copy (l : Launch) (X : xX) (S : xS) (k0 : Nat) (k1 : Nat) (hk0 : isI k0 = true) (hk1 : isI k1 = true) (hs : s_X10_copy S k0 k1) : Met l yX10_copy wsX10_copy ({ frames := 1, cells := 0, slots := 0, locals := 40 } : Room) (va_Pc [.ref (X.2.1 k0), .ref (X.2.1 k1)] (xI X S)) (va_Qv (fun u : xS => u = (f_X10_copy S k0 k1)) (xI X) (xA X)) 0 0 (xA X) := by
  refine Met.ofW (cc := cX10_copy) (maxL := 2) (ret := none) (by decide +kernel) rfl ?_
  intro p e s m args below meth c s₁ B hml hv
  obtain ⟨rfl, hP, hK, hN, hJ⟩ := hv
  have hx := B.exec
  have hb := B.bytes
  have hr := B.returns
  have hts := atoms_spec (ws := wsX10_copy) B.pre
  have hown : s.vm.findClass RX10 = some m.cls := findClass_of_methodNamed B.named
  have hlocks := B.notSynchronized
  have hC : xC X p m c cX10_copy 2 s _ wsX10_copy RX10 := ⟨⟨hx, hb, hml, hown, hts⟩, hK, hN, hJ⟩
  have hS : va_S (xA X) s.heap s.heap [] := va_S.rf
  have hl := lv_entry ([.ref (X.2.1 k0), .ref (X.2.1 k1)]) (n := 2) (Nat.le_of_ble_eq_true rfl)
  rw [lg_entry_eq]
  generalize (lg_sl ([.ref (X.2.1 k0), .ref (X.2.1 k1)]) ++ List.replicate (2 - (lg_sl ([.ref (X.2.1 k0), .ref (X.2.1 k1)])).length) Slot.unset).toArray = ls at hl ⊢
  have hl : lv_has ls 2 [(0, .ref (X.2.1 k0)), (1, .ref (X.2.1 k1))] := hl
  refine lv_aload_n hx hb dX10_copy_0 rfl (lv_at hl 0 rfl) ?_
  refine lv_iconst (v := 0) hx hb dX10_copy_1 (by decide) ?_
  refine lv_aload_n hx hb dX10_copy_2 rfl (lv_at hl 1 rfl) ?_
  refine lv_iconst (v := 0) hx hb dX10_copy_3 (by decide) ?_
  refine lv_aload_n hx hb dX10_copy_4 rfl (lv_at hl 0 rfl) ?_
  refine xalen hC hP hk0 dX10_copy_5 ?_
  refine lv_aload_n hx hb dX10_copy_6 rfl (lv_at hl 1 rfl) ?_
  refine xalen hC hP hk1 dX10_copy_7 ?_
  refine va_mmin hx hb (hml.trans hl.1.symm) hown (hts _ (List.mem_of_getElem? (i := 1) rfl)) (hts _ (List.mem_of_getElem? (i := 2) rfl)) (hts _ (List.mem_of_getElem? (i := 3) rfl)) (hts _ (List.mem_of_getElem? (i := 4) rfl)) (Nat.le_of_ble_eq_true rfl) (Nat.le_of_ble_eq_true rfl) (Nat.zero_le _) (Nat.zero_le _) dX10_copy_8 ?_
  obtain ⟨r_1, hr_1⟩ : ∃ z : Int32, z = (if (nI (xlen k1)) < (nI (xlen k0)) then (nI (xlen k1)) else (nI (xlen k0))) := ⟨_, rfl⟩
  rw [← hr_1]
  have hn_2 : ¬ (r_1 < 0) ∧ (r_1).toNatClampNeg ≤ (xlen k0) ∧ (r_1).toNatClampNeg ≤ (xlen k1) := (by have hr_1 := hr_1.symm; subst hr_1; exact nl hs)
  refine xcopy hC hP hS (hml.trans hl.1.symm) (List.mem_of_getElem? (i := 5) rfl) (List.mem_of_getElem? (i := 6) rfl) (List.mem_of_getElem? (i := 7) rfl) (List.mem_of_getElem? (i := 8) rfl) hk0 hk1 (Nat.le_of_ble_eq_true rfl) (Nat.le_of_ble_eq_true rfl) hn_2 dX10_copy_11 (fun S_3 hS_3 H locs hP hS => ?_)
  exact xret_v hC hP hS hb hr ((by have hr_1 := hr_1.symm; have hS_3 := hS_3.symm; subst hr_1 hS_3; exact rfl)) dX10_copy_14 hlocks
theorem hd_X2_copyFrom : yX2_copyFrom.cls = RX2 ∧ yX2_copyFrom.cls ≠ "java/lang/invoke/MethodHandle" ∧ yX2_copyFrom.cls ≠ "java/lang/invoke/VarHandle" ∧ (parseMethodDescriptor yX2_copyFrom.desc).map (fun d => d.parameters.length) = some 1 := by decide +kernel
set_option maxHeartbeats 4000000 in
set_option maxRecDepth 100000 in
theorem k_X2_copyFrom (l : Launch) (X : xX) (S : xS) (b : Nat) (k0 : Nat) (hb0 : isH b = true) (hk0 : isH k0 = true) (hs : s_X2_copyFrom S b k0) : Met l yX2_copyFrom wsX2_copyFrom ({ frames := 2, cells := 0, slots := 0, locals := 61 } : Room) (va_Pc [.ref (X.2.1 b), .ref (X.2.1 k0)] (xI X S)) (va_Qv (fun u : xS => u = (f_X2_copyFrom S b k0)) (xI X) (xA X)) 0 0 (xA X) := by
  refine Met.ofW (cc := cX2_copyFrom) (maxL := 2) (ret := none) (by decide +kernel) rfl ?_
  intro p e s m args below meth c s₁ B hml hv
  obtain ⟨rfl, hP, hK, hN, hJ⟩ := hv
  have hx := B.exec
  have hb := B.bytes
  have hr := B.returns
  have hts := atoms_spec (ws := wsX2_copyFrom) B.pre
  have hown : s.vm.findClass RX2 = some m.cls := findClass_of_methodNamed B.named
  have hlocks := B.notSynchronized
  have hC : xC X p m c cX2_copyFrom 2 s _ wsX2_copyFrom RX2 := ⟨⟨hx, hb, hml, hown, hts⟩, hK, hN, hJ⟩
  have hS : va_S (xA X) s.heap s.heap [] := va_S.rf
  have hin_X2 : ∀ w ∈ u_ws RX2 TX2 10, w ∈ wsX2_copyFrom := by decide +kernel
  have hl := lv_entry ([.ref (X.2.1 b), .ref (X.2.1 k0)]) (n := 2) (Nat.le_of_ble_eq_true rfl)
  rw [lg_entry_eq]
  generalize (lg_sl ([.ref (X.2.1 b), .ref (X.2.1 k0)]) ++ List.replicate (2 - (lg_sl ([.ref (X.2.1 b), .ref (X.2.1 k0)])).length) Slot.unset).toArray = ls at hl ⊢
  have hl : lv_has ls 2 [(0, .ref (X.2.1 b)), (1, .ref (X.2.1 k0))] := hl
  refine lv_aload_n hx hb dX2_copyFrom_0 rfl (lv_at hl 1 rfl) ?_
  refine xget (ref := "AbsentPraise$Hill") (T := TX2) (v := .ref (X.2.1 (k0 + 1))) hC hP hin_X2 (xo_H hk0) rfl 0 (by decide) (List.mem_of_getElem? (i := 1) rfl) rfl rfl dX2_copyFrom_1 ?_
  refine lv_aload_n hx hb dX2_copyFrom_4 rfl (lv_at hl 0 rfl) ?_
  refine xget (ref := "AbsentPraise$Hill") (T := TX2) (v := .ref (X.2.1 (b + 1))) hC hP hin_X2 (xo_H hb0) rfl 0 (by decide) (List.mem_of_getElem? (i := 1) rfl) rfl rfl dX2_copyFrom_5 ?_
  have hn_1 : s_X10_copy S (k0 + 1) (b + 1) := (nl hs)
  refine xcSN_vW (As := [.ref (X.2.1 (k0 + 1)), .ref (X.2.1 (b + 1))]) (rest := []) hC hP hS (k_X10_copy l X S (k0 + 1) (b + 1) (isI_H1 hk0) (isI_H1 hb0) hn_1) (va_cnB (host := "AbsentPraise") 2 hts gX2_copyFrom_X10_copy_n49 rfl rfl rfl (xn_8 hN) (hts (.initialized RX10) (List.mem_of_getElem? (i := 12) rfl)) hs_X10_copy ⟨Nat.le_of_ble_eq_true rfl, Nat.le_of_ble_eq_true rfl⟩) (hts (.static yX10_copy) (List.mem_of_getElem? (i := 11) rfl)) rfl rfl hl.1 (Nat.le_of_ble_eq_true rfl) dX2_copyFrom_8 (fun S_2 hS_2 H locs hP hS => ?_)
  refine lv_aload_n hx hb dX2_copyFrom_11 rfl (lv_at hl 1 rfl) ?_
  refine xget (ref := "AbsentPraise$Hill") (T := TX2) (v := .ref (X.2.1 (k0 + 2))) hC hP hin_X2 (xo_H hk0) rfl 1 (by decide) (List.mem_of_getElem? (i := 2) rfl) rfl rfl dX2_copyFrom_12 ?_
  refine lv_aload_n hx hb dX2_copyFrom_15 rfl (lv_at hl 0 rfl) ?_
  refine xget (ref := "AbsentPraise$Hill") (T := TX2) (v := .ref (X.2.1 (b + 2))) hC hP hin_X2 (xo_H hb0) rfl 1 (by decide) (List.mem_of_getElem? (i := 2) rfl) rfl rfl dX2_copyFrom_16 ?_
  have hn_3 : s_X10_copy S_2 (k0 + 2) (b + 2) := (by have hS_2 := hS_2.symm; subst hS_2; exact nl (nr hs))
  refine xcSN_vW (As := [.ref (X.2.1 (k0 + 2)), .ref (X.2.1 (b + 2))]) (rest := []) hC hP hS (k_X10_copy l X S_2 (k0 + 2) (b + 2) (isI_H2 hk0) (isI_H2 hb0) hn_3) (va_cnB (host := "AbsentPraise") 2 hts gX2_copyFrom_X10_copy_n49 rfl rfl rfl (xn_8 hN) (hts (.initialized RX10) (List.mem_of_getElem? (i := 12) rfl)) hs_X10_copy ⟨Nat.le_of_ble_eq_true rfl, Nat.le_of_ble_eq_true rfl⟩) (hts (.static yX10_copy) (List.mem_of_getElem? (i := 11) rfl)) rfl rfl hl.1 (Nat.le_of_ble_eq_true rfl) dX2_copyFrom_19 (fun S_4 hS_4 H locs hP hS => ?_)
  refine lv_aload_n hx hb dX2_copyFrom_22 rfl (lv_at hl 1 rfl) ?_
  refine xget (ref := "AbsentPraise$Hill") (T := TX2) (v := .ref (X.2.1 (k0 + 3))) hC hP hin_X2 (xo_H hk0) rfl 2 (by decide) (List.mem_of_getElem? (i := 3) rfl) rfl rfl dX2_copyFrom_23 ?_
  refine lv_aload_n hx hb dX2_copyFrom_26 rfl (lv_at hl 0 rfl) ?_
  refine xget (ref := "AbsentPraise$Hill") (T := TX2) (v := .ref (X.2.1 (b + 3))) hC hP hin_X2 (xo_H hb0) rfl 2 (by decide) (List.mem_of_getElem? (i := 3) rfl) rfl rfl dX2_copyFrom_27 ?_
  have hn_5 : s_X10_copy S_4 (k0 + 3) (b + 3) := (by have hS_2 := hS_2.symm; have hS_4 := hS_4.symm; subst hS_2 hS_4; exact nl (nr (nr hs)))
  refine xcSN_vW (As := [.ref (X.2.1 (k0 + 3)), .ref (X.2.1 (b + 3))]) (rest := []) hC hP hS (k_X10_copy l X S_4 (k0 + 3) (b + 3) (isI_H3 hk0) (isI_H3 hb0) hn_5) (va_cnB (host := "AbsentPraise") 2 hts gX2_copyFrom_X10_copy_n49 rfl rfl rfl (xn_8 hN) (hts (.initialized RX10) (List.mem_of_getElem? (i := 12) rfl)) hs_X10_copy ⟨Nat.le_of_ble_eq_true rfl, Nat.le_of_ble_eq_true rfl⟩) (hts (.static yX10_copy) (List.mem_of_getElem? (i := 11) rfl)) rfl rfl hl.1 (Nat.le_of_ble_eq_true rfl) dX2_copyFrom_30 (fun S_6 hS_6 H locs hP hS => ?_)
  refine lv_aload_n hx hb dX2_copyFrom_33 rfl (lv_at hl 1 rfl) ?_
  refine xget (ref := "AbsentPraise$Hill") (T := TX2) (v := .ref (X.2.1 (k0 + 4))) hC hP hin_X2 (xo_H hk0) rfl 3 (by decide) (List.mem_of_getElem? (i := 4) rfl) rfl rfl dX2_copyFrom_34 ?_
  refine lv_aload_n hx hb dX2_copyFrom_37 rfl (lv_at hl 0 rfl) ?_
  refine xget (ref := "AbsentPraise$Hill") (T := TX2) (v := .ref (X.2.1 (b + 4))) hC hP hin_X2 (xo_H hb0) rfl 3 (by decide) (List.mem_of_getElem? (i := 4) rfl) rfl rfl dX2_copyFrom_38 ?_
  have hn_7 : s_X10_copy S_6 (k0 + 4) (b + 4) := (by have hS_2 := hS_2.symm; have hS_4 := hS_4.symm; have hS_6 := hS_6.symm; subst hS_2 hS_4 hS_6; exact nl (nr (nr (nr hs))))
  refine xcSN_vW (As := [.ref (X.2.1 (k0 + 4)), .ref (X.2.1 (b + 4))]) (rest := []) hC hP hS (k_X10_copy l X S_6 (k0 + 4) (b + 4) (isI_H4 hk0) (isI_H4 hb0) hn_7) (va_cnB (host := "AbsentPraise") 2 hts gX2_copyFrom_X10_copy_n49 rfl rfl rfl (xn_8 hN) (hts (.initialized RX10) (List.mem_of_getElem? (i := 12) rfl)) hs_X10_copy ⟨Nat.le_of_ble_eq_true rfl, Nat.le_of_ble_eq_true rfl⟩) (hts (.static yX10_copy) (List.mem_of_getElem? (i := 11) rfl)) rfl rfl hl.1 (Nat.le_of_ble_eq_true rfl) dX2_copyFrom_41 (fun S_8 hS_8 H locs hP hS => ?_)
  refine lv_aload_n hx hb dX2_copyFrom_44 rfl (lv_at hl 1 rfl) ?_
  refine xget (ref := "AbsentPraise$Hill") (T := TX2) (v := .ref (X.2.1 (k0 + 5))) hC hP hin_X2 (xo_H hk0) rfl 4 (by decide) (List.mem_of_getElem? (i := 5) rfl) rfl rfl dX2_copyFrom_45 ?_
  refine lv_aload_n hx hb dX2_copyFrom_48 rfl (lv_at hl 0 rfl) ?_
  refine xget (ref := "AbsentPraise$Hill") (T := TX2) (v := .ref (X.2.1 (b + 5))) hC hP hin_X2 (xo_H hb0) rfl 4 (by decide) (List.mem_of_getElem? (i := 5) rfl) rfl rfl dX2_copyFrom_49 ?_
  have hn_9 : s_X10_copy S_8 (k0 + 5) (b + 5) := (by have hS_2 := hS_2.symm; have hS_4 := hS_4.symm; have hS_6 := hS_6.symm; have hS_8 := hS_8.symm; subst hS_2 hS_4 hS_6 hS_8; exact nl (nr (nr (nr (nr hs)))))
  refine xcSN_vW (As := [.ref (X.2.1 (k0 + 5)), .ref (X.2.1 (b + 5))]) (rest := []) hC hP hS (k_X10_copy l X S_8 (k0 + 5) (b + 5) (isI_H5 hk0) (isI_H5 hb0) hn_9) (va_cnB (host := "AbsentPraise") 2 hts gX2_copyFrom_X10_copy_n49 rfl rfl rfl (xn_8 hN) (hts (.initialized RX10) (List.mem_of_getElem? (i := 12) rfl)) hs_X10_copy ⟨Nat.le_of_ble_eq_true rfl, Nat.le_of_ble_eq_true rfl⟩) (hts (.static yX10_copy) (List.mem_of_getElem? (i := 11) rfl)) rfl rfl hl.1 (Nat.le_of_ble_eq_true rfl) dX2_copyFrom_52 (fun S_10 hS_10 H locs hP hS => ?_)
  refine lv_aload_n hx hb dX2_copyFrom_55 rfl (lv_at hl 0 rfl) ?_
  refine lv_aload_n hx hb dX2_copyFrom_56 rfl (lv_at hl 1 rfl) ?_
  refine xget (ref := "AbsentPraise$Hill") (T := TX2) (v := .int (S_10 k0 5)) hC hP hin_X2 (xo_H hk0) rfl 5 (by decide) (List.mem_of_getElem? (i := 6) rfl) rfl rfl dX2_copyFrom_57 ?_
  refine xput (ref := "AbsentPraise$Hill") (T := TX2) (ty := .int) hC hP hS (isH_lt hb0) hin_X2 tyX2 tyX2_ok nmX2 (xo_H hb0) rfl 5 (by decide) (List.mem_of_getElem? (i := 6) rfl) rfl rfl rfl rfl rfl (Nat.le_of_ble_eq_true rfl) dX2_copyFrom_60 (xn_X2_5 hb0) (fun S_11 hS_11 H locs hP hS => ?_)
  refine lv_aload_n hx hb dX2_copyFrom_63 rfl (lv_at hl 0 rfl) ?_
  refine lv_aload_n hx hb dX2_copyFrom_64 rfl (lv_at hl 1 rfl) ?_
  refine xget (ref := "AbsentPraise$Hill") (T := TX2) (v := .int (S_11 k0 6)) hC hP hin_X2 (xo_H hk0) rfl 6 (by decide) (List.mem_of_getElem? (i := 7) rfl) rfl rfl dX2_copyFrom_65 ?_
  refine xput (ref := "AbsentPraise$Hill") (T := TX2) (ty := .int) hC hP hS (isH_lt hb0) hin_X2 tyX2 tyX2_ok nmX2 (xo_H hb0) rfl 6 (by decide) (List.mem_of_getElem? (i := 7) rfl) rfl rfl rfl rfl rfl (Nat.le_of_ble_eq_true rfl) dX2_copyFrom_68 (xn_X2_6 hb0) (fun S_12 hS_12 H locs hP hS => ?_)
  refine lv_aload_n hx hb dX2_copyFrom_71 rfl (lv_at hl 0 rfl) ?_
  refine lv_aload_n hx hb dX2_copyFrom_72 rfl (lv_at hl 1 rfl) ?_
  refine xget (ref := "AbsentPraise$Hill") (T := TX2) (v := .int (S_12 k0 7)) hC hP hin_X2 (xo_H hk0) rfl 7 (by decide) (List.mem_of_getElem? (i := 8) rfl) rfl rfl dX2_copyFrom_73 ?_
  refine xput (ref := "AbsentPraise$Hill") (T := TX2) (ty := .int) hC hP hS (isH_lt hb0) hin_X2 tyX2 tyX2_ok nmX2 (xo_H hb0) rfl 7 (by decide) (List.mem_of_getElem? (i := 8) rfl) rfl rfl rfl rfl rfl (Nat.le_of_ble_eq_true rfl) dX2_copyFrom_76 (xn_X2_7 hb0) (fun S_13 hS_13 H locs hP hS => ?_)
  refine lv_aload_n hx hb dX2_copyFrom_79 rfl (lv_at hl 0 rfl) ?_
  refine lv_aload_n hx hb dX2_copyFrom_80 rfl (lv_at hl 1 rfl) ?_
  refine xget (ref := "AbsentPraise$Hill") (T := TX2) (v := .int (S_13 k0 8)) hC hP hin_X2 (xo_H hk0) rfl 8 (by decide) (List.mem_of_getElem? (i := 9) rfl) rfl rfl dX2_copyFrom_81 ?_
  refine xput (ref := "AbsentPraise$Hill") (T := TX2) (ty := .int) hC hP hS (isH_lt hb0) hin_X2 tyX2 tyX2_ok nmX2 (xo_H hb0) rfl 8 (by decide) (List.mem_of_getElem? (i := 9) rfl) rfl rfl rfl rfl rfl (Nat.le_of_ble_eq_true rfl) dX2_copyFrom_84 (xn_X2_8 hb0) (fun S_14 hS_14 H locs hP hS => ?_)
  refine lv_aload_n hx hb dX2_copyFrom_87 rfl (lv_at hl 0 rfl) ?_
  refine lv_aload_n hx hb dX2_copyFrom_88 rfl (lv_at hl 1 rfl) ?_
  refine xget (ref := "AbsentPraise$Hill") (T := TX2) (v := .int (S_14 k0 9)) hC hP hin_X2 (xo_H hk0) rfl 9 (by decide) (List.mem_of_getElem? (i := 10) rfl) rfl rfl dX2_copyFrom_89 ?_
  refine xput (ref := "AbsentPraise$Hill") (T := TX2) (ty := .int) hC hP hS (isH_lt hb0) hin_X2 tyX2 tyX2_ok nmX2 (xo_H hb0) rfl 9 (by decide) (List.mem_of_getElem? (i := 10) rfl) rfl rfl rfl rfl rfl (Nat.le_of_ble_eq_true rfl) dX2_copyFrom_92 (xn_X2_9 hb0) (fun S_15 hS_15 H locs hP hS => ?_)
  exact xret_v hC hP hS hb hr ((by have hS_2 := hS_2.symm; have hS_4 := hS_4.symm; have hS_6 := hS_6.symm; have hS_8 := hS_8.symm; have hS_10 := hS_10.symm; have hS_11 := hS_11.symm; have hS_12 := hS_12.symm; have hS_13 := hS_13.symm; have hS_14 := hS_14.symm; have hS_15 := hS_15.symm; subst hS_2 hS_4 hS_6 hS_8 hS_10 hS_11 hS_12 hS_13 hS_14 hS_15; exact rfl)) dX2_copyFrom_95 hlocks
theorem hd_X2_isTold : yX2_isTold.cls = RX2 ∧ yX2_isTold.cls ≠ "java/lang/invoke/MethodHandle" ∧ yX2_isTold.cls ≠ "java/lang/invoke/VarHandle" ∧ (parseMethodDescriptor yX2_isTold.desc).map (fun d => d.parameters.length) = some 0 := by decide +kernel
set_option maxHeartbeats 4000000 in
set_option maxRecDepth 100000 in
theorem k_X2_isTold (l : Launch) (X : xX) (S : xS) (b : Nat) (hb0 : isH b = true) : Met l yX2_isTold wsX2_isTold ({ frames := 0, cells := 0, slots := 0, locals := 0 } : Room) (va_Pc [.ref (X.2.1 b)] (xI X S)) (va_Qi (fun (r : Int32) (u : xS) => (r = (f_X2_isTold S b) ∧ (r = 0 ∨ r = 1)) ∧ u = S) (xI X) (xA X)) 0 0 (xA X) := by
  refine Met.ofW (cc := cX2_isTold) (maxL := 1) (ret := (some .boolean)) (by decide +kernel) rfl ?_
  intro p e s m args below meth c s₁ B hml hv
  obtain ⟨rfl, hP, hK, hN, hJ⟩ := hv
  have hx := B.exec
  have hb := B.bytes
  have hr := B.returns
  have hts := atoms_spec (ws := wsX2_isTold) B.pre
  have hown : s.vm.findClass RX2 = some m.cls := findClass_of_methodNamed B.named
  have hlocks := B.notSynchronized
  have hC : xC X p m c cX2_isTold 1 s _ wsX2_isTold RX2 := ⟨⟨hx, hb, hml, hown, hts⟩, hK, hN, hJ⟩
  have hS : va_S (xA X) s.heap s.heap [] := va_S.rf
  have hin_X2 : ∀ w ∈ u_ws RX2 TX2 10, w ∈ wsX2_isTold := by decide +kernel
  have hl := lv_entry ([.ref (X.2.1 b)]) (n := 1) (Nat.le_of_ble_eq_true rfl)
  rw [lg_entry_eq]
  generalize (lg_sl ([.ref (X.2.1 b)]) ++ List.replicate (1 - (lg_sl ([.ref (X.2.1 b)])).length) Slot.unset).toArray = ls at hl ⊢
  have hl : lv_has ls 1 [(0, .ref (X.2.1 b))] := hl
  refine lv_aload_n hx hb dX2_isTold_0 rfl (lv_at hl 0 rfl) ?_
  refine xget (ref := "AbsentPraise$Hill") (T := TX2) (v := .int (S b 5)) hC hP hin_X2 (xo_H hb0) rfl 5 (by decide) (List.mem_of_getElem? (i := 1) rfl) rfl rfl dX2_isTold_1 ?_
  refine lv_if_le (tgt := 11) hx hb dX2_isTold_4 (by decide) (fun c_1 => ?_) (fun c_1 => ?_)
  · refine lv_iconst (v := 0) hx hb dX2_isTold_11 (by decide) ?_
    exact xret_zR hC hP hS hb hr (.inl rfl) (((ip c_1 rfl))) dX2_isTold_12 hlocks
  · refine lv_iconst (v := 1) hx hb dX2_isTold_7 (by decide) ?_
    refine lv_goto (tgt := 12) hx hb dX2_isTold_8 (by decide) ?_
    exact xret_zR hC hP hS hb hr (.inr rfl) (((iN c_1 rfl))) dX2_isTold_12 hlocks
