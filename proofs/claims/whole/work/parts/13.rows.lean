set_option linter.all false
/-! contracts: X4_spokenOfBy, X4_speakerOf, X10_bounded, X4_warmer, X4_passHour, X5_add, X5_fits -/
theorem hd_X4_spokenOfBy : yX4_spokenOfBy.cls = RX4 ∧ yX4_spokenOfBy.cls ≠ "java/lang/invoke/MethodHandle" ∧ yX4_spokenOfBy.cls ≠ "java/lang/invoke/VarHandle" ∧ (parseMethodDescriptor yX4_spokenOfBy.desc).map (fun d => d.parameters.length) = some 2 := by decide +kernel
set_option maxHeartbeats 4000000 in
set_option maxRecDepth 100000 in
theorem k_X4_spokenOfBy (l : Launch) (X : xX) (S : xS) (p0 : Int32) (p1 : Int32) : Met l yX4_spokenOfBy wsX4_spokenOfBy ({ frames := 1, cells := 0, slots := 0, locals := 22 } : Room) (va_Pc [.ref (X.2.1 15), .int p0, .int p1] (xI X S)) (va_Qi (fun (r : Int32) (u : xS) => r = (f_X4_spokenOfBy S p0 p1) ∧ u = S) (xI X) (xA X)) 0 0 (xA X) := by
  refine Met.ofW (cc := cX4_spokenOfBy) (maxL := 3) (ret := (some .int)) (by decide +kernel) rfl ?_
  intro p e s m args below meth c s₁ B hml hv
  obtain ⟨rfl, hP, hK, hN, hJ⟩ := hv
  have hx := B.exec
  have hb := B.bytes
  have hr := B.returns
  have hts := atoms_spec (ws := wsX4_spokenOfBy) B.pre
  have hown : s.vm.findClass RX4 = some m.cls := findClass_of_methodNamed B.named
  have hlocks := B.notSynchronized
  have hC : xC X p m c cX4_spokenOfBy 3 s _ wsX4_spokenOfBy RX4 := ⟨⟨hx, hb, hml, hown, hts⟩, hK, hN, hJ⟩
  have hS : va_S (xA X) s.heap s.heap [] := va_S.rf
  have hin_X2 : ∀ w ∈ u_ws RX2 TX2 10, w ∈ wsX4_spokenOfBy := by decide +kernel
  have hin_X4 : ∀ w ∈ u_ws RX4 TX4 2, w ∈ wsX4_spokenOfBy := by decide +kernel
  have hl := lv_entry ([.ref (X.2.1 15), .int p0, .int p1]) (n := 3) (Nat.le_of_ble_eq_true rfl)
  rw [lg_entry_eq]
  generalize (lg_sl ([.ref (X.2.1 15), .int p0, .int p1]) ++ List.replicate (3 - (lg_sl ([.ref (X.2.1 15), .int p0, .int p1])).length) Slot.unset).toArray = ls at hl ⊢
  have hl : lv_has ls 3 [(0, .ref (X.2.1 15)), (1, .int p0), (2, .int p1)] := hl
  refine lv_aload_n hx hb dX4_spokenOfBy_0 rfl (lv_at hl 0 rfl) ?_
  refine xget (ref := "AbsentPraise$Life") (T := TX4) (v := .ref (X.2.1 9)) hC hP hin_X4 xo_X4 rfl 0 (by decide) (List.mem_of_getElem? (i := 1) rfl) rfl rfl dX4_spokenOfBy_1 ?_
  refine xget (ref := "AbsentPraise$Hill") (T := TX2) (v := .int (S 9 9)) hC hP hin_X2 (xo_H (by decide)) rfl 9 (by decide) (List.mem_of_getElem? (i := 2) rfl) rfl rfl dX4_spokenOfBy_4 ?_
  refine lv_if_le (tgt := 28) hx hb dX4_spokenOfBy_7 (by decide) (fun c_1 => ?_) (fun c_1 => ?_)
  · refine lv_iload_n hx hb dX4_spokenOfBy_28 rfl (lv_at hl 1 rfl) ?_
    exact xret_iR hC hP hS hb hr (((ip c_1 rfl))) dX4_spokenOfBy_29 hlocks
  · refine lv_iload_n hx hb dX4_spokenOfBy_10 rfl (lv_at hl 1 rfl) ?_
    refine lv_iload_n hx hb dX4_spokenOfBy_11 rfl (lv_at hl 2 rfl) ?_
    refine lv_iadd hx hb dX4_spokenOfBy_12 ?_
    refine lv_iconst (v := 1) hx hb dX4_spokenOfBy_13 (by decide) ?_
    refine lv_iadd hx hb dX4_spokenOfBy_14 ?_
    refine lv_aload_n hx hb dX4_spokenOfBy_15 rfl (lv_at hl 0 rfl) ?_
    refine xget (ref := "AbsentPraise$Life") (T := TX4) (v := .ref (X.2.1 9)) hC hP hin_X4 xo_X4 rfl 0 (by decide) (List.mem_of_getElem? (i := 1) rfl) rfl rfl dX4_spokenOfBy_16 ?_
    refine xget (ref := "AbsentPraise$Hill") (T := TX2) (v := .int (S 9 9)) hC hP hin_X2 (xo_H (by decide)) rfl 9 (by decide) (List.mem_of_getElem? (i := 2) rfl) rfl rfl dX4_spokenOfBy_19 ?_
    refine xcS_iR (As := [.int ((p0 + p1) + 1), .int (S 9 9)]) (rest := []) hC hP hS (k_J9_floorMod_7cf53 l X S ((p0 + p1) + 1) (S 9 9) (by  exact ⟨(nz_of c_1), trivial⟩)) (va_cwS 2 hts gX4_spokenOfBy_J9_floorMod_7cf53 rfl rfl rfl hs_J9_floorMod_7cf53 ⟨Nat.le_of_ble_eq_true rfl, Nat.le_of_ble_eq_true rfl⟩) rfl rfl hl.1 (Nat.le_of_ble_eq_true rfl) dX4_spokenOfBy_22 (fun r_2 hr_2 H locs hP hS => ?_)
    refine lv_goto (tgt := 29) hx hb dX4_spokenOfBy_25 (by decide) ?_
    exact xret_iR hC hP hS hb hr ((by have hr_2 := hr_2.symm; subst hr_2; exact (iN c_1 rfl))) dX4_spokenOfBy_29 hlocks
theorem hd_X4_speakerOf : yX4_speakerOf.cls = RX4 ∧ yX4_speakerOf.cls ≠ "java/lang/invoke/MethodHandle" ∧ yX4_speakerOf.cls ≠ "java/lang/invoke/VarHandle" ∧ (parseMethodDescriptor yX4_speakerOf.desc).map (fun d => d.parameters.length) = some 2 := by decide +kernel
set_option maxHeartbeats 4000000 in
set_option maxRecDepth 100000 in
theorem k_X4_speakerOf (l : Launch) (X : xX) (S : xS) (p0 : Int32) (p1 : Int32) : Met l yX4_speakerOf wsX4_speakerOf ({ frames := 1, cells := 0, slots := 0, locals := 22 } : Room) (va_Pc [.ref (X.2.1 15), .int p0, .int p1] (xI X S)) (va_Qi (fun (r : Int32) (u : xS) => r = (f_X4_speakerOf S p0 p1) ∧ u = S) (xI X) (xA X)) 0 0 (xA X) := by
  refine Met.ofW (cc := cX4_speakerOf) (maxL := 3) (ret := (some .int)) (by decide +kernel) rfl ?_
  intro p e s m args below meth c s₁ B hml hv
  obtain ⟨rfl, hP, hK, hN, hJ⟩ := hv
  have hx := B.exec
  have hb := B.bytes
  have hr := B.returns
  have hts := atoms_spec (ws := wsX4_speakerOf) B.pre
  have hown : s.vm.findClass RX4 = some m.cls := findClass_of_methodNamed B.named
  have hlocks := B.notSynchronized
  have hC : xC X p m c cX4_speakerOf 3 s _ wsX4_speakerOf RX4 := ⟨⟨hx, hb, hml, hown, hts⟩, hK, hN, hJ⟩
  have hS : va_S (xA X) s.heap s.heap [] := va_S.rf
  have hin_X2 : ∀ w ∈ u_ws RX2 TX2 10, w ∈ wsX4_speakerOf := by decide +kernel
  have hin_X4 : ∀ w ∈ u_ws RX4 TX4 2, w ∈ wsX4_speakerOf := by decide +kernel
  have hl := lv_entry ([.ref (X.2.1 15), .int p0, .int p1]) (n := 3) (Nat.le_of_ble_eq_true rfl)
  rw [lg_entry_eq]
  generalize (lg_sl ([.ref (X.2.1 15), .int p0, .int p1]) ++ List.replicate (3 - (lg_sl ([.ref (X.2.1 15), .int p0, .int p1])).length) Slot.unset).toArray = ls at hl ⊢
  have hl : lv_has ls 3 [(0, .ref (X.2.1 15)), (1, .int p0), (2, .int p1)] := hl
  refine lv_aload_n hx hb dX4_speakerOf_0 rfl (lv_at hl 0 rfl) ?_
  refine xget (ref := "AbsentPraise$Life") (T := TX4) (v := .ref (X.2.1 9)) hC hP hin_X4 xo_X4 rfl 0 (by decide) (List.mem_of_getElem? (i := 1) rfl) rfl rfl dX4_speakerOf_1 ?_
  refine xget (ref := "AbsentPraise$Hill") (T := TX2) (v := .int (S 9 9)) hC hP hin_X2 (xo_H (by decide)) rfl 9 (by decide) (List.mem_of_getElem? (i := 2) rfl) rfl rfl dX4_speakerOf_4 ?_
  refine lv_if_le (tgt := 28) hx hb dX4_speakerOf_7 (by decide) (fun c_1 => ?_) (fun c_1 => ?_)
  · refine lv_iload_n hx hb dX4_speakerOf_28 rfl (lv_at hl 1 rfl) ?_
    exact xret_iR hC hP hS hb hr (((ip c_1 rfl))) dX4_speakerOf_29 hlocks
  · refine lv_iload_n hx hb dX4_speakerOf_10 rfl (lv_at hl 1 rfl) ?_
    refine lv_iload_n hx hb dX4_speakerOf_11 rfl (lv_at hl 2 rfl) ?_
    refine lv_isub hx hb dX4_speakerOf_12 ?_
    refine lv_iconst (v := 1) hx hb dX4_speakerOf_13 (by decide) ?_
    refine lv_isub hx hb dX4_speakerOf_14 ?_
    refine lv_aload_n hx hb dX4_speakerOf_15 rfl (lv_at hl 0 rfl) ?_
    refine xget (ref := "AbsentPraise$Life") (T := TX4) (v := .ref (X.2.1 9)) hC hP hin_X4 xo_X4 rfl 0 (by decide) (List.mem_of_getElem? (i := 1) rfl) rfl rfl dX4_speakerOf_16 ?_
    refine xget (ref := "AbsentPraise$Hill") (T := TX2) (v := .int (S 9 9)) hC hP hin_X2 (xo_H (by decide)) rfl 9 (by decide) (List.mem_of_getElem? (i := 2) rfl) rfl rfl dX4_speakerOf_19 ?_
    refine xcS_iR (As := [.int ((p0 - p1) - 1), .int (S 9 9)]) (rest := []) hC hP hS (k_J9_floorMod_7cf53 l X S ((p0 - p1) - 1) (S 9 9) (by  exact ⟨(nz_of c_1), trivial⟩)) (va_cwS 2 hts gX4_speakerOf_J9_floorMod_7cf53 rfl rfl rfl hs_J9_floorMod_7cf53 ⟨Nat.le_of_ble_eq_true rfl, Nat.le_of_ble_eq_true rfl⟩) rfl rfl hl.1 (Nat.le_of_ble_eq_true rfl) dX4_speakerOf_22 (fun r_2 hr_2 H locs hP hS => ?_)
    refine lv_goto (tgt := 29) hx hb dX4_speakerOf_25 (by decide) ?_
    exact xret_iR hC hP hS hb hr ((by have hr_2 := hr_2.symm; subst hr_2; exact (iN c_1 rfl))) dX4_speakerOf_29 hlocks
theorem hs_X10_bounded : yX10_bounded.cls ≠ "java/lang/invoke/MethodHandle" ∧ yX10_bounded.cls ≠ "java/lang/invoke/VarHandle" ∧ (parseMethodDescriptor yX10_bounded.desc).map (fun d => d.parameters.length) = some 3 := by decide +kernel
set_option maxHeartbeats 4000000 in
set_option maxRecDepth 100000 in
theorem k_X10_bounded (l : Launch) (X : xX) (S : xS) (p0 : Int32) (p1 : Int32) (p2 : Int32) : Met l yX10_bounded wsX10_bounded ({ frames := 1, cells := 0, slots := 0, locals := 21 } : Room) (va_Pc [.int p0, .int p1, .int p2] (xI X S)) (va_Qi (fun (r : Int32) (u : xS) => r = (f_X10_bounded S p0 p1 p2) ∧ u = S) (xI X) (xA X)) 0 0 (xA X) := by
  refine Met.ofW (cc := cX10_bounded) (maxL := 3) (ret := (some .int)) (by decide +kernel) rfl ?_
  intro p e s m args below meth c s₁ B hml hv
  obtain ⟨rfl, hP, hK, hN, hJ⟩ := hv
  have hx := B.exec
  have hb := B.bytes
  have hr := B.returns
  have hts := atoms_spec (ws := wsX10_bounded) B.pre
  have hown : s.vm.findClass RX10 = some m.cls := findClass_of_methodNamed B.named
  have hlocks := B.notSynchronized
  have hC : xC X p m c cX10_bounded 3 s _ wsX10_bounded RX10 := ⟨⟨hx, hb, hml, hown, hts⟩, hK, hN, hJ⟩
  have hS : va_S (xA X) s.heap s.heap [] := va_S.rf
  have hl := lv_entry ([.int p0, .int p1, .int p2]) (n := 3) (Nat.le_of_ble_eq_true rfl)
  rw [lg_entry_eq]
  generalize (lg_sl ([.int p0, .int p1, .int p2]) ++ List.replicate (3 - (lg_sl ([.int p0, .int p1, .int p2])).length) Slot.unset).toArray = ls at hl ⊢
  have hl : lv_has ls 3 [(0, .int p0), (1, .int p1), (2, .int p2)] := hl
  refine lv_iload_n hx hb dX10_bounded_0 rfl (lv_at hl 1 rfl) ?_
  refine lv_iload_n hx hb dX10_bounded_1 rfl (lv_at hl 2 rfl) ?_
  refine lv_iload_n hx hb dX10_bounded_2 rfl (lv_at hl 0 rfl) ?_
  refine va_mmin hx hb (hml.trans hl.1.symm) hown (hts _ (List.mem_of_getElem? (i := 1) rfl)) (hts _ (List.mem_of_getElem? (i := 2) rfl)) (hts _ (List.mem_of_getElem? (i := 3) rfl)) (hts _ (List.mem_of_getElem? (i := 4) rfl)) (Nat.le_of_ble_eq_true rfl) (Nat.le_of_ble_eq_true rfl) (Nat.zero_le _) (Nat.zero_le _) dX10_bounded_3 ?_
  obtain ⟨r_1, hr_1⟩ : ∃ z : Int32, z = (if p0 < p2 then p0 else p2) := ⟨_, rfl⟩
  rw [← hr_1]
  refine va_mmax hx hb (hml.trans hl.1.symm) hown (hts _ (List.mem_of_getElem? (i := 5) rfl)) (hts _ (List.mem_of_getElem? (i := 6) rfl)) (hts _ (List.mem_of_getElem? (i := 3) rfl)) (hts _ (List.mem_of_getElem? (i := 7) rfl)) (Nat.le_of_ble_eq_true rfl) (Nat.le_of_ble_eq_true rfl) (Nat.zero_le _) (Nat.zero_le _) dX10_bounded_6 ?_
  obtain ⟨r_2, hr_2⟩ : ∃ z : Int32, z = (if p1 < r_1 then r_1 else p1) := ⟨_, rfl⟩
  rw [← hr_2]
  exact xret_iR hC hP hS hb hr ((by have hr_1 := hr_1.symm; have hr_2 := hr_2.symm; subst hr_1 hr_2; exact rfl)) dX10_bounded_9 hlocks
theorem hd_X4_warmer : yX4_warmer.cls = RX4 ∧ yX4_warmer.cls ≠ "java/lang/invoke/MethodHandle" ∧ yX4_warmer.cls ≠ "java/lang/invoke/VarHandle" ∧ (parseMethodDescriptor yX4_warmer.desc).map (fun d => d.parameters.length) = some 2 := by decide +kernel
set_option maxHeartbeats 4000000 in
set_option maxRecDepth 100000 in
theorem k_X4_warmer (l : Launch) (X : xX) (S : xS) (p0 : Int32) (p1 : Int32) : Met l yX4_warmer wsX4_warmer ({ frames := 2, cells := 0, slots := 0, locals := 43 } : Room) (va_Pc [.ref (X.2.1 15), .int p0, .int p1] (xI X S)) (va_Qi (fun (r : Int32) (u : xS) => r = (f_X4_warmer S p0 p1) ∧ u = S) (xI X) (xA X)) 0 0 (xA X) := by
  refine Met.ofW (cc := cX4_warmer) (maxL := 3) (ret := (some .int)) (by decide +kernel) rfl ?_
  intro p e s m args below meth c s₁ B hml hv
  obtain ⟨rfl, hP, hK, hN, hJ⟩ := hv
  have hx := B.exec
  have hb := B.bytes
  have hr := B.returns
  have hts := atoms_spec (ws := wsX4_warmer) B.pre
  have hown : s.vm.findClass RX4 = some m.cls := findClass_of_methodNamed B.named
  have hlocks := B.notSynchronized
  have hC : xC X p m c cX4_warmer 3 s _ wsX4_warmer RX4 := ⟨⟨hx, hb, hml, hown, hts⟩, hK, hN, hJ⟩
  have hS : va_S (xA X) s.heap s.heap [] := va_S.rf
  have hl := lv_entry ([.ref (X.2.1 15), .int p0, .int p1]) (n := 3) (Nat.le_of_ble_eq_true rfl)
  rw [lg_entry_eq]
  generalize (lg_sl ([.ref (X.2.1 15), .int p0, .int p1]) ++ List.replicate (3 - (lg_sl ([.ref (X.2.1 15), .int p0, .int p1])).length) Slot.unset).toArray = ls at hl ⊢
  have hl : lv_has ls 3 [(0, .ref (X.2.1 15)), (1, .int p0), (2, .int p1)] := hl
  refine lv_iload_n hx hb dX4_warmer_0 rfl (lv_at hl 1 rfl) ?_
  refine lv_iload_n hx hb dX4_warmer_1 rfl (lv_at hl 2 rfl) ?_
  refine lv_iadd hx hb dX4_warmer_2 ?_
  refine lv_sipush (v := (-9999)) hx hb dX4_warmer_3 (by decide) ?_
  refine lv_sipush (v := 9999) hx hb dX4_warmer_6 (by decide) ?_
  refine xcSN_iR (As := [.int (p0 + p1), .int (-9999), .int 9999]) (rest := []) hC hP hS (k_X10_bounded l X S (p0 + p1) (-9999) 9999) (va_cnB (host := "AbsentPraise") 3 hts gX4_warmer_X10_bounded_n100 rfl rfl rfl (xn_19 hN) (hts (.initialized RX10) (List.mem_of_getElem? (i := 2) rfl)) hs_X10_bounded ⟨Nat.le_of_ble_eq_true rfl, Nat.le_of_ble_eq_true rfl⟩) (hts (.static yX10_bounded) (List.mem_of_getElem? (i := 1) rfl)) rfl rfl hl.1 (Nat.le_of_ble_eq_true rfl) dX4_warmer_9 (fun r_1 hr_1 H locs hP hS => ?_)
  exact xret_iR hC hP hS hb hr ((by have hr_1 := hr_1.symm; subst hr_1; exact rfl)) dX4_warmer_12 hlocks
theorem hd_X4_passHour : yX4_passHour.cls = RX4 ∧ yX4_passHour.cls ≠ "java/lang/invoke/MethodHandle" ∧ yX4_passHour.cls ≠ "java/lang/invoke/VarHandle" ∧ (parseMethodDescriptor yX4_passHour.desc).map (fun d => d.parameters.length) = some 0 := by decide +kernel
set_option maxHeartbeats 4000000 in
set_option maxRecDepth 100000 in
theorem k_X4_passHour (l : Launch) (X : xX) (S : xS) (hs : s_X4_passHour S) : Met l yX4_passHour wsX4_passHour ({ frames := 4, cells := 0, slots := 0, locals := 92 } : Room) (va_Pc [.ref (X.2.1 15)] (xI X S)) (va_Qv (fun u : xS => u = (f_X4_passHour S)) (xI X) (xA X)) 0 0 (xA X) := by
  refine Met.ofW (cc := cX4_passHour) (maxL := 3) (ret := none) (by decide +kernel) rfl ?_
  intro p e s m args below meth c s₁ B hml hv
  obtain ⟨rfl, hP, hK, hN, hJ⟩ := hv
  have hx := B.exec
  have hb := B.bytes
  have hr := B.returns
  have hts := atoms_spec (ws := wsX4_passHour) B.pre
  have hown : s.vm.findClass RX4 = some m.cls := findClass_of_methodNamed B.named
  have hlocks := B.notSynchronized
  have hC : xC X p m c cX4_passHour 3 s _ wsX4_passHour RX4 := ⟨⟨hx, hb, hml, hown, hts⟩, hK, hN, hJ⟩
  have hS : va_S (xA X) s.heap s.heap [] := va_S.rf
  have hin_X2 : ∀ w ∈ u_ws RX2 TX2 10, w ∈ wsX4_passHour := by decide +kernel
  have hin_X4 : ∀ w ∈ u_ws RX4 TX4 2, w ∈ wsX4_passHour := by decide +kernel
  have hin_X7 : ∀ w ∈ u_ws RX7 TX7 6, w ∈ wsX4_passHour := by decide +kernel
  have hl := lv_entry ([.ref (X.2.1 15)]) (n := 3) (Nat.le_of_ble_eq_true rfl)
  rw [lg_entry_eq]
  generalize (lg_sl ([.ref (X.2.1 15)]) ++ List.replicate (3 - (lg_sl ([.ref (X.2.1 15)])).length) Slot.unset).toArray = ls at hl ⊢
  have hl : lv_has ls 3 [(0, .ref (X.2.1 15))] := hl
  refine lv_iconst (v := 0) hx hb dX4_passHour_0 (by decide) ?_
  refine lv_istore_n (lv' := [(1, .int 0), (0, .ref (X.2.1 15))]) hx hb dX4_passHour_1 rfl hl (by decide) rfl (fun ls hl => ?_)
  have hLp_2 : ∀ (n : Nat) (T_2 : xS) (x1_2 : Int32), s_X4_passHour_L2 n T_2 x1_2 → (∀ q : xS, q = f_X4_passHour_L2 n T_2 x1_2 → (∀ (H : Heap) (locs : List Loc), va_P X.1 vwCl (xW X q) H → va_S (xA X) s.heap H locs → ∀ (ls : Array Slot), lv_has ls 3 [(0, .ref (X.2.1 15))] → W p l e ({ frames := 4, cells := 0, slots := 0, locals := 92 } : Room) s m ([.ref (X.2.1 15)] : List Value).toArray below meth c H locs 0 0 (MQ below (va_Qv (fun u : xS => u = (f_X4_passHour S)) (xI X) (xA X)) ([.ref (X.2.1 15)] : List Value).toArray s 0 0 (xA X)) (F0 m 98 ls []))) → ∀ (H : Heap) (locs : List Loc), va_P X.1 vwCl (xW X T_2) H → va_S (xA X) s.heap H locs → ∀ (ls : Array Slot), lv_has ls 3 [(0, .ref (X.2.1 15)), (1, .int x1_2)] → W p l e ({ frames := 4, cells := 0, slots := 0, locals := 92 } : Room) s m ([.ref (X.2.1 15)] : List Value).toArray below meth c H locs 0 0 (MQ below (va_Qv (fun u : xS => u = (f_X4_passHour S)) (xI X) (xA X)) ([.ref (X.2.1 15)] : List Value).toArray s 0 0 (xA X)) (F0 m 2 ls []) := by
    intro n
    induction n with
    | zero => intro T_2 x1_2 hs; exact hs.elim
    | succ n ih_2 =>
      intro T_2 x1_2 hs_2 hex_2 H locs hP hS ls hl
      refine lv_iload_n hx hb dX4_passHour_2 rfl (lv_at hl 1 rfl) ?_
      refine lv_aload_n hx hb dX4_passHour_3 rfl (lv_at hl 0 rfl) ?_
      refine xget (ref := "AbsentPraise$Life") (T := TX4) (v := .ref (X.2.1 9)) hC hP hin_X4 xo_X4 rfl 0 (by decide) (List.mem_of_getElem? (i := 1) rfl) rfl rfl dX4_passHour_4 ?_
      refine xget (ref := "AbsentPraise$Hill") (T := TX2) (v := .int (T_2 9 9)) hC hP hin_X2 (xo_H (by decide)) rfl 9 (by decide) (List.mem_of_getElem? (i := 2) rfl) rfl rfl dX4_passHour_7 ?_
      refine lv_icmp_ge (tgt := 98) hx hb dX4_passHour_10 (by decide) (fun c_1 => ?_) (fun c_1 => ?_)
      · have he_2 : f_X4_passHour_L2 (n + 1) T_2 x1_2 = T_2 := ((ip c_1 rfl))
        exact hex_2 _ he_2.symm _ _ hP hS ls (lv_sub hl [0] rfl)
      · refine lv_aload_n hx hb dX4_passHour_13 rfl (lv_at hl 0 rfl) ?_
        refine lv_iload_n hx hb dX4_passHour_14 rfl (lv_at hl 1 rfl) ?_
        refine lv_aload_n hx hb dX4_passHour_15 rfl (lv_at hl 0 rfl) ?_
        refine xget (ref := "AbsentPraise$Life") (T := TX4) (v := .ref (X.2.1 32)) hC hP hin_X4 xo_X4 rfl 1 (by decide) (List.mem_of_getElem? (i := 3) rfl) rfl rfl dX4_passHour_16 ?_
        refine xget (ref := "AbsentPraise$Talk") (T := TX7) (v := .int (T_2 32 5)) hC hP hin_X7 (xo_T (by decide)) rfl 5 (by decide) (List.mem_of_getElem? (i := 4) rfl) rfl rfl dX4_passHour_19 ?_
        refine xcV_iR (b := 15) (As := [.int x1_2, .int (T_2 32 5)]) (rest := []) hC hP hS (k_X4_spokenOfBy l X T_2 x1_2 (T_2 32 5)) (cwV 2 hts gX4_passHour_X4_spokenOfBy rfl rfl rfl hd_X4_spokenOfBy ⟨Nat.le_of_ble_eq_true rfl, Nat.le_of_ble_eq_true rfl⟩) xo_X4 rfl rfl rfl hl.1 (Nat.le_of_ble_eq_true rfl) dX4_passHour_22 (fun r_3 hr_3 H locs hP hS => ?_)
        refine lv_istore_n (lv' := [(2, .int r_3), (0, .ref (X.2.1 15)), (1, .int x1_2)]) hx hb dX4_passHour_25 rfl hl (by decide) rfl (fun ls hl => ?_)
        refine lv_iload_n hx hb dX4_passHour_26 rfl (lv_at hl 0 rfl) ?_
        refine lv_iload_n hx hb dX4_passHour_27 rfl (lv_at hl 2 rfl) ?_
        refine lv_icmp_eq (tgt := 92) hx hb dX4_passHour_28 (by decide) (fun c_4 => ?_) (fun c_4 => ?_)
        · refine lv_iinc (v := (x1_2 + 1)) (lv' := [(1, .int (x1_2 + 1)), (2, .int r_3), (0, .ref (X.2.1 15))]) hx hb dX4_passHour_92 hl (k := 2) rfl rfl (by decide) rfl (fun ls hl => ?_)
          refine lv_goto (tgt := 2) hx hb dX4_passHour_95 (by decide) ?_
          have he_5 : f_X4_passHour_L2 (n + 1) T_2 x1_2 = f_X4_passHour_L2 n T_2 (x1_2 + 1) := (by have hr_3 := hr_3.symm; subst hr_3; exact (iN c_1 (ip c_4 rfl)))
          exact ih_2 T_2 (x1_2 + 1) (by have hr_3 := hr_3.symm; subst hr_3; exact (sp (sn hs_2 c_1) c_4)) (fun q hq => hex_2 q (hq.trans he_5.symm)) _ _ hP hS ls (lv_sub hl [2, 0] rfl)
        · refine lv_aload_n hx hb dX4_passHour_31 rfl (lv_at hl 1 rfl) ?_
          refine lv_aload_n hx hb dX4_passHour_32 rfl (lv_at hl 1 rfl) ?_
          refine xget (ref := "AbsentPraise$Life") (T := TX4) (v := .ref (X.2.1 32)) hC hP hin_X4 xo_X4 rfl 1 (by decide) (List.mem_of_getElem? (i := 3) rfl) rfl rfl dX4_passHour_33 ?_
          refine xget (ref := "AbsentPraise$Talk") (T := TX7) (v := .ref (X.2.1 33)) hC hP hin_X7 (xo_T (by decide)) rfl 0 (by decide) (List.mem_of_getElem? (i := 5) rfl) rfl rfl dX4_passHour_36 ?_
          refine lv_iload_n hx hb dX4_passHour_39 rfl (lv_at hl 2 rfl) ?_
          refine xcSN_iR (As := [.ref (X.2.1 33), .int x1_2]) (rest := [.ref (X.2.1 15)]) hC hP hS (k_X10_at l X T_2 33 x1_2 rfl) (va_cnB (host := "AbsentPraise") 2 hts gX4_passHour_X10_at_n31 rfl rfl rfl (xn_10 hN) (hts (.initialized RX10) (List.mem_of_getElem? (i := 20) rfl)) hs_X10_at ⟨Nat.le_of_ble_eq_true rfl, Nat.le_of_ble_eq_true rfl⟩) (hts (.static yX10_at) (List.mem_of_getElem? (i := 19) rfl)) rfl rfl hl.1 (Nat.le_of_ble_eq_true rfl) dX4_passHour_40 (fun r_6 hr_6 H locs hP hS => ?_)
          refine lv_aload_n hx hb dX4_passHour_43 rfl (lv_at hl 1 rfl) ?_
          refine xget (ref := "AbsentPraise$Life") (T := TX4) (v := .ref (X.2.1 32)) hC hP hin_X4 xo_X4 rfl 1 (by decide) (List.mem_of_getElem? (i := 3) rfl) rfl rfl dX4_passHour_44 ?_
          refine xget (ref := "AbsentPraise$Talk") (T := TX7) (v := .ref (X.2.1 33)) hC hP hin_X7 (xo_T (by decide)) rfl 0 (by decide) (List.mem_of_getElem? (i := 5) rfl) rfl rfl dX4_passHour_47 ?_
          refine lv_iload_n hx hb dX4_passHour_50 rfl (lv_at hl 0 rfl) ?_
          refine xcSN_iR (As := [.ref (X.2.1 33), .int r_3]) (rest := [.int r_6, .ref (X.2.1 15)]) hC hP hS (k_X10_at l X T_2 33 r_3 rfl) (va_cnB (host := "AbsentPraise") 2 hts gX4_passHour_X10_at_n31 rfl rfl rfl (xn_10 hN) (hts (.initialized RX10) (List.mem_of_getElem? (i := 20) rfl)) hs_X10_at ⟨Nat.le_of_ble_eq_true rfl, Nat.le_of_ble_eq_true rfl⟩) (hts (.static yX10_at) (List.mem_of_getElem? (i := 19) rfl)) rfl rfl hl.1 (Nat.le_of_ble_eq_true rfl) dX4_passHour_51 (fun r_7 hr_7 H locs hP hS => ?_)
          refine xcV_iR (b := 15) (As := [.int r_6, .int r_7]) (rest := []) hC hP hS (k_X4_reaches l X T_2 r_6 r_7) (cwV 2 hts gX4_passHour_X4_reaches rfl rfl rfl hd_X4_reaches ⟨Nat.le_of_ble_eq_true rfl, Nat.le_of_ble_eq_true rfl⟩) xo_X4 rfl rfl rfl hl.1 (Nat.le_of_ble_eq_true rfl) dX4_passHour_54 (fun r_8 hp_r_8 H locs hP hS => ?_)
          obtain ⟨hr_8, hzr_8⟩ := hp_r_8
          refine lv_if_eq (tgt := 92) hx hb dX4_passHour_57 (by decide) (fun c_9 => ?_) (fun c_9 => ?_)
          · refine lv_iinc (v := (x1_2 + 1)) (lv' := [(1, .int (x1_2 + 1)), (2, .int r_3), (0, .ref (X.2.1 15))]) hx hb dX4_passHour_92 hl (k := 2) rfl rfl (by decide) rfl (fun ls hl => ?_)
            refine lv_goto (tgt := 2) hx hb dX4_passHour_95 (by decide) ?_
            have he_10 : f_X4_passHour_L2 (n + 1) T_2 x1_2 = f_X4_passHour_L2 n T_2 (x1_2 + 1) := (by have hr_3 := hr_3.symm; have hr_6 := hr_6.symm; have hr_7 := hr_7.symm; have hr_8 := hr_8.symm; subst hr_3 hr_6 hr_7 hr_8; exact (iN c_1 (iN c_4 (ip c_9 rfl))))
            exact ih_2 T_2 (x1_2 + 1) (by have hr_3 := hr_3.symm; have hr_6 := hr_6.symm; have hr_7 := hr_7.symm; have hr_8 := hr_8.symm; subst hr_3 hr_6 hr_7 hr_8; exact (sp (sn (sn hs_2 c_1) c_4) c_9)) (fun q hq => hex_2 q (hq.trans he_10.symm)) _ _ hP hS ls (lv_sub hl [2, 0] rfl)
          · refine lv_aload_n hx hb dX4_passHour_60 rfl (lv_at hl 1 rfl) ?_
            refine xget (ref := "AbsentPraise$Life") (T := TX4) (v := .ref (X.2.1 32)) hC hP hin_X4 xo_X4 rfl 1 (by decide) (List.mem_of_getElem? (i := 3) rfl) rfl rfl dX4_passHour_61 ?_
            refine xget (ref := "AbsentPraise$Talk") (T := TX7) (v := .ref (X.2.1 34)) hC hP hin_X7 (xo_T (by decide)) rfl 1 (by decide) (List.mem_of_getElem? (i := 6) rfl) rfl rfl dX4_passHour_64 ?_
            refine lv_iload_n hx hb dX4_passHour_67 rfl (lv_at hl 0 rfl) ?_
            refine lv_aload_n hx hb dX4_passHour_68 rfl (lv_at hl 1 rfl) ?_
            refine lv_aload_n hx hb dX4_passHour_69 rfl (lv_at hl 1 rfl) ?_
            refine xget (ref := "AbsentPraise$Life") (T := TX4) (v := .ref (X.2.1 32)) hC hP hin_X4 xo_X4 rfl 1 (by decide) (List.mem_of_getElem? (i := 3) rfl) rfl rfl dX4_passHour_70 ?_
            refine xget (ref := "AbsentPraise$Talk") (T := TX7) (v := .ref (X.2.1 34)) hC hP hin_X7 (xo_T (by decide)) rfl 1 (by decide) (List.mem_of_getElem? (i := 6) rfl) rfl rfl dX4_passHour_73 ?_
            refine lv_iload_n hx hb dX4_passHour_76 rfl (lv_at hl 0 rfl) ?_
            refine xcSN_iR (As := [.ref (X.2.1 34), .int r_3]) (rest := [.ref (X.2.1 15), .int r_3, .ref (X.2.1 34)]) hC hP hS (k_X10_at l X T_2 34 r_3 rfl) (va_cnB (host := "AbsentPraise") 2 hts gX4_passHour_X10_at_n31 rfl rfl rfl (xn_10 hN) (hts (.initialized RX10) (List.mem_of_getElem? (i := 20) rfl)) hs_X10_at ⟨Nat.le_of_ble_eq_true rfl, Nat.le_of_ble_eq_true rfl⟩) (hts (.static yX10_at) (List.mem_of_getElem? (i := 19) rfl)) rfl rfl hl.1 (Nat.le_of_ble_eq_true rfl) dX4_passHour_77 (fun r_11 hr_11 H locs hP hS => ?_)
            refine lv_aload_n hx hb dX4_passHour_80 rfl (lv_at hl 1 rfl) ?_
            refine lv_iload_n hx hb dX4_passHour_81 rfl (lv_at hl 2 rfl) ?_
            refine lv_iload_n hx hb dX4_passHour_82 rfl (lv_at hl 0 rfl) ?_
            refine xcV_iR (b := 15) (As := [.int x1_2, .int r_3]) (rest := [.int r_11, .ref (X.2.1 15), .int r_3, .ref (X.2.1 34)]) hC hP hS (k_X4_saysNow l X T_2 x1_2 r_3) (cwV 2 hts gX4_passHour_X4_saysNow rfl rfl rfl hd_X4_saysNow ⟨Nat.le_of_ble_eq_true rfl, Nat.le_of_ble_eq_true rfl⟩) xo_X4 rfl rfl rfl hl.1 (Nat.le_of_ble_eq_true rfl) dX4_passHour_83 (fun r_12 hr_12 H locs hP hS => ?_)
            refine xcV_iR (b := 15) (As := [.int r_11, .int r_12]) (rest := [.int r_3, .ref (X.2.1 34)]) hC hP hS (k_X4_warmer l X T_2 r_11 r_12) (cwV 2 hts gX4_passHour_X4_warmer rfl rfl rfl hd_X4_warmer ⟨Nat.le_of_ble_eq_true rfl, Nat.le_of_ble_eq_true rfl⟩) xo_X4 rfl rfl rfl hl.1 (Nat.le_of_ble_eq_true rfl) dX4_passHour_86 (fun r_13 hr_13 H locs hP hS => ?_)
            refine xcSN_vW (As := [.ref (X.2.1 34), .int r_3, .int r_13]) (rest := []) hC hP hS (k_X10_put l X T_2 34 r_3 r_13 rfl) (va_cnB (host := "AbsentPraise") 3 hts gX4_passHour_X10_put_n90 rfl rfl rfl (xn_20 hN) (hts (.initialized RX10) (List.mem_of_getElem? (i := 20) rfl)) hs_X10_put ⟨Nat.le_of_ble_eq_true rfl, Nat.le_of_ble_eq_true rfl⟩) (hts (.static yX10_put) (List.mem_of_getElem? (i := 56) rfl)) rfl rfl hl.1 (Nat.le_of_ble_eq_true rfl) dX4_passHour_89 (fun S_14 hS_14 H locs hP hS => ?_)
            refine lv_iinc (v := (x1_2 + 1)) (lv' := [(1, .int (x1_2 + 1)), (2, .int r_3), (0, .ref (X.2.1 15))]) hx hb dX4_passHour_92 hl (k := 2) rfl rfl (by decide) rfl (fun ls hl => ?_)
            refine lv_goto (tgt := 2) hx hb dX4_passHour_95 (by decide) ?_
            have he_15 : f_X4_passHour_L2 (n + 1) T_2 x1_2 = f_X4_passHour_L2 n S_14 (x1_2 + 1) := (by have hr_3 := hr_3.symm; have hr_6 := hr_6.symm; have hr_7 := hr_7.symm; have hr_8 := hr_8.symm; have hr_11 := hr_11.symm; have hr_12 := hr_12.symm; have hr_13 := hr_13.symm; have hS_14 := hS_14.symm; subst hr_3 hr_6 hr_7 hr_8 hr_11 hr_12 hr_13 hS_14; exact (iN c_1 (iN c_4 (iN c_9 rfl))))
            exact ih_2 S_14 (x1_2 + 1) (by have hr_3 := hr_3.symm; have hr_6 := hr_6.symm; have hr_7 := hr_7.symm; have hr_8 := hr_8.symm; have hr_11 := hr_11.symm; have hr_12 := hr_12.symm; have hr_13 := hr_13.symm; have hS_14 := hS_14.symm; subst hr_3 hr_6 hr_7 hr_8 hr_11 hr_12 hr_13 hS_14; exact (sn (sn (sn hs_2 c_1) c_4) c_9)) (fun q hq => hex_2 q (hq.trans he_15.symm)) _ _ hP hS ls (lv_sub hl [2, 0] rfl)
  refine hLp_2 ((fu 0 (S 9 9))) S 0 (nl hs) (fun q_2 hq_2 H locs hP hS ls hl => ?_) _ _ hP hS ls (lv_sub hl [1, 0] rfl)
  refine lv_iconst (v := 0) hx hb dX4_passHour_98 (by decide) ?_
  refine lv_istore_n (lv' := [(1, .int 0), (0, .ref (X.2.1 15))]) hx hb dX4_passHour_99 rfl hl (by decide) rfl (fun ls hl => ?_)
  have hLp_100 : ∀ (n : Nat) (T_100 : xS) (x1_100 : Int32), s_X4_passHour_L100 n T_100 x1_100 → (∀ q : xS, q = f_X4_passHour_L100 n T_100 x1_100 → (∀ (H : Heap) (locs : List Loc), va_P X.1 vwCl (xW X q) H → va_S (xA X) s.heap H locs → ∀ (ls : Array Slot), lv_has ls 3 [(0, .ref (X.2.1 15))] → W p l e ({ frames := 4, cells := 0, slots := 0, locals := 92 } : Room) s m ([.ref (X.2.1 15)] : List Value).toArray below meth c H locs 0 0 (MQ below (va_Qv (fun u : xS => u = (f_X4_passHour S)) (xI X) (xA X)) ([.ref (X.2.1 15)] : List Value).toArray s 0 0 (xA X)) (F0 m 177 ls []))) → ∀ (H : Heap) (locs : List Loc), va_P X.1 vwCl (xW X T_100) H → va_S (xA X) s.heap H locs → ∀ (ls : Array Slot), lv_has ls 3 [(0, .ref (X.2.1 15)), (1, .int x1_100)] → W p l e ({ frames := 4, cells := 0, slots := 0, locals := 92 } : Room) s m ([.ref (X.2.1 15)] : List Value).toArray below meth c H locs 0 0 (MQ below (va_Qv (fun u : xS => u = (f_X4_passHour S)) (xI X) (xA X)) ([.ref (X.2.1 15)] : List Value).toArray s 0 0 (xA X)) (F0 m 100 ls []) := by
    intro n
    induction n with
    | zero => intro T_100 x1_100 hs; exact hs.elim
    | succ n ih_100 =>
      intro T_100 x1_100 hs_100 hex_100 H locs hP hS ls hl
      refine lv_iload_n hx hb dX4_passHour_100 rfl (lv_at hl 1 rfl) ?_
      refine lv_aload_n hx hb dX4_passHour_101 rfl (lv_at hl 0 rfl) ?_
      refine xget (ref := "AbsentPraise$Life") (T := TX4) (v := .ref (X.2.1 9)) hC hP hin_X4 xo_X4 rfl 0 (by decide) (List.mem_of_getElem? (i := 1) rfl) rfl rfl dX4_passHour_102 ?_
      refine xget (ref := "AbsentPraise$Hill") (T := TX2) (v := .int (T_100 9 9)) hC hP hin_X2 (xo_H (by decide)) rfl 9 (by decide) (List.mem_of_getElem? (i := 2) rfl) rfl rfl dX4_passHour_105 ?_
      refine lv_icmp_ge (tgt := 177) hx hb dX4_passHour_108 (by decide) (fun c_16 => ?_) (fun c_16 => ?_)
      · have he_17 : f_X4_passHour_L100 (n + 1) T_100 x1_100 = T_100 := ((ip c_16 rfl))
        exact hex_100 _ he_17.symm _ _ hP hS ls (lv_sub hl [0] rfl)
      · refine lv_aload_n hx hb dX4_passHour_111 rfl (lv_at hl 0 rfl) ?_
        refine xget (ref := "AbsentPraise$Life") (T := TX4) (v := .ref (X.2.1 9)) hC hP hin_X4 xo_X4 rfl 0 (by decide) (List.mem_of_getElem? (i := 1) rfl) rfl rfl dX4_passHour_112 ?_
        refine xget (ref := "AbsentPraise$Hill") (T := TX2) (v := .int (T_100 9 6)) hC hP hin_X2 (xo_H (by decide)) rfl 6 (by decide) (List.mem_of_getElem? (i := 7) rfl) rfl rfl dX4_passHour_115 ?_
        refine lv_aload_n hx hb dX4_passHour_118 rfl (lv_at hl 0 rfl) ?_
        refine xget (ref := "AbsentPraise$Life") (T := TX4) (v := .ref (X.2.1 32)) hC hP hin_X4 xo_X4 rfl 1 (by decide) (List.mem_of_getElem? (i := 3) rfl) rfl rfl dX4_passHour_119 ?_
        refine xget (ref := "AbsentPraise$Talk") (T := TX7) (v := .ref (X.2.1 33)) hC hP hin_X7 (xo_T (by decide)) rfl 0 (by decide) (List.mem_of_getElem? (i := 5) rfl) rfl rfl dX4_passHour_122 ?_
        refine lv_iload_n hx hb dX4_passHour_125 rfl (lv_at hl 1 rfl) ?_
        refine xcSN_iR (As := [.ref (X.2.1 33), .int x1_100]) (rest := [.int (T_100 9 6)]) hC hP hS (k_X10_at l X T_100 33 x1_100 rfl) (va_cnB (host := "AbsentPraise") 2 hts gX4_passHour_X10_at_n31 rfl rfl rfl (xn_10 hN) (hts (.initialized RX10) (List.mem_of_getElem? (i := 20) rfl)) hs_X10_at ⟨Nat.le_of_ble_eq_true rfl, Nat.le_of_ble_eq_true rfl⟩) (hts (.static yX10_at) (List.mem_of_getElem? (i := 19) rfl)) rfl rfl hl.1 (Nat.le_of_ble_eq_true rfl) dX4_passHour_126 (fun r_18 hr_18 H locs hP hS => ?_)
        refine xcSN_iR (As := [.int (T_100 9 6), .int r_18]) (rest := []) hC hP hS (k_X10_has l X T_100 (T_100 9 6) r_18) (va_cnB (host := "AbsentPraise") 2 hts gX4_passHour_X10_has_n35 rfl rfl rfl (xn_11 hN) (hts (.initialized RX10) (List.mem_of_getElem? (i := 20) rfl)) hs_X10_has ⟨Nat.le_of_ble_eq_true rfl, Nat.le_of_ble_eq_true rfl⟩) (hts (.static yX10_has) (List.mem_of_getElem? (i := 27) rfl)) rfl rfl hl.1 (Nat.le_of_ble_eq_true rfl) dX4_passHour_129 (fun r_19 hp_r_19 H locs hP hS => ?_)
        obtain ⟨hr_19, hzr_19⟩ := hp_r_19
        refine lv_if_eq (tgt := 139) hx hb dX4_passHour_132 (by decide) (fun c_20 => ?_) (fun c_20 => ?_)
        · refine lv_iconst (v := (-1)) hx hb dX4_passHour_139 (by decide) ?_
          refine lv_istore_n (lv' := [(2, .int (-1)), (0, .ref (X.2.1 15)), (1, .int x1_100)]) hx hb dX4_passHour_140 rfl hl (by decide) rfl (fun ls hl => ?_)
          refine lv_aload_n hx hb dX4_passHour_141 rfl (lv_at hl 1 rfl) ?_
          refine xget (ref := "AbsentPraise$Life") (T := TX4) (v := .ref (X.2.1 32)) hC hP hin_X4 xo_X4 rfl 1 (by decide) (List.mem_of_getElem? (i := 3) rfl) rfl rfl dX4_passHour_142 ?_
          refine xget (ref := "AbsentPraise$Talk") (T := TX7) (v := .ref (X.2.1 35)) hC hP hin_X7 (xo_T (by decide)) rfl 2 (by decide) (List.mem_of_getElem? (i := 8) rfl) rfl rfl dX4_passHour_145 ?_
          refine lv_iload_n hx hb dX4_passHour_148 rfl (lv_at hl 2 rfl) ?_
          refine lv_aload_n hx hb dX4_passHour_149 rfl (lv_at hl 1 rfl) ?_
          refine xget (ref := "AbsentPraise$Life") (T := TX4) (v := .ref (X.2.1 32)) hC hP hin_X4 xo_X4 rfl 1 (by decide) (List.mem_of_getElem? (i := 3) rfl) rfl rfl dX4_passHour_150 ?_
          refine xget (ref := "AbsentPraise$Talk") (T := TX7) (v := .ref (X.2.1 35)) hC hP hin_X7 (xo_T (by decide)) rfl 2 (by decide) (List.mem_of_getElem? (i := 8) rfl) rfl rfl dX4_passHour_153 ?_
          refine lv_iload_n hx hb dX4_passHour_156 rfl (lv_at hl 2 rfl) ?_
          refine xcSN_iR (As := [.ref (X.2.1 35), .int x1_100]) (rest := [.int x1_100, .ref (X.2.1 35)]) hC hP hS (k_X10_at l X T_100 35 x1_100 rfl) (va_cnB (host := "AbsentPraise") 2 hts gX4_passHour_X10_at_n31 rfl rfl rfl (xn_10 hN) (hts (.initialized RX10) (List.mem_of_getElem? (i := 20) rfl)) hs_X10_at ⟨Nat.le_of_ble_eq_true rfl, Nat.le_of_ble_eq_true rfl⟩) (hts (.static yX10_at) (List.mem_of_getElem? (i := 19) rfl)) rfl rfl hl.1 (Nat.le_of_ble_eq_true rfl) dX4_passHour_157 (fun r_21 hr_21 H locs hP hS => ?_)
          refine lv_iload_n hx hb dX4_passHour_160 rfl (lv_at hl 0 rfl) ?_
          refine lv_iadd hx hb dX4_passHour_161 ?_
          refine lv_iconst (v := 0) hx hb dX4_passHour_162 (by decide) ?_
          refine lv_bipush (v := 99) hx hb dX4_passHour_163 (by decide) ?_
          refine xcSN_iR (As := [.int (r_21 + (-1)), .int 0, .int 99]) (rest := [.int x1_100, .ref (X.2.1 35)]) hC hP hS (k_X10_bounded l X T_100 (r_21 + (-1)) 0 99) (va_cnB (host := "AbsentPraise") 3 hts gX4_passHour_X10_bounded_n100 rfl rfl rfl (xn_19 hN) (hts (.initialized RX10) (List.mem_of_getElem? (i := 20) rfl)) hs_X10_bounded ⟨Nat.le_of_ble_eq_true rfl, Nat.le_of_ble_eq_true rfl⟩) (hts (.static yX10_bounded) (List.mem_of_getElem? (i := 47) rfl)) rfl rfl hl.1 (Nat.le_of_ble_eq_true rfl) dX4_passHour_165 (fun r_22 hr_22 H locs hP hS => ?_)
          refine xcSN_vW (As := [.ref (X.2.1 35), .int x1_100, .int r_22]) (rest := []) hC hP hS (k_X10_put l X T_100 35 x1_100 r_22 rfl) (va_cnB (host := "AbsentPraise") 3 hts gX4_passHour_X10_put_n90 rfl rfl rfl (xn_20 hN) (hts (.initialized RX10) (List.mem_of_getElem? (i := 20) rfl)) hs_X10_put ⟨Nat.le_of_ble_eq_true rfl, Nat.le_of_ble_eq_true rfl⟩) (hts (.static yX10_put) (List.mem_of_getElem? (i := 56) rfl)) rfl rfl hl.1 (Nat.le_of_ble_eq_true rfl) dX4_passHour_168 (fun S_23 hS_23 H locs hP hS => ?_)
          refine lv_iinc (v := (x1_100 + 1)) (lv' := [(1, .int (x1_100 + 1)), (2, .int (-1)), (0, .ref (X.2.1 15))]) hx hb dX4_passHour_171 hl (k := 2) rfl rfl (by decide) rfl (fun ls hl => ?_)
          refine lv_goto (tgt := 100) hx hb dX4_passHour_174 (by decide) ?_
          have he_24 : f_X4_passHour_L100 (n + 1) T_100 x1_100 = f_X4_passHour_L100 n S_23 (x1_100 + 1) := (by have hr_18 := hr_18.symm; have hr_19 := hr_19.symm; have hr_21 := hr_21.symm; have hr_22 := hr_22.symm; have hS_23 := hS_23.symm; subst hr_18 hr_19 hr_21 hr_22 hS_23; exact (iN c_16 (ip c_20 rfl)))
          exact ih_100 S_23 (x1_100 + 1) (by have hr_18 := hr_18.symm; have hr_19 := hr_19.symm; have hr_21 := hr_21.symm; have hr_22 := hr_22.symm; have hS_23 := hS_23.symm; subst hr_18 hr_19 hr_21 hr_22 hS_23; exact (sp (sn hs_100 c_16) c_20)) (fun q hq => hex_100 q (hq.trans he_24.symm)) _ _ hP hS ls (lv_sub hl [2, 0] rfl)
        · refine lv_iconst (v := 1) hx hb dX4_passHour_135 (by decide) ?_
          refine lv_goto (tgt := 140) hx hb dX4_passHour_136 (by decide) ?_
          refine lv_istore_n (lv' := [(2, .int 1), (0, .ref (X.2.1 15)), (1, .int x1_100)]) hx hb dX4_passHour_140 rfl hl (by decide) rfl (fun ls hl => ?_)
          refine lv_aload_n hx hb dX4_passHour_141 rfl (lv_at hl 1 rfl) ?_
          refine xget (ref := "AbsentPraise$Life") (T := TX4) (v := .ref (X.2.1 32)) hC hP hin_X4 xo_X4 rfl 1 (by decide) (List.mem_of_getElem? (i := 3) rfl) rfl rfl dX4_passHour_142 ?_
          refine xget (ref := "AbsentPraise$Talk") (T := TX7) (v := .ref (X.2.1 35)) hC hP hin_X7 (xo_T (by decide)) rfl 2 (by decide) (List.mem_of_getElem? (i := 8) rfl) rfl rfl dX4_passHour_145 ?_
          refine lv_iload_n hx hb dX4_passHour_148 rfl (lv_at hl 2 rfl) ?_
          refine lv_aload_n hx hb dX4_passHour_149 rfl (lv_at hl 1 rfl) ?_
          refine xget (ref := "AbsentPraise$Life") (T := TX4) (v := .ref (X.2.1 32)) hC hP hin_X4 xo_X4 rfl 1 (by decide) (List.mem_of_getElem? (i := 3) rfl) rfl rfl dX4_passHour_150 ?_
          refine xget (ref := "AbsentPraise$Talk") (T := TX7) (v := .ref (X.2.1 35)) hC hP hin_X7 (xo_T (by decide)) rfl 2 (by decide) (List.mem_of_getElem? (i := 8) rfl) rfl rfl dX4_passHour_153 ?_
          refine lv_iload_n hx hb dX4_passHour_156 rfl (lv_at hl 2 rfl) ?_
          refine xcSN_iR (As := [.ref (X.2.1 35), .int x1_100]) (rest := [.int x1_100, .ref (X.2.1 35)]) hC hP hS (k_X10_at l X T_100 35 x1_100 rfl) (va_cnB (host := "AbsentPraise") 2 hts gX4_passHour_X10_at_n31 rfl rfl rfl (xn_10 hN) (hts (.initialized RX10) (List.mem_of_getElem? (i := 20) rfl)) hs_X10_at ⟨Nat.le_of_ble_eq_true rfl, Nat.le_of_ble_eq_true rfl⟩) (hts (.static yX10_at) (List.mem_of_getElem? (i := 19) rfl)) rfl rfl hl.1 (Nat.le_of_ble_eq_true rfl) dX4_passHour_157 (fun r_25 hr_25 H locs hP hS => ?_)
          refine lv_iload_n hx hb dX4_passHour_160 rfl (lv_at hl 0 rfl) ?_
          refine lv_iadd hx hb dX4_passHour_161 ?_
          refine lv_iconst (v := 0) hx hb dX4_passHour_162 (by decide) ?_
          refine lv_bipush (v := 99) hx hb dX4_passHour_163 (by decide) ?_
          refine xcSN_iR (As := [.int (r_25 + 1), .int 0, .int 99]) (rest := [.int x1_100, .ref (X.2.1 35)]) hC hP hS (k_X10_bounded l X T_100 (r_25 + 1) 0 99) (va_cnB (host := "AbsentPraise") 3 hts gX4_passHour_X10_bounded_n100 rfl rfl rfl (xn_19 hN) (hts (.initialized RX10) (List.mem_of_getElem? (i := 20) rfl)) hs_X10_bounded ⟨Nat.le_of_ble_eq_true rfl, Nat.le_of_ble_eq_true rfl⟩) (hts (.static yX10_bounded) (List.mem_of_getElem? (i := 47) rfl)) rfl rfl hl.1 (Nat.le_of_ble_eq_true rfl) dX4_passHour_165 (fun r_26 hr_26 H locs hP hS => ?_)
          refine xcSN_vW (As := [.ref (X.2.1 35), .int x1_100, .int r_26]) (rest := []) hC hP hS (k_X10_put l X T_100 35 x1_100 r_26 rfl) (va_cnB (host := "AbsentPraise") 3 hts gX4_passHour_X10_put_n90 rfl rfl rfl (xn_20 hN) (hts (.initialized RX10) (List.mem_of_getElem? (i := 20) rfl)) hs_X10_put ⟨Nat.le_of_ble_eq_true rfl, Nat.le_of_ble_eq_true rfl⟩) (hts (.static yX10_put) (List.mem_of_getElem? (i := 56) rfl)) rfl rfl hl.1 (Nat.le_of_ble_eq_true rfl) dX4_passHour_168 (fun S_27 hS_27 H locs hP hS => ?_)
          refine lv_iinc (v := (x1_100 + 1)) (lv' := [(1, .int (x1_100 + 1)), (2, .int 1), (0, .ref (X.2.1 15))]) hx hb dX4_passHour_171 hl (k := 2) rfl rfl (by decide) rfl (fun ls hl => ?_)
          refine lv_goto (tgt := 100) hx hb dX4_passHour_174 (by decide) ?_
          have he_28 : f_X4_passHour_L100 (n + 1) T_100 x1_100 = f_X4_passHour_L100 n S_27 (x1_100 + 1) := (by have hr_18 := hr_18.symm; have hr_19 := hr_19.symm; have hr_25 := hr_25.symm; have hr_26 := hr_26.symm; have hS_27 := hS_27.symm; subst hr_18 hr_19 hr_25 hr_26 hS_27; exact (iN c_16 (iN c_20 rfl)))
          exact ih_100 S_27 (x1_100 + 1) (by have hr_18 := hr_18.symm; have hr_19 := hr_19.symm; have hr_25 := hr_25.symm; have hr_26 := hr_26.symm; have hS_27 := hS_27.symm; subst hr_18 hr_19 hr_25 hr_26 hS_27; exact (sn (sn hs_100 c_16) c_20)) (fun q hq => hex_100 q (hq.trans he_28.symm)) _ _ hP hS ls (lv_sub hl [2, 0] rfl)
  refine hLp_100 ((fu 0 (q_2 9 9))) q_2 0 (by have hq_2 := hq_2.symm; subst hq_2; exact nl (nr hs)) (fun q_100 hq_100 H locs hP hS ls hl => ?_) _ _ hP hS ls (lv_sub hl [1, 0] rfl)
  refine lv_aload_n hx hb dX4_passHour_177 rfl (lv_at hl 0 rfl) ?_
  refine xget (ref := "AbsentPraise$Life") (T := TX4) (v := .ref (X.2.1 32)) hC hP hin_X4 xo_X4 rfl 1 (by decide) (List.mem_of_getElem? (i := 3) rfl) rfl rfl dX4_passHour_178 ?_
  refine lv_iconst (v := 0) hx hb dX4_passHour_181 (by decide) ?_
  refine xput (ref := "AbsentPraise$Talk") (T := TX7) (ty := .int) hC hP hS (isT_lt (by decide)) hin_X7 tyX7 tyX7_ok nmX7 (xo_T (by decide)) rfl 4 (by decide) (List.mem_of_getElem? (i := 9) rfl) rfl rfl rfl rfl rfl (Nat.le_of_ble_eq_true rfl) dX4_passHour_182 (xn_X7_4 (by decide)) (fun S_29 hS_29 H locs hP hS => ?_)
  refine lv_aload_n hx hb dX4_passHour_185 rfl (lv_at hl 0 rfl) ?_
  refine xget (ref := "AbsentPraise$Life") (T := TX4) (v := .ref (X.2.1 32)) hC hP hin_X4 xo_X4 rfl 1 (by decide) (List.mem_of_getElem? (i := 3) rfl) rfl rfl dX4_passHour_186 ?_
  refine lv_dup hx hb dX4_passHour_189 rfl ?_
  refine xget (ref := "AbsentPraise$Talk") (T := TX7) (v := .int (S_29 32 5)) hC hP hin_X7 (xo_T (by decide)) rfl 5 (by decide) (List.mem_of_getElem? (i := 4) rfl) rfl rfl dX4_passHour_190 ?_
  refine lv_iconst (v := 1) hx hb dX4_passHour_193 (by decide) ?_
  refine lv_iadd hx hb dX4_passHour_194 ?_
  refine xput (ref := "AbsentPraise$Talk") (T := TX7) (ty := .int) hC hP hS (isT_lt (by decide)) hin_X7 tyX7 tyX7_ok nmX7 (xo_T (by decide)) rfl 5 (by decide) (List.mem_of_getElem? (i := 4) rfl) rfl rfl rfl rfl rfl (Nat.le_of_ble_eq_true rfl) dX4_passHour_195 (xn_X7_5 (by decide)) (fun S_30 hS_30 H locs hP hS => ?_)
  exact xret_v hC hP hS hb hr ((by have hq_2 := hq_2.symm; have hq_100 := hq_100.symm; have hS_29 := hS_29.symm; have hS_30 := hS_30.symm; subst hq_2 hq_100 hS_29 hS_30; exact rfl)) dX4_passHour_198 hlocks
theorem hd_X5_add : yX5_add.cls = RX5 ∧ yX5_add.cls ≠ "java/lang/invoke/MethodHandle" ∧ yX5_add.cls ≠ "java/lang/invoke/VarHandle" ∧ (parseMethodDescriptor yX5_add.desc).map (fun d => d.parameters.length) = some 3 := by decide +kernel
set_option maxHeartbeats 4000000 in
set_option maxRecDepth 100000 in
theorem k_X5_add (l : Launch) (X : xX) (S : xS) (p0 : Int32) (p1 : Int32) (p2 : Int32) : Met l yX5_add wsX5_add ({ frames := 1, cells := 0, slots := 0, locals := 22 } : Room) (va_Pc [.ref (X.2.1 19), .int p0, .int p1, .int p2] (xI X S)) (va_Qi (fun (r : Int32) (u : xS) => r = (f_X5_add S p0 p1 p2).1 ∧ u = (f_X5_add S p0 p1 p2).2) (xI X) (xA X)) 0 0 (xA X) := by
  refine Met.ofW (cc := cX5_add) (maxL := 4) (ret := (some .int)) (by decide +kernel) rfl ?_
  intro p e s m args below meth c s₁ B hml hv
  obtain ⟨rfl, hP, hK, hN, hJ⟩ := hv
  have hx := B.exec
  have hb := B.bytes
  have hr := B.returns
  have hts := atoms_spec (ws := wsX5_add) B.pre
  have hown : s.vm.findClass RX5 = some m.cls := findClass_of_methodNamed B.named
  have hlocks := B.notSynchronized
  have hC : xC X p m c cX5_add 4 s _ wsX5_add RX5 := ⟨⟨hx, hb, hml, hown, hts⟩, hK, hN, hJ⟩
  have hS : va_S (xA X) s.heap s.heap [] := va_S.rf
  have hin_X5 : ∀ w ∈ u_ws RX5 TX5 4, w ∈ wsX5_add := by decide +kernel
  have hl := lv_entry ([.ref (X.2.1 19), .int p0, .int p1, .int p2]) (n := 4) (Nat.le_of_ble_eq_true rfl)
  rw [lg_entry_eq]
  generalize (lg_sl ([.ref (X.2.1 19), .int p0, .int p1, .int p2]) ++ List.replicate (4 - (lg_sl ([.ref (X.2.1 19), .int p0, .int p1, .int p2])).length) Slot.unset).toArray = ls at hl ⊢
  have hl : lv_has ls 4 [(0, .ref (X.2.1 19)), (1, .int p0), (2, .int p1), (3, .int p2)] := hl
  refine lv_aload_n hx hb dX5_add_0 rfl (lv_at hl 0 rfl) ?_
  refine xget (ref := "AbsentPraise$Notes") (T := TX5) (v := .ref (X.2.1 20)) hC hP hin_X5 xo_X5 rfl 0 (by decide) (List.mem_of_getElem? (i := 1) rfl) rfl rfl dX5_add_1 ?_
  refine lv_aload_n hx hb dX5_add_4 rfl (lv_at hl 0 rfl) ?_
  refine xget (ref := "AbsentPraise$Notes") (T := TX5) (v := .int (S 19 3)) hC hP hin_X5 xo_X5 rfl 3 (by decide) (List.mem_of_getElem? (i := 2) rfl) rfl rfl dX5_add_5 ?_
  refine lv_iload_n hx hb dX5_add_8 rfl (lv_at hl 1 rfl) ?_
  refine xcSN_vW (As := [.ref (X.2.1 20), .int (S 19 3), .int p0]) (rest := []) hC hP hS (k_X10_put l X S 20 (S 19 3) p0 rfl) (va_cnB (host := "AbsentPraise") 3 hts gX5_add_X10_put_n25 rfl rfl rfl (xn_22 hN) (hts (.initialized RX10) (List.mem_of_getElem? (i := 6) rfl)) hs_X10_put ⟨Nat.le_of_ble_eq_true rfl, Nat.le_of_ble_eq_true rfl⟩) (hts (.static yX10_put) (List.mem_of_getElem? (i := 5) rfl)) rfl rfl hl.1 (Nat.le_of_ble_eq_true rfl) dX5_add_9 (fun S_1 hS_1 H locs hP hS => ?_)
  refine lv_aload_n hx hb dX5_add_12 rfl (lv_at hl 0 rfl) ?_
  refine xget (ref := "AbsentPraise$Notes") (T := TX5) (v := .ref (X.2.1 21)) hC hP hin_X5 xo_X5 rfl 1 (by decide) (List.mem_of_getElem? (i := 3) rfl) rfl rfl dX5_add_13 ?_
  refine lv_aload_n hx hb dX5_add_16 rfl (lv_at hl 0 rfl) ?_
  refine xget (ref := "AbsentPraise$Notes") (T := TX5) (v := .int (S_1 19 3)) hC hP hin_X5 xo_X5 rfl 3 (by decide) (List.mem_of_getElem? (i := 2) rfl) rfl rfl dX5_add_17 ?_
  refine lv_iload_n hx hb dX5_add_20 rfl (lv_at hl 2 rfl) ?_
  refine xcSN_vW (As := [.ref (X.2.1 21), .int (S_1 19 3), .int p1]) (rest := []) hC hP hS (k_X10_put l X S_1 21 (S_1 19 3) p1 rfl) (va_cnB (host := "AbsentPraise") 3 hts gX5_add_X10_put_n25 rfl rfl rfl (xn_22 hN) (hts (.initialized RX10) (List.mem_of_getElem? (i := 6) rfl)) hs_X10_put ⟨Nat.le_of_ble_eq_true rfl, Nat.le_of_ble_eq_true rfl⟩) (hts (.static yX10_put) (List.mem_of_getElem? (i := 5) rfl)) rfl rfl hl.1 (Nat.le_of_ble_eq_true rfl) dX5_add_21 (fun S_2 hS_2 H locs hP hS => ?_)
  refine lv_aload_n hx hb dX5_add_24 rfl (lv_at hl 0 rfl) ?_
  refine xget (ref := "AbsentPraise$Notes") (T := TX5) (v := .ref (X.2.1 22)) hC hP hin_X5 xo_X5 rfl 2 (by decide) (List.mem_of_getElem? (i := 4) rfl) rfl rfl dX5_add_25 ?_
  refine lv_aload_n hx hb dX5_add_28 rfl (lv_at hl 0 rfl) ?_
  refine xget (ref := "AbsentPraise$Notes") (T := TX5) (v := .int (S_2 19 3)) hC hP hin_X5 xo_X5 rfl 3 (by decide) (List.mem_of_getElem? (i := 2) rfl) rfl rfl dX5_add_29 ?_
  refine lv_iload_n hx hb dX5_add_32 rfl (lv_at hl 3 rfl) ?_
  refine lv_if_eq (tgt := 40) hx hb dX5_add_33 (by decide) (fun c_3 => ?_) (fun c_3 => ?_)
  · refine lv_iconst (v := 0) hx hb dX5_add_40 (by decide) ?_
    refine xcSN_vW (As := [.ref (X.2.1 22), .int (S_2 19 3), .int 0]) (rest := []) hC hP hS (k_X10_put l X S_2 22 (S_2 19 3) 0 rfl) (va_cnB (host := "AbsentPraise") 3 hts gX5_add_X10_put_n25 rfl rfl rfl (xn_22 hN) (hts (.initialized RX10) (List.mem_of_getElem? (i := 6) rfl)) hs_X10_put ⟨Nat.le_of_ble_eq_true rfl, Nat.le_of_ble_eq_true rfl⟩) (hts (.static yX10_put) (List.mem_of_getElem? (i := 5) rfl)) rfl rfl hl.1 (Nat.le_of_ble_eq_true rfl) dX5_add_41 (fun S_4 hS_4 H locs hP hS => ?_)
    refine lv_aload_n hx hb dX5_add_44 rfl (lv_at hl 0 rfl) ?_
    refine lv_dup hx hb dX5_add_45 rfl ?_
    refine xget (ref := "AbsentPraise$Notes") (T := TX5) (v := .int (S_4 19 3)) hC hP hin_X5 xo_X5 rfl 3 (by decide) (List.mem_of_getElem? (i := 2) rfl) rfl rfl dX5_add_46 ?_
    refine lv_iconst (v := 1) hx hb dX5_add_49 (by decide) ?_
    refine lv_iadd hx hb dX5_add_50 ?_
    refine xput (ref := "AbsentPraise$Notes") (T := TX5) (ty := .int) hC hP hS (by decide) hin_X5 tyX5 tyX5_ok nmX5 xo_X5 rfl 3 (by decide) (List.mem_of_getElem? (i := 2) rfl) rfl rfl rfl rfl rfl (Nat.le_of_ble_eq_true rfl) dX5_add_51 rfl (fun S_5 hS_5 H locs hP hS => ?_)
    refine lv_aload_n hx hb dX5_add_54 rfl (lv_at hl 0 rfl) ?_
    refine xget (ref := "AbsentPraise$Notes") (T := TX5) (v := .int (S_5 19 3)) hC hP hin_X5 xo_X5 rfl 3 (by decide) (List.mem_of_getElem? (i := 2) rfl) rfl rfl dX5_add_55 ?_
    exact xret_iW hC hP hS hb hr ((by have hS_1 := hS_1.symm; have hS_2 := hS_2.symm; have hS_4 := hS_4.symm; have hS_5 := hS_5.symm; subst hS_1 hS_2 hS_4 hS_5; exact (ip c_3 rfl))) dX5_add_58 hlocks
  · refine lv_iconst (v := 1) hx hb dX5_add_36 (by decide) ?_
    refine lv_goto (tgt := 41) hx hb dX5_add_37 (by decide) ?_
    refine xcSN_vW (As := [.ref (X.2.1 22), .int (S_2 19 3), .int 1]) (rest := []) hC hP hS (k_X10_put l X S_2 22 (S_2 19 3) 1 rfl) (va_cnB (host := "AbsentPraise") 3 hts gX5_add_X10_put_n25 rfl rfl rfl (xn_22 hN) (hts (.initialized RX10) (List.mem_of_getElem? (i := 6) rfl)) hs_X10_put ⟨Nat.le_of_ble_eq_true rfl, Nat.le_of_ble_eq_true rfl⟩) (hts (.static yX10_put) (List.mem_of_getElem? (i := 5) rfl)) rfl rfl hl.1 (Nat.le_of_ble_eq_true rfl) dX5_add_41 (fun S_6 hS_6 H locs hP hS => ?_)
    refine lv_aload_n hx hb dX5_add_44 rfl (lv_at hl 0 rfl) ?_
    refine lv_dup hx hb dX5_add_45 rfl ?_
    refine xget (ref := "AbsentPraise$Notes") (T := TX5) (v := .int (S_6 19 3)) hC hP hin_X5 xo_X5 rfl 3 (by decide) (List.mem_of_getElem? (i := 2) rfl) rfl rfl dX5_add_46 ?_
    refine lv_iconst (v := 1) hx hb dX5_add_49 (by decide) ?_
    refine lv_iadd hx hb dX5_add_50 ?_
    refine xput (ref := "AbsentPraise$Notes") (T := TX5) (ty := .int) hC hP hS (by decide) hin_X5 tyX5 tyX5_ok nmX5 xo_X5 rfl 3 (by decide) (List.mem_of_getElem? (i := 2) rfl) rfl rfl rfl rfl rfl (Nat.le_of_ble_eq_true rfl) dX5_add_51 rfl (fun S_7 hS_7 H locs hP hS => ?_)
    refine lv_aload_n hx hb dX5_add_54 rfl (lv_at hl 0 rfl) ?_
    refine xget (ref := "AbsentPraise$Notes") (T := TX5) (v := .int (S_7 19 3)) hC hP hin_X5 xo_X5 rfl 3 (by decide) (List.mem_of_getElem? (i := 2) rfl) rfl rfl dX5_add_55 ?_
    exact xret_iW hC hP hS hb hr ((by have hS_1 := hS_1.symm; have hS_2 := hS_2.symm; have hS_6 := hS_6.symm; have hS_7 := hS_7.symm; subst hS_1 hS_2 hS_6 hS_7; exact (iN c_3 rfl))) dX5_add_58 hlocks
theorem hd_X5_fits : yX5_fits.cls = RX5 ∧ yX5_fits.cls ≠ "java/lang/invoke/MethodHandle" ∧ yX5_fits.cls ≠ "java/lang/invoke/VarHandle" ∧ (parseMethodDescriptor yX5_fits.desc).map (fun d => d.parameters.length) = some 1 := by decide +kernel
set_option maxHeartbeats 4000000 in
set_option maxRecDepth 100000 in
theorem k_X5_fits (l : Launch) (X : xX) (S : xS) (p0 : Int32) (hs : s_X5_fits S p0) : Met l yX5_fits wsX5_fits ({ frames := 1, cells := 0, slots := 0, locals := 23 } : Room) (va_Pc [.ref (X.2.1 19), .int p0] (xI X S)) (va_Qi (fun (r : Int32) (u : xS) => (r = (f_X5_fits S p0) ∧ (r = 0 ∨ r = 1)) ∧ u = S) (xI X) (xA X)) 0 0 (xA X) := by
  refine Met.ofW (cc := cX5_fits) (maxL := 3) (ret := (some .boolean)) (by decide +kernel) rfl ?_
  intro p e s m args below meth c s₁ B hml hv
  obtain ⟨rfl, hP, hK, hN, hJ⟩ := hv
  have hx := B.exec
  have hb := B.bytes
  have hr := B.returns
  have hts := atoms_spec (ws := wsX5_fits) B.pre
  have hown : s.vm.findClass RX5 = some m.cls := findClass_of_methodNamed B.named
  have hlocks := B.notSynchronized
  have hC : xC X p m c cX5_fits 3 s _ wsX5_fits RX5 := ⟨⟨hx, hb, hml, hown, hts⟩, hK, hN, hJ⟩
  have hS : va_S (xA X) s.heap s.heap [] := va_S.rf
  have hin_X5 : ∀ w ∈ u_ws RX5 TX5 4, w ∈ wsX5_fits := by decide +kernel
  have hl := lv_entry ([.ref (X.2.1 19), .int p0]) (n := 3) (Nat.le_of_ble_eq_true rfl)
  rw [lg_entry_eq]
  generalize (lg_sl ([.ref (X.2.1 19), .int p0]) ++ List.replicate (3 - (lg_sl ([.ref (X.2.1 19), .int p0])).length) Slot.unset).toArray = ls at hl ⊢
  have hl : lv_has ls 3 [(0, .ref (X.2.1 19)), (1, .int p0)] := hl
  refine lv_iconst (v := 0) hx hb dX5_fits_0 (by decide) ?_
  refine lv_istore_n (lv' := [(2, .int 0), (0, .ref (X.2.1 19)), (1, .int p0)]) hx hb dX5_fits_1 rfl hl (by decide) rfl (fun ls hl => ?_)
  have hLp_2 : ∀ (n : Nat) (x1_2 : Int32) (x2_2 : Int32), s_X5_fits_L2 n S x1_2 x2_2 → (∀ q : Unit, f_X5_fits_L2 n S x1_2 x2_2 = .inr q → (∀ (H : Heap) (locs : List Loc), va_P X.1 vwCl (xW X S) H → va_S (xA X) s.heap H locs → ∀ (ls : Array Slot), lv_has ls 3 [] → W p l e ({ frames := 1, cells := 0, slots := 0, locals := 23 } : Room) s m ([.ref (X.2.1 19), .int p0] : List Value).toArray below meth c H locs 0 0 (MQ below (va_Qi (fun (r : Int32) (u : xS) => (r = (f_X5_fits S p0) ∧ (r = 0 ∨ r = 1)) ∧ u = S) (xI X) (xA X)) ([.ref (X.2.1 19), .int p0] : List Value).toArray s 0 0 (xA X)) (F0 m 58 ls []))) → (∀ r : Int32, (r = 0 ∨ r = 1) → f_X5_fits_L2 n S x1_2 x2_2 = .inl r → ∀ (H : Heap) (locs : List Loc), va_P X.1 vwCl (xW X S) H → va_S (xA X) s.heap H locs → ∀ (pc : Nat) (ls : Array Slot), decode cX5_fits pc = .ok (.ireturn, 1) → W p l e ({ frames := 1, cells := 0, slots := 0, locals := 23 } : Room) s m ([.ref (X.2.1 19), .int p0] : List Value).toArray below meth c H locs 0 0 (MQ below (va_Qi (fun (r : Int32) (u : xS) => (r = (f_X5_fits S p0) ∧ (r = 0 ∨ r = 1)) ∧ u = S) (xI X) (xA X)) ([.ref (X.2.1 19), .int p0] : List Value).toArray s 0 0 (xA X)) (F0 m pc ls [.int r])) → ∀ (H : Heap) (locs : List Loc), va_P X.1 vwCl (xW X S) H → va_S (xA X) s.heap H locs → ∀ (ls : Array Slot), lv_has ls 3 [(0, .ref (X.2.1 19)), (1, .int x1_2), (2, .int x2_2)] → W p l e ({ frames := 1, cells := 0, slots := 0, locals := 23 } : Room) s m ([.ref (X.2.1 19), .int p0] : List Value).toArray below meth c H locs 0 0 (MQ below (va_Qi (fun (r : Int32) (u : xS) => (r = (f_X5_fits S p0) ∧ (r = 0 ∨ r = 1)) ∧ u = S) (xI X) (xA X)) ([.ref (X.2.1 19), .int p0] : List Value).toArray s 0 0 (xA X)) (F0 m 2 ls []) := by
    intro n
    induction n with
    | zero => intro x1_2 x2_2 hs; exact hs.elim
    | succ n ih_2 =>
      intro x1_2 x2_2 hs_2 hex_2 hret_2 H locs hP hS ls hl
      refine lv_iload_n hx hb dX5_fits_2 rfl (lv_at hl 2 rfl) ?_
      refine lv_aload_n hx hb dX5_fits_3 rfl (lv_at hl 0 rfl) ?_
      refine xget (ref := "AbsentPraise$Notes") (T := TX5) (v := .int (S 19 3)) hC hP hin_X5 xo_X5 rfl 3 (by decide) (List.mem_of_getElem? (i := 1) rfl) rfl rfl dX5_fits_4 ?_
      refine lv_icmp_ge (tgt := 58) hx hb dX5_fits_7 (by decide) (fun c_1 => ?_) (fun c_1 => ?_)
      · have he_2 : f_X5_fits_L2 (n + 1) S x1_2 x2_2 = .inr () := ((ip c_1 rfl))
        exact hex_2 _ he_2 _ _ hP hS ls (lv_sub hl [] rfl)
      · refine lv_aload_n hx hb dX5_fits_10 rfl (lv_at hl 0 rfl) ?_
        refine xget (ref := "AbsentPraise$Notes") (T := TX5) (v := .ref (X.2.1 20)) hC hP hin_X5 xo_X5 rfl 0 (by decide) (List.mem_of_getElem? (i := 2) rfl) rfl rfl dX5_fits_11 ?_
        refine lv_iload_n hx hb dX5_fits_14 rfl (lv_at hl 2 rfl) ?_
        refine xcSN_iR (As := [.ref (X.2.1 20), .int x2_2]) (rest := []) hC hP hS (k_X10_at l X S 20 x2_2 rfl) (va_cnB (host := "AbsentPraise") 2 hts gX5_fits_X10_at_n37 rfl rfl rfl (xn_23 hN) (hts (.initialized RX10) (List.mem_of_getElem? (i := 6) rfl)) hs_X10_at ⟨Nat.le_of_ble_eq_true rfl, Nat.le_of_ble_eq_true rfl⟩) (hts (.static yX10_at) (List.mem_of_getElem? (i := 5) rfl)) rfl rfl hl.1 (Nat.le_of_ble_eq_true rfl) dX5_fits_15 (fun r_3 hr_3 H locs hP hS => ?_)
        refine lv_iload_n hx hb dX5_fits_18 rfl (lv_at hl 1 rfl) ?_
        refine lv_aload_n hx hb dX5_fits_19 rfl (lv_at hl 0 rfl) ?_
        refine xget (ref := "AbsentPraise$Notes") (T := TX5) (v := .ref (X.2.1 22)) hC hP hin_X5 xo_X5 rfl 2 (by decide) (List.mem_of_getElem? (i := 3) rfl) rfl rfl dX5_fits_20 ?_
        refine lv_iload_n hx hb dX5_fits_23 rfl (lv_at hl 2 rfl) ?_
        refine xcSN_iR (As := [.ref (X.2.1 22), .int x2_2]) (rest := [.int x1_2, .int r_3]) hC hP hS (k_X10_at l X S 22 x2_2 rfl) (va_cnB (host := "AbsentPraise") 2 hts gX5_fits_X10_at_n37 rfl rfl rfl (xn_23 hN) (hts (.initialized RX10) (List.mem_of_getElem? (i := 6) rfl)) hs_X10_at ⟨Nat.le_of_ble_eq_true rfl, Nat.le_of_ble_eq_true rfl⟩) (hts (.static yX10_at) (List.mem_of_getElem? (i := 5) rfl)) rfl rfl hl.1 (Nat.le_of_ble_eq_true rfl) dX5_fits_24 (fun r_4 hr_4 H locs hP hS => ?_)
        refine lv_iconst (v := 1) hx hb dX5_fits_27 (by decide) ?_
        refine lv_icmp_ne (tgt := 35) hx hb dX5_fits_28 (by decide) (fun c_5 => ?_) (fun c_5 => ?_)
        · refine lv_iconst (v := 0) hx hb dX5_fits_35 (by decide) ?_
          refine xcSN_iR (As := [.int r_3, .int x1_2, .int 0]) (rest := []) hC hP hS (k_X10_words l X S r_3 x1_2 0) (va_cnB (host := "AbsentPraise") 3 hts gX5_fits_X10_words_n41 rfl rfl rfl (xn_24 hN) (hts (.initialized RX10) (List.mem_of_getElem? (i := 6) rfl)) hs_X10_words ⟨Nat.le_of_ble_eq_true rfl, Nat.le_of_ble_eq_true rfl⟩) (hts (.static yX10_words) (List.mem_of_getElem? (i := 8) rfl)) rfl rfl hl.1 (Nat.le_of_ble_eq_true rfl) dX5_fits_36 (fun r_6 hr_6 H locs hP hS => ?_)
          refine lv_aload_n hx hb dX5_fits_39 rfl (lv_at hl 0 rfl) ?_
          refine xget (ref := "AbsentPraise$Notes") (T := TX5) (v := .ref (X.2.1 21)) hC hP hin_X5 xo_X5 rfl 1 (by decide) (List.mem_of_getElem? (i := 4) rfl) rfl rfl dX5_fits_40 ?_
          refine lv_iload_n hx hb dX5_fits_43 rfl (lv_at hl 2 rfl) ?_
          refine xcSN_iR (As := [.ref (X.2.1 21), .int x2_2]) (rest := [.int r_6]) hC hP hS (k_X10_at l X S 21 x2_2 rfl) (va_cnB (host := "AbsentPraise") 2 hts gX5_fits_X10_at_n37 rfl rfl rfl (xn_23 hN) (hts (.initialized RX10) (List.mem_of_getElem? (i := 6) rfl)) hs_X10_at ⟨Nat.le_of_ble_eq_true rfl, Nat.le_of_ble_eq_true rfl⟩) (hts (.static yX10_at) (List.mem_of_getElem? (i := 5) rfl)) rfl rfl hl.1 (Nat.le_of_ble_eq_true rfl) dX5_fits_44 (fun r_7 hr_7 H locs hP hS => ?_)
          refine lv_icmp_eq (tgt := 52) hx hb dX5_fits_47 (by decide) (fun c_8 => ?_) (fun c_8 => ?_)
          · refine lv_iinc (v := (x2_2 + 1)) (lv' := [(2, .int (x2_2 + 1)), (0, .ref (X.2.1 19)), (1, .int x1_2)]) hx hb dX5_fits_52 hl (k := 2) rfl rfl (by decide) rfl (fun ls hl => ?_)
            refine lv_goto (tgt := 2) hx hb dX5_fits_55 (by decide) ?_
            have he_9 : f_X5_fits_L2 (n + 1) S x1_2 x2_2 = f_X5_fits_L2 n S x1_2 (x2_2 + 1) := (by have hr_3 := hr_3.symm; have hr_4 := hr_4.symm; have hr_6 := hr_6.symm; have hr_7 := hr_7.symm; subst hr_3 hr_4 hr_6 hr_7; exact (iN c_1 (iN c_5 (ip c_8 rfl))))
            exact ih_2 x1_2 (x2_2 + 1) (by have hr_3 := hr_3.symm; have hr_4 := hr_4.symm; have hr_6 := hr_6.symm; have hr_7 := hr_7.symm; subst hr_3 hr_4 hr_6 hr_7; exact (sp (sn (sn hs_2 c_1) c_5) c_8)) (fun q hq => hex_2 q (he_9.trans hq)) (fun r hz hq => hret_2 r hz (he_9.trans hq)) _ _ hP hS ls (lv_sub hl [1, 2, 0] rfl)
          · refine lv_iconst (v := 0) hx hb dX5_fits_50 (by decide) ?_
            have he_10 : f_X5_fits_L2 (n + 1) S x1_2 x2_2 = .inl (0) := (by have hr_3 := hr_3.symm; have hr_4 := hr_4.symm; have hr_6 := hr_6.symm; have hr_7 := hr_7.symm; subst hr_3 hr_4 hr_6 hr_7; exact (iN c_1 (iN c_5 (iN c_8 rfl))))
            exact hret_2 _ (.inl rfl) he_10 _ _ hP hS 51 ls dX5_fits_51
        · refine lv_iconst (v := 1) hx hb dX5_fits_31 (by decide) ?_
          refine lv_goto (tgt := 36) hx hb dX5_fits_32 (by decide) ?_
          refine xcSN_iR (As := [.int r_3, .int x1_2, .int 1]) (rest := []) hC hP hS (k_X10_words l X S r_3 x1_2 1) (va_cnB (host := "AbsentPraise") 3 hts gX5_fits_X10_words_n41 rfl rfl rfl (xn_24 hN) (hts (.initialized RX10) (List.mem_of_getElem? (i := 6) rfl)) hs_X10_words ⟨Nat.le_of_ble_eq_true rfl, Nat.le_of_ble_eq_true rfl⟩) (hts (.static yX10_words) (List.mem_of_getElem? (i := 8) rfl)) rfl rfl hl.1 (Nat.le_of_ble_eq_true rfl) dX5_fits_36 (fun r_11 hr_11 H locs hP hS => ?_)
          refine lv_aload_n hx hb dX5_fits_39 rfl (lv_at hl 0 rfl) ?_
          refine xget (ref := "AbsentPraise$Notes") (T := TX5) (v := .ref (X.2.1 21)) hC hP hin_X5 xo_X5 rfl 1 (by decide) (List.mem_of_getElem? (i := 4) rfl) rfl rfl dX5_fits_40 ?_
          refine lv_iload_n hx hb dX5_fits_43 rfl (lv_at hl 2 rfl) ?_
          refine xcSN_iR (As := [.ref (X.2.1 21), .int x2_2]) (rest := [.int r_11]) hC hP hS (k_X10_at l X S 21 x2_2 rfl) (va_cnB (host := "AbsentPraise") 2 hts gX5_fits_X10_at_n37 rfl rfl rfl (xn_23 hN) (hts (.initialized RX10) (List.mem_of_getElem? (i := 6) rfl)) hs_X10_at ⟨Nat.le_of_ble_eq_true rfl, Nat.le_of_ble_eq_true rfl⟩) (hts (.static yX10_at) (List.mem_of_getElem? (i := 5) rfl)) rfl rfl hl.1 (Nat.le_of_ble_eq_true rfl) dX5_fits_44 (fun r_12 hr_12 H locs hP hS => ?_)
          refine lv_icmp_eq (tgt := 52) hx hb dX5_fits_47 (by decide) (fun c_13 => ?_) (fun c_13 => ?_)
          · refine lv_iinc (v := (x2_2 + 1)) (lv' := [(2, .int (x2_2 + 1)), (0, .ref (X.2.1 19)), (1, .int x1_2)]) hx hb dX5_fits_52 hl (k := 2) rfl rfl (by decide) rfl (fun ls hl => ?_)
            refine lv_goto (tgt := 2) hx hb dX5_fits_55 (by decide) ?_
            have he_14 : f_X5_fits_L2 (n + 1) S x1_2 x2_2 = f_X5_fits_L2 n S x1_2 (x2_2 + 1) := (by have hr_3 := hr_3.symm; have hr_4 := hr_4.symm; have hr_11 := hr_11.symm; have hr_12 := hr_12.symm; subst hr_3 hr_4 hr_11 hr_12; exact (iN c_1 (ip c_5 (ip c_13 rfl))))
            exact ih_2 x1_2 (x2_2 + 1) (by have hr_3 := hr_3.symm; have hr_4 := hr_4.symm; have hr_11 := hr_11.symm; have hr_12 := hr_12.symm; subst hr_3 hr_4 hr_11 hr_12; exact (sp (sp (sn hs_2 c_1) c_5) c_13)) (fun q hq => hex_2 q (he_14.trans hq)) (fun r hz hq => hret_2 r hz (he_14.trans hq)) _ _ hP hS ls (lv_sub hl [1, 2, 0] rfl)
          · refine lv_iconst (v := 0) hx hb dX5_fits_50 (by decide) ?_
            have he_15 : f_X5_fits_L2 (n + 1) S x1_2 x2_2 = .inl (0) := (by have hr_3 := hr_3.symm; have hr_4 := hr_4.symm; have hr_11 := hr_11.symm; have hr_12 := hr_12.symm; subst hr_3 hr_4 hr_11 hr_12; exact (iN c_1 (ip c_5 (iN c_13 rfl))))
            exact hret_2 _ (.inl rfl) he_15 _ _ hP hS 51 ls dX5_fits_51
  refine hLp_2 ((fu 0 (S 19 3))) p0 0 (nl hs) (fun q_2 hq_2 H locs hP hS ls hl => ?_) (fun r hz_2 hr_2 H locs hP hS pc_2 ls hd_2 => ?_) _ _ hP hS ls (lv_sub hl [1, 2, 0] rfl)
  · refine lv_iconst (v := 1) hx hb dX5_fits_58 (by decide) ?_
    exact xret_zR hC hP hS hb hr (.inr rfl) (((sm_r hq_2 rfl))) dX5_fits_59 hlocks
  · exact xret_zR hC hP hS hb hr hz_2 (((sm_l hr_2 rfl))) hd_2 hlocks
