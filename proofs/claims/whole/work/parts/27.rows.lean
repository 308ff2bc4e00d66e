set_option linter.all false
/-! contracts: X11_in, X11_has, X11_ones, X11_isRoom, X11_isPerson, X11_areTwo, X11_feed, X11_here, X11_fails -/
theorem hs_X11_in : yX11_in.cls ≠ "java/lang/invoke/MethodHandle" ∧ yX11_in.cls ≠ "java/lang/invoke/VarHandle" ∧ (parseMethodDescriptor yX11_in.desc).map (fun d => d.parameters.length) = some 3 := by decide +kernel
set_option maxHeartbeats 4000000 in
set_option maxRecDepth 100000 in
theorem k_X11_in (l : Launch) (X : xX) (S : xS) (p0 : Int64) (p1 : Int64) (p2 : Int64) : Met l yX11_in wsX11_in ({ frames := 0, cells := 0, slots := 0, locals := 0 } : Room) (va_Pc [.long p0, .long p1, .long p2] (xI X S)) (va_Qi (fun (r : Int32) (u : xS) => (r = (f_X11_in S p0 p1 p2) ∧ (r = 0 ∨ r = 1)) ∧ u = S) (xI X) (xA X)) 0 0 (xA X) := by
  refine Met.ofW (cc := cX11_in) (maxL := 6) (ret := (some .boolean)) (by decide +kernel) rfl ?_
  intro p e s m args below meth c s₁ B hml hv
  obtain ⟨rfl, hP, hK, hN, hJ⟩ := hv
  have hx := B.exec
  have hb := B.bytes
  have hr := B.returns
  have hts := atoms_spec (ws := wsX11_in) B.pre
  have hown : s.vm.findClass RX11 = some m.cls := findClass_of_methodNamed B.named
  have hlocks := B.notSynchronized
  have hC : xC X p m c cX11_in 6 s _ wsX11_in RX11 := ⟨⟨hx, hb, hml, hown, hts⟩, hK, hN, hJ⟩
  have hS : va_S (xA X) s.heap s.heap [] := va_S.rf
  have hl := lv_entry ([.long p0, .long p1, .long p2]) (n := 6) (Nat.le_of_ble_eq_true rfl)
  rw [lg_entry_eq]
  generalize (lg_sl ([.long p0, .long p1, .long p2]) ++ List.replicate (6 - (lg_sl ([.long p0, .long p1, .long p2])).length) Slot.unset).toArray = ls at hl ⊢
  have hl : lv_has ls 6 [(0, .long p0), (2, .long p1), (4, .long p2)] := hl
  refine lv_lload_n hx hb dX11_in_0 rfl (lv_at hl 0 rfl) ?_
  refine lv_lload_n hx hb dX11_in_1 rfl (lv_at hl 1 rfl) ?_
  refine W.lcmp hx hb dX11_in_2 ?_
  refine lv_if_lt (tgt := 17) hx hb dX11_in_3 (by decide) (fun c_1 => ?_) (fun c_1 => ?_)
  · refine lv_iconst (v := 0) hx hb dX11_in_17 (by decide) ?_
    exact xret_zR hC hP hS hb hr (.inl rfl) (((ip c_1 rfl))) dX11_in_18 hlocks
  · refine lv_lload_n hx hb dX11_in_6 rfl (lv_at hl 0 rfl) ?_
    refine lv_lload hx hb dX11_in_7 (lv_at hl 2 rfl) ?_
    refine W.lcmp hx hb dX11_in_9 ?_
    refine lv_if_gt (tgt := 17) hx hb dX11_in_10 (by decide) (fun c_2 => ?_) (fun c_2 => ?_)
    · refine lv_iconst (v := 0) hx hb dX11_in_17 (by decide) ?_
      exact xret_zR hC hP hS hb hr (.inl rfl) (((iN c_1 (ip c_2 rfl)))) dX11_in_18 hlocks
    · refine lv_iconst (v := 1) hx hb dX11_in_13 (by decide) ?_
      refine lv_goto (tgt := 18) hx hb dX11_in_14 (by decide) ?_
      exact xret_zR hC hP hS hb hr (.inr rfl) (((iN c_1 (iN c_2 rfl)))) dX11_in_18 hlocks
theorem hs_X11_has : yX11_has.cls ≠ "java/lang/invoke/MethodHandle" ∧ yX11_has.cls ≠ "java/lang/invoke/VarHandle" ∧ (parseMethodDescriptor yX11_has.desc).map (fun d => d.parameters.length) = some 2 := by decide +kernel
set_option maxHeartbeats 4000000 in
set_option maxRecDepth 100000 in
theorem k_X11_has (l : Launch) (X : xX) (S : xS) (p0 : Int32) (p1 : Int32) : Met l yX11_has wsX11_has ({ frames := 0, cells := 0, slots := 0, locals := 0 } : Room) (va_Pc [.int p0, .int p1] (xI X S)) (va_Qi (fun (r : Int32) (u : xS) => (r = (f_X11_has S p0 p1) ∧ (r = 0 ∨ r = 1)) ∧ u = S) (xI X) (xA X)) 0 0 (xA X) := by
  refine Met.ofW (cc := cX11_has) (maxL := 2) (ret := (some .boolean)) (by decide +kernel) rfl ?_
  intro p e s m args below meth c s₁ B hml hv
  obtain ⟨rfl, hP, hK, hN, hJ⟩ := hv
  have hx := B.exec
  have hb := B.bytes
  have hr := B.returns
  have hts := atoms_spec (ws := wsX11_has) B.pre
  have hown : s.vm.findClass RX11 = some m.cls := findClass_of_methodNamed B.named
  have hlocks := B.notSynchronized
  have hC : xC X p m c cX11_has 2 s _ wsX11_has RX11 := ⟨⟨hx, hb, hml, hown, hts⟩, hK, hN, hJ⟩
  have hS : va_S (xA X) s.heap s.heap [] := va_S.rf
  have hl := lv_entry ([.int p0, .int p1]) (n := 2) (Nat.le_of_ble_eq_true rfl)
  rw [lg_entry_eq]
  generalize (lg_sl ([.int p0, .int p1]) ++ List.replicate (2 - (lg_sl ([.int p0, .int p1])).length) Slot.unset).toArray = ls at hl ⊢
  have hl : lv_has ls 2 [(0, .int p0), (1, .int p1)] := hl
  refine lv_iload_n hx hb dX11_has_0 rfl (lv_at hl 0 rfl) ?_
  refine lv_iload_n hx hb dX11_has_1 rfl (lv_at hl 1 rfl) ?_
  refine lv_ishr hx hb dX11_has_2 ?_
  refine lv_iconst (v := 1) hx hb dX11_has_3 (by decide) ?_
  refine lv_iand hx hb dX11_has_4 ?_
  refine lv_iconst (v := 1) hx hb dX11_has_5 (by decide) ?_
  refine lv_icmp_ne (tgt := 13) hx hb dX11_has_6 (by decide) (fun c_1 => ?_) (fun c_1 => ?_)
  · refine lv_iconst (v := 0) hx hb dX11_has_13 (by decide) ?_
    exact xret_zR hC hP hS hb hr (.inl rfl) (((iN c_1 rfl))) dX11_has_14 hlocks
  · refine lv_iconst (v := 1) hx hb dX11_has_9 (by decide) ?_
    refine lv_goto (tgt := 14) hx hb dX11_has_10 (by decide) ?_
    exact xret_zR hC hP hS hb hr (.inr rfl) (((ip c_1 rfl))) dX11_has_14 hlocks
theorem hs_X11_ones : yX11_ones.cls ≠ "java/lang/invoke/MethodHandle" ∧ yX11_ones.cls ≠ "java/lang/invoke/VarHandle" ∧ (parseMethodDescriptor yX11_ones.desc).map (fun d => d.parameters.length) = some 1 := by decide +kernel
set_option maxHeartbeats 4000000 in
set_option maxRecDepth 100000 in
theorem k_X11_ones (l : Launch) (X : xX) (S : xS) (p0 : Int32) (hs : s_X11_ones S p0) : Met l yX11_ones wsX11_ones ({ frames := 0, cells := 0, slots := 0, locals := 0 } : Room) (va_Pc [.int p0] (xI X S)) (va_Qi (fun (r : Int32) (u : xS) => r = (f_X11_ones S p0) ∧ u = S) (xI X) (xA X)) 0 0 (xA X) := by
  refine Met.ofW (cc := cX11_ones) (maxL := 3) (ret := (some .int)) (by decide +kernel) rfl ?_
  intro p e s m args below meth c s₁ B hml hv
  obtain ⟨rfl, hP, hK, hN, hJ⟩ := hv
  have hx := B.exec
  have hb := B.bytes
  have hr := B.returns
  have hts := atoms_spec (ws := wsX11_ones) B.pre
  have hown : s.vm.findClass RX11 = some m.cls := findClass_of_methodNamed B.named
  have hlocks := B.notSynchronized
  have hC : xC X p m c cX11_ones 3 s _ wsX11_ones RX11 := ⟨⟨hx, hb, hml, hown, hts⟩, hK, hN, hJ⟩
  have hS : va_S (xA X) s.heap s.heap [] := va_S.rf
  have hl := lv_entry ([.int p0]) (n := 3) (Nat.le_of_ble_eq_true rfl)
  rw [lg_entry_eq]
  generalize (lg_sl ([.int p0]) ++ List.replicate (3 - (lg_sl ([.int p0])).length) Slot.unset).toArray = ls at hl ⊢
  have hl : lv_has ls 3 [(0, .int p0)] := hl
  refine lv_iconst (v := 0) hx hb dX11_ones_0 (by decide) ?_
  refine lv_istore_n (lv' := [(1, .int 0), (0, .int p0)]) hx hb dX11_ones_1 rfl hl (by decide) rfl (fun ls hl => ?_)
  refine lv_iconst (v := 0) hx hb dX11_ones_2 (by decide) ?_
  refine lv_istore_n (lv' := [(2, .int 0), (1, .int 0), (0, .int p0)]) hx hb dX11_ones_3 rfl hl (by decide) rfl (fun ls hl => ?_)
  have hLp_4 : ∀ (n : Nat) (x0_4 : Int32) (x1_4 : Int32) (x2_4 : Int32), s_X11_ones_L4 n S x0_4 x1_4 x2_4 → (∀ q : Int32, q = f_X11_ones_L4 n S x0_4 x1_4 x2_4 → (∀ (H : Heap) (locs : List Loc), va_P X.1 vwCl (xW X S) H → va_S (xA X) s.heap H locs → ∀ (ls : Array Slot), lv_has ls 3 [(1, .int q)] → W p l e ({ frames := 0, cells := 0, slots := 0, locals := 0 } : Room) s m ([.int p0] : List Value).toArray below meth c H locs 0 0 (MQ below (va_Qi (fun (r : Int32) (u : xS) => r = (f_X11_ones S p0) ∧ u = S) (xI X) (xA X)) ([.int p0] : List Value).toArray s 0 0 (xA X)) (F0 m 24 ls []))) → ∀ (H : Heap) (locs : List Loc), va_P X.1 vwCl (xW X S) H → va_S (xA X) s.heap H locs → ∀ (ls : Array Slot), lv_has ls 3 [(0, .int x0_4), (1, .int x1_4), (2, .int x2_4)] → W p l e ({ frames := 0, cells := 0, slots := 0, locals := 0 } : Room) s m ([.int p0] : List Value).toArray below meth c H locs 0 0 (MQ below (va_Qi (fun (r : Int32) (u : xS) => r = (f_X11_ones S p0) ∧ u = S) (xI X) (xA X)) ([.int p0] : List Value).toArray s 0 0 (xA X)) (F0 m 4 ls []) := by
    intro n
    induction n with
    | zero => intro x0_4 x1_4 x2_4 hs; exact hs.elim
    | succ n ih_4 =>
      intro x0_4 x1_4 x2_4 hs_4 hex_4 H locs hP hS ls hl
      refine lv_iload_n hx hb dX11_ones_4 rfl (lv_at hl 2 rfl) ?_
      refine lv_bipush (v := 7) hx hb dX11_ones_5 (by decide) ?_
      refine lv_icmp_ge (tgt := 24) hx hb dX11_ones_7 (by decide) (fun c_1 => ?_) (fun c_1 => ?_)
      · have he_2 : f_X11_ones_L4 (n + 1) S x0_4 x1_4 x2_4 = x1_4 := ((ip c_1 rfl))
        exact hex_4 _ he_2.symm _ _ hP hS ls (lv_sub hl [1] rfl)
      · refine lv_iload_n hx hb dX11_ones_10 rfl (lv_at hl 1 rfl) ?_
        refine lv_iload_n hx hb dX11_ones_11 rfl (lv_at hl 0 rfl) ?_
        refine lv_iload_n hx hb dX11_ones_12 rfl (lv_at hl 2 rfl) ?_
        refine lv_ishr hx hb dX11_ones_13 ?_
        refine lv_iconst (v := 1) hx hb dX11_ones_14 (by decide) ?_
        refine lv_iand hx hb dX11_ones_15 ?_
        refine lv_iadd hx hb dX11_ones_16 ?_
        refine lv_istore_n (lv' := [(1, .int (x1_4 + ((x0_4 >>> (x2_4 &&& 31)) &&& 1))), (0, .int x0_4), (2, .int x2_4)]) hx hb dX11_ones_17 rfl hl (by decide) rfl (fun ls hl => ?_)
        refine lv_iinc (v := (x2_4 + 1)) (lv' := [(2, .int (x2_4 + 1)), (1, .int (x1_4 + ((x0_4 >>> (x2_4 &&& 31)) &&& 1))), (0, .int x0_4)]) hx hb dX11_ones_18 hl (k := 2) rfl rfl (by decide) rfl (fun ls hl => ?_)
        refine lv_goto (tgt := 4) hx hb dX11_ones_21 (by decide) ?_
        have he_3 : f_X11_ones_L4 (n + 1) S x0_4 x1_4 x2_4 = f_X11_ones_L4 n S x0_4 (x1_4 + ((x0_4 >>> (x2_4 &&& 31)) &&& 1)) (x2_4 + 1) := ((iN c_1 rfl))
        exact ih_4 x0_4 (x1_4 + ((x0_4 >>> (x2_4 &&& 31)) &&& 1)) (x2_4 + 1) ((sn hs_4 c_1)) (fun q hq => hex_4 q (hq.trans he_3.symm)) _ _ hP hS ls (lv_sub hl [2, 1, 0] rfl)
  refine hLp_4 ((fu 0 7)) p0 0 0 (nl hs) (fun q_4 hq_4 H locs hP hS ls hl => ?_) _ _ hP hS ls (lv_sub hl [2, 1, 0] rfl)
  refine lv_iload_n hx hb dX11_ones_24 rfl (lv_at hl 0 rfl) ?_
  exact xret_iR hC hP hS hb hr ((by have hq_4 := hq_4.symm; subst hq_4; exact rfl)) dX11_ones_25 hlocks
theorem hd_X11_isRoom : yX11_isRoom.cls = RX11 ∧ yX11_isRoom.cls ≠ "java/lang/invoke/MethodHandle" ∧ yX11_isRoom.cls ≠ "java/lang/invoke/VarHandle" ∧ (parseMethodDescriptor yX11_isRoom.desc).map (fun d => d.parameters.length) = some 1 := by decide +kernel
set_option maxHeartbeats 4000000 in
set_option maxRecDepth 100000 in
theorem k_X11_isRoom (l : Launch) (X : xX) (S : xS) (p0 : Int32) : Met l yX11_isRoom wsX11_isRoom ({ frames := 1, cells := 0, slots := 0, locals := 25 } : Room) (va_Pc [.ref (X.2.1 127), .int p0] (xI X S)) (va_Qi (fun (r : Int32) (u : xS) => (r = (f_X11_isRoom S p0) ∧ (r = 0 ∨ r = 1)) ∧ u = S) (xI X) (xA X)) 0 0 (xA X) := by
  refine Met.ofW (cc := cX11_isRoom) (maxL := 2) (ret := (some .boolean)) (by decide +kernel) rfl ?_
  intro p e s m args below meth c s₁ B hml hv
  obtain ⟨rfl, hP, hK, hN, hJ⟩ := hv
  have hx := B.exec
  have hb := B.bytes
  have hr := B.returns
  have hts := atoms_spec (ws := wsX11_isRoom) B.pre
  have hown : s.vm.findClass RX11 = some m.cls := findClass_of_methodNamed B.named
  have hlocks := B.notSynchronized
  have hC : xC X p m c cX11_isRoom 2 s _ wsX11_isRoom RX11 := ⟨⟨hx, hb, hml, hown, hts⟩, hK, hN, hJ⟩
  have hS : va_S (xA X) s.heap s.heap [] := va_S.rf
  have hin_X11 : ∀ w ∈ u_ws RX11 TX11 41, w ∈ wsX11_isRoom := by decide +kernel
  have hl := lv_entry ([.ref (X.2.1 127), .int p0]) (n := 2) (Nat.le_of_ble_eq_true rfl)
  rw [lg_entry_eq]
  generalize (lg_sl ([.ref (X.2.1 127), .int p0]) ++ List.replicate (2 - (lg_sl ([.ref (X.2.1 127), .int p0])).length) Slot.unset).toArray = ls at hl ⊢
  have hl : lv_has ls 2 [(0, .ref (X.2.1 127)), (1, .int p0)] := hl
  refine lv_iload_n hx hb dX11_isRoom_0 rfl (lv_at hl 1 rfl) ?_
  refine lv_i2l (v := (p0 : Int32).toInt64) hx hb dX11_isRoom_1 rfl ?_
  refine lv_lconst (v := 0) hx hb dX11_isRoom_2 (by decide) ?_
  refine lv_aload_n hx hb dX11_isRoom_3 rfl (lv_at hl 0 rfl) ?_
  refine xget (ref := "AbsentPraiseModel") (T := TX11) (v := .int (S 127 0)) hC hP hin_X11 xo_X11 rfl 0 (by decide) (List.mem_of_getElem? (i := 1) rfl) rfl rfl dX11_isRoom_4 ?_
  refine lv_iconst (v := 1) hx hb dX11_isRoom_7 (by decide) ?_
  refine lv_isub hx hb dX11_isRoom_8 ?_
  refine lv_i2l (v := (((S 127 0) - 1) : Int32).toInt64) hx hb dX11_isRoom_9 rfl ?_
  refine xcS_iR (As := [.long (p0 : Int32).toInt64, .long 0, .long (((S 127 0) - 1) : Int32).toInt64]) (rest := []) hC hP hS (k_X11_in l X S (p0 : Int32).toInt64 0 (((S 127 0) - 1) : Int32).toInt64) (va_cwS 3 hts gX11_isRoom_X11_in rfl rfl rfl hs_X11_in ⟨Nat.le_of_ble_eq_true rfl, Nat.le_of_ble_eq_true rfl⟩) rfl rfl hl.1 (Nat.le_of_ble_eq_true rfl) dX11_isRoom_10 (fun r_1 hp_r_1 H locs hP hS => ?_)
  obtain ⟨hr_1, hzr_1⟩ := hp_r_1
  exact xret_zR hC hP hS hb hr hzr_1 ((by have hr_1 := hr_1.symm; subst hr_1; exact rfl)) dX11_isRoom_13 hlocks
theorem hd_X11_isPerson : yX11_isPerson.cls = RX11 ∧ yX11_isPerson.cls ≠ "java/lang/invoke/MethodHandle" ∧ yX11_isPerson.cls ≠ "java/lang/invoke/VarHandle" ∧ (parseMethodDescriptor yX11_isPerson.desc).map (fun d => d.parameters.length) = some 1 := by decide +kernel
set_option maxHeartbeats 4000000 in
set_option maxRecDepth 100000 in
theorem k_X11_isPerson (l : Launch) (X : xX) (S : xS) (p0 : Int32) : Met l yX11_isPerson wsX11_isPerson ({ frames := 1, cells := 0, slots := 0, locals := 25 } : Room) (va_Pc [.ref (X.2.1 127), .int p0] (xI X S)) (va_Qi (fun (r : Int32) (u : xS) => (r = (f_X11_isPerson S p0) ∧ (r = 0 ∨ r = 1)) ∧ u = S) (xI X) (xA X)) 0 0 (xA X) := by
  refine Met.ofW (cc := cX11_isPerson) (maxL := 2) (ret := (some .boolean)) (by decide +kernel) rfl ?_
  intro p e s m args below meth c s₁ B hml hv
  obtain ⟨rfl, hP, hK, hN, hJ⟩ := hv
  have hx := B.exec
  have hb := B.bytes
  have hr := B.returns
  have hts := atoms_spec (ws := wsX11_isPerson) B.pre
  have hown : s.vm.findClass RX11 = some m.cls := findClass_of_methodNamed B.named
  have hlocks := B.notSynchronized
  have hC : xC X p m c cX11_isPerson 2 s _ wsX11_isPerson RX11 := ⟨⟨hx, hb, hml, hown, hts⟩, hK, hN, hJ⟩
  have hS : va_S (xA X) s.heap s.heap [] := va_S.rf
  have hin_X11 : ∀ w ∈ u_ws RX11 TX11 41, w ∈ wsX11_isPerson := by decide +kernel
  have hl := lv_entry ([.ref (X.2.1 127), .int p0]) (n := 2) (Nat.le_of_ble_eq_true rfl)
  rw [lg_entry_eq]
  generalize (lg_sl ([.ref (X.2.1 127), .int p0]) ++ List.replicate (2 - (lg_sl ([.ref (X.2.1 127), .int p0])).length) Slot.unset).toArray = ls at hl ⊢
  have hl : lv_has ls 2 [(0, .ref (X.2.1 127)), (1, .int p0)] := hl
  refine lv_iload_n hx hb dX11_isPerson_0 rfl (lv_at hl 1 rfl) ?_
  refine lv_i2l (v := (p0 : Int32).toInt64) hx hb dX11_isPerson_1 rfl ?_
  refine lv_lconst (v := 0) hx hb dX11_isPerson_2 (by decide) ?_
  refine lv_aload_n hx hb dX11_isPerson_3 rfl (lv_at hl 0 rfl) ?_
  refine xget (ref := "AbsentPraiseModel") (T := TX11) (v := .int (S 127 6)) hC hP hin_X11 xo_X11 rfl 6 (by decide) (List.mem_of_getElem? (i := 1) rfl) rfl rfl dX11_isPerson_4 ?_
  refine lv_iconst (v := 1) hx hb dX11_isPerson_7 (by decide) ?_
  refine lv_isub hx hb dX11_isPerson_8 ?_
  refine lv_i2l (v := (((S 127 6) - 1) : Int32).toInt64) hx hb dX11_isPerson_9 rfl ?_
  refine xcS_iR (As := [.long (p0 : Int32).toInt64, .long 0, .long (((S 127 6) - 1) : Int32).toInt64]) (rest := []) hC hP hS (k_X11_in l X S (p0 : Int32).toInt64 0 (((S 127 6) - 1) : Int32).toInt64) (va_cwS 3 hts gX11_isPerson_X11_in rfl rfl rfl hs_X11_in ⟨Nat.le_of_ble_eq_true rfl, Nat.le_of_ble_eq_true rfl⟩) rfl rfl hl.1 (Nat.le_of_ble_eq_true rfl) dX11_isPerson_10 (fun r_1 hp_r_1 H locs hP hS => ?_)
  obtain ⟨hr_1, hzr_1⟩ := hp_r_1
  exact xret_zR hC hP hS hb hr hzr_1 ((by have hr_1 := hr_1.symm; subst hr_1; exact rfl)) dX11_isPerson_13 hlocks
theorem hd_X11_areTwo : yX11_areTwo.cls = RX11 ∧ yX11_areTwo.cls ≠ "java/lang/invoke/MethodHandle" ∧ yX11_areTwo.cls ≠ "java/lang/invoke/VarHandle" ∧ (parseMethodDescriptor yX11_areTwo.desc).map (fun d => d.parameters.length) = some 2 := by decide +kernel
set_option maxHeartbeats 4000000 in
set_option maxRecDepth 100000 in
theorem k_X11_areTwo (l : Launch) (X : xX) (S : xS) (p0 : Int32) (p1 : Int32) : Met l yX11_areTwo wsX11_areTwo ({ frames := 2, cells := 0, slots := 0, locals := 46 } : Room) (va_Pc [.ref (X.2.1 127), .int p0, .int p1] (xI X S)) (va_Qi (fun (r : Int32) (u : xS) => (r = (f_X11_areTwo S p0 p1) ∧ (r = 0 ∨ r = 1)) ∧ u = S) (xI X) (xA X)) 0 0 (xA X) := by
  refine Met.ofW (cc := cX11_areTwo) (maxL := 3) (ret := (some .boolean)) (by decide +kernel) rfl ?_
  intro p e s m args below meth c s₁ B hml hv
  obtain ⟨rfl, hP, hK, hN, hJ⟩ := hv
  have hx := B.exec
  have hb := B.bytes
  have hr := B.returns
  have hts := atoms_spec (ws := wsX11_areTwo) B.pre
  have hown : s.vm.findClass RX11 = some m.cls := findClass_of_methodNamed B.named
  have hlocks := B.notSynchronized
  have hC : xC X p m c cX11_areTwo 3 s _ wsX11_areTwo RX11 := ⟨⟨hx, hb, hml, hown, hts⟩, hK, hN, hJ⟩
  have hS : va_S (xA X) s.heap s.heap [] := va_S.rf
  have hl := lv_entry ([.ref (X.2.1 127), .int p0, .int p1]) (n := 3) (Nat.le_of_ble_eq_true rfl)
  rw [lg_entry_eq]
  generalize (lg_sl ([.ref (X.2.1 127), .int p0, .int p1]) ++ List.replicate (3 - (lg_sl ([.ref (X.2.1 127), .int p0, .int p1])).length) Slot.unset).toArray = ls at hl ⊢
  have hl : lv_has ls 3 [(0, .ref (X.2.1 127)), (1, .int p0), (2, .int p1)] := hl
  refine lv_aload_n hx hb dX11_areTwo_0 rfl (lv_at hl 0 rfl) ?_
  refine lv_iload_n hx hb dX11_areTwo_1 rfl (lv_at hl 1 rfl) ?_
  refine xcV_iR (b := 127) (As := [.int p0]) (rest := []) hC hP hS (k_X11_isPerson l X S p0) (cwV 1 hts gX11_areTwo_X11_isPerson rfl rfl rfl hd_X11_isPerson ⟨Nat.le_of_ble_eq_true rfl, Nat.le_of_ble_eq_true rfl⟩) xo_X11 rfl rfl rfl hl.1 (Nat.le_of_ble_eq_true rfl) dX11_areTwo_2 (fun r_1 hp_r_1 H locs hP hS => ?_)
  obtain ⟨hr_1, hzr_1⟩ := hp_r_1
  refine lv_if_eq (tgt := 25) hx hb dX11_areTwo_5 (by decide) (fun c_2 => ?_) (fun c_2 => ?_)
  · refine lv_iconst (v := 0) hx hb dX11_areTwo_25 (by decide) ?_
    exact xret_zR hC hP hS hb hr (.inl rfl) ((by have hr_1 := hr_1.symm; subst hr_1; exact (ip c_2 rfl))) dX11_areTwo_26 hlocks
  · refine lv_aload_n hx hb dX11_areTwo_8 rfl (lv_at hl 0 rfl) ?_
    refine lv_iload_n hx hb dX11_areTwo_9 rfl (lv_at hl 2 rfl) ?_
    refine xcV_iR (b := 127) (As := [.int p1]) (rest := []) hC hP hS (k_X11_isPerson l X S p1) (cwV 1 hts gX11_areTwo_X11_isPerson rfl rfl rfl hd_X11_isPerson ⟨Nat.le_of_ble_eq_true rfl, Nat.le_of_ble_eq_true rfl⟩) xo_X11 rfl rfl rfl hl.1 (Nat.le_of_ble_eq_true rfl) dX11_areTwo_10 (fun r_3 hp_r_3 H locs hP hS => ?_)
    obtain ⟨hr_3, hzr_3⟩ := hp_r_3
    refine lv_if_eq (tgt := 25) hx hb dX11_areTwo_13 (by decide) (fun c_4 => ?_) (fun c_4 => ?_)
    · refine lv_iconst (v := 0) hx hb dX11_areTwo_25 (by decide) ?_
      exact xret_zR hC hP hS hb hr (.inl rfl) ((by have hr_1 := hr_1.symm; have hr_3 := hr_3.symm; subst hr_1 hr_3; exact (iN c_2 (ip c_4 rfl)))) dX11_areTwo_26 hlocks
    · refine lv_iload_n hx hb dX11_areTwo_16 rfl (lv_at hl 1 rfl) ?_
      refine lv_iload_n hx hb dX11_areTwo_17 rfl (lv_at hl 2 rfl) ?_
      refine lv_icmp_eq (tgt := 25) hx hb dX11_areTwo_18 (by decide) (fun c_5 => ?_) (fun c_5 => ?_)
      · refine lv_iconst (v := 0) hx hb dX11_areTwo_25 (by decide) ?_
        exact xret_zR hC hP hS hb hr (.inl rfl) ((by have hr_1 := hr_1.symm; have hr_3 := hr_3.symm; subst hr_1 hr_3; exact (iN c_2 (iN c_4 (ip c_5 rfl))))) dX11_areTwo_26 hlocks
      · refine lv_iconst (v := 1) hx hb dX11_areTwo_21 (by decide) ?_
        refine lv_goto (tgt := 26) hx hb dX11_areTwo_22 (by decide) ?_
        exact xret_zR hC hP hS hb hr (.inr rfl) ((by have hr_1 := hr_1.symm; have hr_3 := hr_3.symm; subst hr_1 hr_3; exact (iN c_2 (iN c_4 (iN c_5 rfl))))) dX11_areTwo_26 hlocks
theorem hd_X11_feed : yX11_feed.cls = RX11 ∧ yX11_feed.cls ≠ "java/lang/invoke/MethodHandle" ∧ yX11_feed.cls ≠ "java/lang/invoke/VarHandle" ∧ (parseMethodDescriptor yX11_feed.desc).map (fun d => d.parameters.length) = some 1 := by decide +kernel
set_option maxHeartbeats 4000000 in
set_option maxRecDepth 100000 in
theorem k_X11_feed (l : Launch) (X : xX) (S : xS) (p0 : Int32) (hs : s_X11_feed S p0) : Met l yX11_feed wsX11_feed ({ frames := 1, cells := 0, slots := 0, locals := 25 } : Room) (va_Pc [.ref (X.2.1 127), .int p0] (xI X S)) (va_Qi (fun (r : Int32) (u : xS) => r = (f_X11_feed S p0).1 ∧ u = (f_X11_feed S p0).2) (xI X) (xA X)) 0 0 (xA X) := by
  refine Met.ofW (cc := cX11_feed) (maxL := 2) (ret := (some .int)) (by decide +kernel) rfl ?_
  intro p e s m args below meth c s₁ B hml hv
  obtain ⟨rfl, hP, hK, hN, hJ⟩ := hv
  have hx := B.exec
  have hb := B.bytes
  have hr := B.returns
  have hts := atoms_spec (ws := wsX11_feed) B.pre
  have hown : s.vm.findClass RX11 = some m.cls := findClass_of_methodNamed B.named
  have hlocks := B.notSynchronized
  have hC : xC X p m c cX11_feed 2 s _ wsX11_feed RX11 := ⟨⟨hx, hb, hml, hown, hts⟩, hK, hN, hJ⟩
  have hS : va_S (xA X) s.heap s.heap [] := va_S.rf
  have hin_X11 : ∀ w ∈ u_ws RX11 TX11 41, w ∈ wsX11_feed := by decide +kernel
  have hl := lv_entry ([.ref (X.2.1 127), .int p0]) (n := 2) (Nat.le_of_ble_eq_true rfl)
  rw [lg_entry_eq]
  generalize (lg_sl ([.ref (X.2.1 127), .int p0]) ++ List.replicate (2 - (lg_sl ([.ref (X.2.1 127), .int p0])).length) Slot.unset).toArray = ls at hl ⊢
  have hl : lv_has ls 2 [(0, .ref (X.2.1 127)), (1, .int p0)] := hl
  refine lv_iload_n hx hb dX11_feed_0 rfl (lv_at hl 1 rfl) ?_
  refine lv_i2l (v := (p0 : Int32).toInt64) hx hb dX11_feed_1 rfl ?_
  refine lv_lconst (v := 0) hx hb dX11_feed_2 (by decide) ?_
  refine lv_ldc2 (v := 255) hx hb hown (hts (.constantLong RX11 89 (255)) (List.mem_of_getElem? (i := 1) rfl)) dX11_feed_3 ?_
  refine xcS_iR (As := [.long (p0 : Int32).toInt64, .long 0, .long 255]) (rest := []) hC hP hS (k_X11_in l X S (p0 : Int32).toInt64 0 255) (va_cwS 3 hts gX11_feed_X11_in rfl rfl rfl hs_X11_in ⟨Nat.le_of_ble_eq_true rfl, Nat.le_of_ble_eq_true rfl⟩) rfl rfl hl.1 (Nat.le_of_ble_eq_true rfl) dX11_feed_6 (fun r_1 hp_r_1 H locs hP hS => ?_)
  obtain ⟨hr_1, hzr_1⟩ := hp_r_1
  refine lv_if_ne (tgt := 15) hx hb dX11_feed_9 (by decide) (fun c_2 => ?_) (fun c_2 => ?_)
  · refine lv_aload_n hx hb dX11_feed_15 rfl (lv_at hl 0 rfl) ?_
    refine xget (ref := "AbsentPraiseModel") (T := TX11) (v := .int (S 127 19)) hC hP hin_X11 xo_X11 rfl 19 (by decide) (List.mem_of_getElem? (i := 3) rfl) rfl rfl dX11_feed_16 ?_
    refine lv_sipush (v := 240) hx hb dX11_feed_19 (by decide) ?_
    refine lv_icmp_ne (tgt := 28) hx hb dX11_feed_22 (by decide) (fun c_3 => ?_) (fun c_3 => ?_)
    · refine lv_aload_n hx hb dX11_feed_28 rfl (lv_at hl 0 rfl) ?_
      refine xget (ref := "AbsentPraiseModel") (T := TX11) (v := .ref (X.2.1 138)) hC hP hin_X11 xo_X11 rfl 18 (by decide) (List.mem_of_getElem? (i := 5) rfl) rfl rfl dX11_feed_29 ?_
      refine lv_aload_n hx hb dX11_feed_32 rfl (lv_at hl 0 rfl) ?_
      refine xget (ref := "AbsentPraiseModel") (T := TX11) (v := .int (S 127 19)) hC hP hin_X11 xo_X11 rfl 19 (by decide) (List.mem_of_getElem? (i := 3) rfl) rfl rfl dX11_feed_33 ?_
      refine lv_iload_n hx hb dX11_feed_36 rfl (lv_at hl 1 rfl) ?_
      have hn_4 : vp_in (S 127 19) 240 := (by have hr_1 := hr_1.symm; subst hr_1; exact nl (sn (sn hs c_2) c_3))
      refine xiast hC hP hS rfl hn_4 dX11_feed_37 (fun S_5 hS_5 H locs hP hS => ?_)
      refine lv_aload_n hx hb dX11_feed_38 rfl (lv_at hl 0 rfl) ?_
      refine lv_dup hx hb dX11_feed_39 rfl ?_
      refine xget (ref := "AbsentPraiseModel") (T := TX11) (v := .int (S_5 127 19)) hC hP hin_X11 xo_X11 rfl 19 (by decide) (List.mem_of_getElem? (i := 3) rfl) rfl rfl dX11_feed_40 ?_
      refine lv_iconst (v := 1) hx hb dX11_feed_43 (by decide) ?_
      refine lv_iadd hx hb dX11_feed_44 ?_
      refine xput (ref := "AbsentPraiseModel") (T := TX11) (ty := .int) hC hP hS (by decide) hin_X11 tyX11 tyX11_ok nmX11 xo_X11 rfl 19 (by decide) (List.mem_of_getElem? (i := 3) rfl) rfl rfl rfl rfl rfl (Nat.le_of_ble_eq_true rfl) dX11_feed_45 rfl (fun S_6 hS_6 H locs hP hS => ?_)
      refine lv_aload_n hx hb dX11_feed_48 rfl (lv_at hl 0 rfl) ?_
      refine xget (ref := "AbsentPraiseModel") (T := TX11) (v := .int (S_6 127 19)) hC hP hin_X11 xo_X11 rfl 19 (by decide) (List.mem_of_getElem? (i := 3) rfl) rfl rfl dX11_feed_49 ?_
      exact xret_iW hC hP hS hb hr (by simp only [f_X11_feed, ← hr_1, ← hS_5, ← hS_6, if_neg c_2, if_neg c_3]) dX11_feed_52 hlocks
    · refine lv_ldc (v := (-1000000004)) hx hb hown (hts (.constant RX11 95 (-1000000004)) (List.mem_of_getElem? (i := 4) rfl)) dX11_feed_25 ?_
      exact xret_iW hC hP hS hb hr (by simp only [f_X11_feed, ← hr_1, if_neg c_2, if_pos c_3]) dX11_feed_27 hlocks
  · refine lv_ldc (v := (-1000000002)) hx hb hown (hts (.constant RX11 91 (-1000000002)) (List.mem_of_getElem? (i := 2) rfl)) dX11_feed_12 ?_
    exact xret_iW hC hP hS hb hr (by simp only [f_X11_feed, ← hr_1, if_pos c_2]) dX11_feed_14 hlocks
theorem hd_X11_here : yX11_here.cls = RX11 ∧ yX11_here.cls ≠ "java/lang/invoke/MethodHandle" ∧ yX11_here.cls ≠ "java/lang/invoke/VarHandle" ∧ (parseMethodDescriptor yX11_here.desc).map (fun d => d.parameters.length) = some 0 := by decide +kernel
set_option maxHeartbeats 4000000 in
set_option maxRecDepth 100000 in
theorem k_X11_here (l : Launch) (X : xX) (S : xS) (hs : s_X11_here S) : Met l yX11_here wsX11_here ({ frames := 0, cells := 0, slots := 0, locals := 0 } : Room) (va_Pc [.ref (X.2.1 127)] (xI X S)) (va_Qi (fun (r : Int32) (u : xS) => r = (f_X11_here S).1 ∧ u = (f_X11_here S).2) (xI X) (xA X)) 0 0 (xA X) := by
  refine Met.ofW (cc := cX11_here) (maxL := 1) (ret := (some .int)) (by decide +kernel) rfl ?_
  intro p e s m args below meth c s₁ B hml hv
  obtain ⟨rfl, hP, hK, hN, hJ⟩ := hv
  have hx := B.exec
  have hb := B.bytes
  have hr := B.returns
  have hts := atoms_spec (ws := wsX11_here) B.pre
  have hown : s.vm.findClass RX11 = some m.cls := findClass_of_methodNamed B.named
  have hlocks := B.notSynchronized
  have hC : xC X p m c cX11_here 1 s _ wsX11_here RX11 := ⟨⟨hx, hb, hml, hown, hts⟩, hK, hN, hJ⟩
  have hS : va_S (xA X) s.heap s.heap [] := va_S.rf
  have hin_X11 : ∀ w ∈ u_ws RX11 TX11 41, w ∈ wsX11_here := by decide +kernel
  have hl := lv_entry ([.ref (X.2.1 127)]) (n := 1) (Nat.le_of_ble_eq_true rfl)
  rw [lg_entry_eq]
  generalize (lg_sl ([.ref (X.2.1 127)]) ++ List.replicate (1 - (lg_sl ([.ref (X.2.1 127)])).length) Slot.unset).toArray = ls at hl ⊢
  have hl : lv_has ls 1 [(0, .ref (X.2.1 127))] := hl
  have hLp_0 : ∀ (n : Nat) (T_0 : xS), s_X11_here_L0 n T_0 → (∀ q : xS, q = f_X11_here_L0 n T_0 → (∀ (H : Heap) (locs : List Loc), va_P X.1 vwCl (xW X q) H → va_S (xA X) s.heap H locs → ∀ (ls : Array Slot), lv_has ls 1 [(0, .ref (X.2.1 127))] → W p l e ({ frames := 0, cells := 0, slots := 0, locals := 0 } : Room) s m ([.ref (X.2.1 127)] : List Value).toArray below meth c H locs 0 0 (MQ below (va_Qi (fun (r : Int32) (u : xS) => r = (f_X11_here S).1 ∧ u = (f_X11_here S).2) (xI X) (xA X)) ([.ref (X.2.1 127)] : List Value).toArray s 0 0 (xA X)) (F0 m 38 ls []))) → ∀ (H : Heap) (locs : List Loc), va_P X.1 vwCl (xW X T_0) H → va_S (xA X) s.heap H locs → ∀ (ls : Array Slot), lv_has ls 1 [(0, .ref (X.2.1 127))] → W p l e ({ frames := 0, cells := 0, slots := 0, locals := 0 } : Room) s m ([.ref (X.2.1 127)] : List Value).toArray below meth c H locs 0 0 (MQ below (va_Qi (fun (r : Int32) (u : xS) => r = (f_X11_here S).1 ∧ u = (f_X11_here S).2) (xI X) (xA X)) ([.ref (X.2.1 127)] : List Value).toArray s 0 0 (xA X)) (F0 m 0 ls []) := by
    intro n
    induction n with
    | zero => intro T_0 hs; exact hs.elim
    | succ n ih_0 =>
      intro T_0 hs_0 hex_0 H locs hP hS ls hl
      refine lv_aload_n hx hb dX11_here_0 rfl (lv_at hl 0 rfl) ?_
      refine xget (ref := "AbsentPraiseModel") (T := TX11) (v := .int (T_0 127 21)) hC hP hin_X11 xo_X11 rfl 21 (by decide) (List.mem_of_getElem? (i := 1) rfl) rfl rfl dX11_here_1 ?_
      refine lv_aload_n hx hb dX11_here_4 rfl (lv_at hl 0 rfl) ?_
      refine xget (ref := "AbsentPraiseModel") (T := TX11) (v := .int (T_0 127 19)) hC hP hin_X11 xo_X11 rfl 19 (by decide) (List.mem_of_getElem? (i := 2) rfl) rfl rfl dX11_here_5 ?_
      refine lv_icmp_ge (tgt := 38) hx hb dX11_here_8 (by decide) (fun c_1 => ?_) (fun c_1 => ?_)
      · have he_2 : f_X11_here_L0 (n + 1) T_0 = T_0 := ((ip c_1 rfl))
        exact hex_0 _ he_2.symm _ _ hP hS ls (lv_sub hl [0] rfl)
      · refine lv_aload_n hx hb dX11_here_11 rfl (lv_at hl 0 rfl) ?_
        refine xget (ref := "AbsentPraiseModel") (T := TX11) (v := .ref (X.2.1 138)) hC hP hin_X11 xo_X11 rfl 18 (by decide) (List.mem_of_getElem? (i := 3) rfl) rfl rfl dX11_here_12 ?_
        refine lv_aload_n hx hb dX11_here_15 rfl (lv_at hl 0 rfl) ?_
        refine xget (ref := "AbsentPraiseModel") (T := TX11) (v := .int (T_0 127 21)) hC hP hin_X11 xo_X11 rfl 21 (by decide) (List.mem_of_getElem? (i := 1) rfl) rfl rfl dX11_here_16 ?_
        have hn_3 : vp_in (T_0 127 21) 240 := (nl (sn hs_0 c_1))
        refine xiald hC hP rfl hn_3 dX11_here_19 ?_
        refine lv_bipush (v := 32) hx hb dX11_here_20 (by decide) ?_
        refine lv_icmp_ne (tgt := 38) hx hb dX11_here_22 (by decide) (fun c_4 => ?_) (fun c_4 => ?_)
        · have he_5 : f_X11_here_L0 (n + 1) T_0 = T_0 := ((iN c_1 (iN c_4 rfl)))
          exact hex_0 _ he_5.symm _ _ hP hS ls (lv_sub hl [0] rfl)
        · refine lv_aload_n hx hb dX11_here_25 rfl (lv_at hl 0 rfl) ?_
          refine lv_dup hx hb dX11_here_26 rfl ?_
          refine xget (ref := "AbsentPraiseModel") (T := TX11) (v := .int (T_0 127 21)) hC hP hin_X11 xo_X11 rfl 21 (by decide) (List.mem_of_getElem? (i := 1) rfl) rfl rfl dX11_here_27 ?_
          refine lv_iconst (v := 1) hx hb dX11_here_30 (by decide) ?_
          refine lv_iadd hx hb dX11_here_31 ?_
          refine xput (ref := "AbsentPraiseModel") (T := TX11) (ty := .int) hC hP hS (by decide) hin_X11 tyX11 tyX11_ok nmX11 xo_X11 rfl 21 (by decide) (List.mem_of_getElem? (i := 1) rfl) rfl rfl rfl rfl rfl (Nat.le_of_ble_eq_true rfl) dX11_here_32 rfl (fun S_6 hS_6 H locs hP hS => ?_)
          refine lv_goto (tgt := 0) hx hb dX11_here_35 (by decide) ?_
          have he_7 : f_X11_here_L0 (n + 1) T_0 = f_X11_here_L0 n S_6 := (by have hS_6 := hS_6.symm; subst hS_6; exact (iN c_1 (ip c_4 rfl)))
          exact ih_0 S_6 (by have hS_6 := hS_6.symm; subst hS_6; exact (sp (nr (sn hs_0 c_1)) c_4)) (fun q hq => hex_0 q (hq.trans he_7.symm)) _ _ hP hS ls (lv_sub hl [0] rfl)
  refine hLp_0 ((fu (S 127 21) (S 127 19))) S (nl hs) (fun q_0 hq_0 H locs hP hS ls hl => ?_) _ _ hP hS ls (lv_sub hl [0] rfl)
  refine lv_aload_n hx hb dX11_here_38 rfl (lv_at hl 0 rfl) ?_
  refine xget (ref := "AbsentPraiseModel") (T := TX11) (v := .int (q_0 127 21)) hC hP hin_X11 xo_X11 rfl 21 (by decide) (List.mem_of_getElem? (i := 1) rfl) rfl rfl dX11_here_39 ?_
  refine lv_aload_n hx hb dX11_here_42 rfl (lv_at hl 0 rfl) ?_
  refine xget (ref := "AbsentPraiseModel") (T := TX11) (v := .int (q_0 127 19)) hC hP hin_X11 xo_X11 rfl 19 (by decide) (List.mem_of_getElem? (i := 2) rfl) rfl rfl dX11_here_43 ?_
  refine lv_icmp_ge (tgt := 61) hx hb dX11_here_46 (by decide) (fun c_8 => ?_) (fun c_8 => ?_)
  · refine lv_iconst (v := (-1)) hx hb dX11_here_61 (by decide) ?_
    exact xret_iW hC hP hS hb hr (by simp only [f_X11_here, ← hq_0, if_pos c_8]) dX11_here_62 hlocks
  · refine lv_aload_n hx hb dX11_here_49 rfl (lv_at hl 0 rfl) ?_
    refine xget (ref := "AbsentPraiseModel") (T := TX11) (v := .ref (X.2.1 138)) hC hP hin_X11 xo_X11 rfl 18 (by decide) (List.mem_of_getElem? (i := 3) rfl) rfl rfl dX11_here_50 ?_
    refine lv_aload_n hx hb dX11_here_53 rfl (lv_at hl 0 rfl) ?_
    refine xget (ref := "AbsentPraiseModel") (T := TX11) (v := .int (q_0 127 21)) hC hP hin_X11 xo_X11 rfl 21 (by decide) (List.mem_of_getElem? (i := 1) rfl) rfl rfl dX11_here_54 ?_
    have hn_9 : vp_in (q_0 127 21) 240 := (by have hq_0 := hq_0.symm; subst hq_0; exact nl (sn (nr hs) c_8))
    refine xiald hC hP rfl hn_9 dX11_here_57 ?_
    refine lv_goto (tgt := 62) hx hb dX11_here_58 (by decide) ?_
    exact xret_iW hC hP hS hb hr (by simp only [f_X11_here, ← hq_0, if_neg c_8]) dX11_here_62 hlocks
theorem hd_X11_fails : yX11_fails.cls = RX11 ∧ yX11_fails.cls ≠ "java/lang/invoke/MethodHandle" ∧ yX11_fails.cls ≠ "java/lang/invoke/VarHandle" ∧ (parseMethodDescriptor yX11_fails.desc).map (fun d => d.parameters.length) = some 2 := by decide +kernel
set_option maxHeartbeats 4000000 in
set_option maxRecDepth 100000 in
theorem k_X11_fails (l : Launch) (X : xX) (S : xS) (p0 : Int32) (p1 : Int32) : Met l yX11_fails wsX11_fails ({ frames := 0, cells := 0, slots := 0, locals := 0 } : Room) (va_Pc [.ref (X.2.1 127), .int p0, .int p1] (xI X S)) (va_Qi (fun (r : Int32) (u : xS) => r = (f_X11_fails S p0 p1).1 ∧ u = (f_X11_fails S p0 p1).2) (xI X) (xA X)) 0 0 (xA X) := by
  refine Met.ofW (cc := cX11_fails) (maxL := 3) (ret := (some .int)) (by decide +kernel) rfl ?_
  intro p e s m args below meth c s₁ B hml hv
  obtain ⟨rfl, hP, hK, hN, hJ⟩ := hv
  have hx := B.exec
  have hb := B.bytes
  have hr := B.returns
  have hts := atoms_spec (ws := wsX11_fails) B.pre
  have hown : s.vm.findClass RX11 = some m.cls := findClass_of_methodNamed B.named
  have hlocks := B.notSynchronized
  have hC : xC X p m c cX11_fails 3 s _ wsX11_fails RX11 := ⟨⟨hx, hb, hml, hown, hts⟩, hK, hN, hJ⟩
  have hS : va_S (xA X) s.heap s.heap [] := va_S.rf
  have hin_X11 : ∀ w ∈ u_ws RX11 TX11 41, w ∈ wsX11_fails := by decide +kernel
  have hl := lv_entry ([.ref (X.2.1 127), .int p0, .int p1]) (n := 3) (Nat.le_of_ble_eq_true rfl)
  rw [lg_entry_eq]
  generalize (lg_sl ([.ref (X.2.1 127), .int p0, .int p1]) ++ List.replicate (3 - (lg_sl ([.ref (X.2.1 127), .int p0, .int p1])).length) Slot.unset).toArray = ls at hl ⊢
  have hl : lv_has ls 3 [(0, .ref (X.2.1 127)), (1, .int p0), (2, .int p1)] := hl
  refine lv_aload_n hx hb dX11_fails_0 rfl (lv_at hl 0 rfl) ?_
  refine lv_iload_n hx hb dX11_fails_1 rfl (lv_at hl 2 rfl) ?_
  refine xput (ref := "AbsentPraiseModel") (T := TX11) (ty := .int) hC hP hS (by decide) hin_X11 tyX11 tyX11_ok nmX11 xo_X11 rfl 20 (by decide) (List.mem_of_getElem? (i := 1) rfl) rfl rfl rfl rfl rfl (Nat.le_of_ble_eq_true rfl) dX11_fails_2 rfl (fun S_1 hS_1 H locs hP hS => ?_)
  refine lv_iload_n hx hb dX11_fails_5 rfl (lv_at hl 1 rfl) ?_
  exact xret_iW hC hP hS hb hr (by simp only [f_X11_fails, ← hS_1]) dX11_fails_6 hlocks
