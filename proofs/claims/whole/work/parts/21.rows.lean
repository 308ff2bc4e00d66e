/-! contracts: X11_in, X11_has, X11_ones, X11_isRoom, X11_isPerson, X11_areTwo, X11_feed, X11_here, X11_fails, X11_takeNumber, X11_takeRooms, X11_takePair -/
theorem hs_X11_in : yX11_in.cls ≠ "java/lang/invoke/MethodHandle" ∧ yX11_in.cls ≠ "java/lang/invoke/VarHandle" ∧ (parseMethodDescriptor yX11_in.desc).map (fun d => d.parameters.length) = some 3 := by decide +kernel
set_option maxHeartbeats 4000000 in
set_option maxRecDepth 100000 in
theorem k_X11_in (l : Launch) (X : xX) (S : xS) (p0 : Int64) (p1 : Int64) (p2 : Int64) : Met l yX11_in wsX11_in ({ frames := 0, cells := 0, slots := 0, locals := 0 } : Room) (va_Pc [.long p0, .long p1, .long p2] (xI X S)) (va_Qi (fun (r : Int32) (u : xS) => (r = (f_X11_in S p0 p1 p2) ∧ (r = 0 ∨ r = 1)) ∧ u = S) (xI X) (xA X)) 0 0 (xA X) := by
  refine Met.ofW (cc := cX11_in) (maxL := 6) (ret := (some .boolean)) (by decide) rfl ?_
  intro p e s m args below meth c s₁ B hml hv
  obtain ⟨rfl, hP, hK, hN, hJ⟩ := hv
  have hx := B.exec
  have hb := B.bytes
  have hr := B.returns
  have hts := atoms_spec (ws := wsX11_in) B.pre
  have hown : s.vm.findClass RX11 = some m.cls := findClass_of_methodNamed B.named
  have hlocks := B.notSynchronized
  have hC : xC X p m c cX11_in 6 s _ wsX11_in RX11 := ⟨⟨hx, hb, hml, hown, hts⟩, hK, hN, hJ⟩
  have hS : va_S (xA X) s.heap s.heap [] := va_S.rf
  have hl := lv_entry ([.long p0, .long p1, .long p2]) (n := 6) (Nat.le_of_ble_eq_true rfl)
  rw [lg_entry_eq]
  generalize (lg_sl ([.long p0, .long p1, .long p2]) ++ List.replicate (6 - (lg_sl ([.long p0, .long p1, .long p2])).length) Slot.unset).toArray = ls at hl ⊢
  have hl : lv_has ls 6 [(0, .long p0), (2, .long p1), (4, .long p2)] := hl
  refine lv_lload_n hx hb dX11_in_0 rfl (lv_at hl 0 rfl) ?_
  refine lv_lload_n hx hb dX11_in_1 rfl (lv_at hl 1 rfl) ?_
  refine W.lcmp hx hb dX11_in_2 ?_
  refine lv_if_lt (tgt := 17) hx hb dX11_in_3 (by decide) (fun c_1 => ?_) (fun c_1 => ?_)
  · refine lv_iconst (v := 0) hx hb dX11_in_17 (by decide) ?_
    exact xret_zR hC hP hS hb hr (.inl rfl) (((ip c_1 rfl))) dX11_in_18 hlocks
  · refine lv_lload_n hx hb dX11_in_6 rfl (lv_at hl 0 rfl) ?_
    refine lv_lload hx hb dX11_in_7 (lv_at hl 2 rfl) ?_
    refine W.lcmp hx hb dX11_in_9 ?_
    refine lv_if_gt (tgt := 17) hx hb dX11_in_10 (by decide) (fun c_2 => ?_) (fun c_2 => ?_)
    · refine lv_iconst (v := 0) hx hb dX11_in_17 (by decide) ?_
      exact xret_zR hC hP hS hb hr (.inl rfl) (((iN c_1 (ip c_2 rfl)))) dX11_in_18 hlocks
    · refine lv_iconst (v := 1) hx hb dX11_in_13 (by decide) ?_
      refine lv_goto (tgt := 18) hx hb dX11_in_14 (by decide) ?_
      exact xret_zR hC hP hS hb hr (.inr rfl) (((iN c_1 (iN c_2 rfl)))) dX11_in_18 hlocks
theorem hs_X11_has : yX11_has.cls ≠ "java/lang/invoke/MethodHandle" ∧ yX11_has.cls ≠ "java/lang/invoke/VarHandle" ∧ (parseMethodDescriptor yX11_has.desc).map (fun d => d.parameters.length) = some 2 := by decide +kernel
set_option maxHeartbeats 4000000 in
set_option maxRecDepth 100000 in
theorem k_X11_has (l : Launch) (X : xX) (S : xS) (p0 : Int32) (p1 : Int32) : Met l yX11_has wsX11_has ({ frames := 0, cells := 0, slots := 0, locals := 0 } : Room) (va_Pc [.int p0, .int p1] (xI X S)) (va_Qi (fun (r : Int32) (u : xS) => (r = (f_X11_has S p0 p1) ∧ (r = 0 ∨ r = 1)) ∧ u = S) (xI X) (xA X)) 0 0 (xA X) := by
  refine Met.ofW (cc := cX11_has) (maxL := 2) (ret := (some .boolean)) (by decide) rfl ?_
  intro p e s m args below meth c s₁ B hml hv
  obtain ⟨rfl, hP, hK, hN, hJ⟩ := hv
  have hx := B.exec
  have hb := B.bytes
  have hr := B.returns
  have hts := atoms_spec (ws := wsX11_has) B.pre
  have hown : s.vm.findClass RX11 = some m.cls := findClass_of_methodNamed B.named
  have hlocks := B.notSynchronized
  have hC : xC X p m c cX11_has 2 s _ wsX11_has RX11 := ⟨⟨hx, hb, hml, hown, hts⟩, hK, hN, hJ⟩
  have hS : va_S (xA X) s.heap s.heap [] := va_S.rf
  have hl := lv_entry ([.int p0, .int p1]) (n := 2) (Nat.le_of_ble_eq_true rfl)
  rw [lg_entry_eq]
  generalize (lg_sl ([.int p0, .int p1]) ++ List.replicate (2 - (lg_sl ([.int p0, .int p1])).length) Slot.unset).toArray = ls at hl ⊢
  have hl : lv_has ls 2 [(0, .int p0), (1, .int p1)] := hl
  refine lv_iload_n hx hb dX11_has_0 rfl (lv_at hl 0 rfl) ?_
  refine lv_iload_n hx hb dX11_has_1 rfl (lv_at hl 1 rfl) ?_
  refine lv_ishr hx hb dX11_has_2 ?_
  refine lv_iconst (v := 1) hx hb dX11_has_3 (by decide) ?_
  refine lv_iand hx hb dX11_has_4 ?_
  refine lv_iconst (v := 1) hx hb dX11_has_5 (by decide) ?_
  refine lv_icmp_ne (tgt := 13) hx hb dX11_has_6 (by decide) (fun c_1 => ?_) (fun c_1 => ?_)
  · refine lv_iconst (v := 0) hx hb dX11_has_13 (by decide) ?_
    exact xret_zR hC hP hS hb hr (.inl rfl) (((iN c_1 rfl))) dX11_has_14 hlocks
  · refine lv_iconst (v := 1) hx hb dX11_has_9 (by decide) ?_
    refine lv_goto (tgt := 14) hx hb dX11_has_10 (by decide) ?_
    exact xret_zR hC hP hS hb hr (.inr rfl) (((ip c_1 rfl))) dX11_has_14 hlocks
theorem hs_X11_ones : yX11_ones.cls ≠ "java/lang/invoke/MethodHandle" ∧ yX11_ones.cls ≠ "java/lang/invoke/VarHandle" ∧ (parseMethodDescriptor yX11_ones.desc).map (fun d => d.parameters.length) = some 1 := by decide +kernel
set_option maxHeartbeats 4000000 in
set_option maxRecDepth 100000 in
theorem k_X11_ones (l : Launch) (X : xX) (S : xS) (p0 : Int32) (hs : s_X11_ones S p0) : Met l yX11_ones wsX11_ones ({ frames := 0, cells := 0, slots := 0, locals := 0 } : Room) (va_Pc [.int p0] (xI X S)) (va_Qi (fun (r : Int32) (u : xS) => r = (f_X11_ones S p0) ∧ u = S) (xI X) (xA X)) 0 0 (xA X) := by
  refine Met.ofW (cc := cX11_ones) (maxL := 3) (ret := (some .int)) (by decide) rfl ?_
  intro p e s m args below meth c s₁ B hml hv
  obtain ⟨rfl, hP, hK, hN, hJ⟩ := hv
  have hx := B.exec
  have hb := B.bytes
  have hr := B.returns
  have hts := atoms_spec (ws := wsX11_ones) B.pre
  have hown : s.vm.findClass RX11 = some m.cls := findClass_of_methodNamed B.named
  have hlocks := B.notSynchronized
  have hC : xC X p m c cX11_ones 3 s _ wsX11_ones RX11 := ⟨⟨hx, hb, hml, hown, hts⟩, hK, hN, hJ⟩
  have hS : va_S (xA X) s.heap s.heap [] := va_S.rf
  have hl := lv_entry ([.int p0]) (n := 3) (Nat.le_of_ble_eq_true rfl)
  rw [lg_entry_eq]
  generalize (lg_sl ([.int p0]) ++ List.replicate (3 - (lg_sl ([.int p0])).length) Slot.unset).toArray = ls at hl ⊢
  have hl : lv_has ls 3 [(0, .int p0)] := hl
  refine lv_iconst (v := 0) hx hb dX11_ones_0 (by decide) ?_
  refine lv_istore_n (lv' := [(1, .int 0), (0, .int p0)]) hx hb dX11_ones_1 rfl hl (by decide) rfl (fun ls hl => ?_)
  refine lv_iconst (v := 0) hx hb dX11_ones_2 (by decide) ?_
  refine lv_istore_n (lv' := [(2, .int 0), (1, .int 0), (0, .int p0)]) hx hb dX11_ones_3 rfl hl (by decide) rfl (fun ls hl => ?_)
  have hLp_4 : ∀ (n : Nat) (x0_4 : Int32) (x1_4 : Int32) (x2_4 : Int32), s_X11_ones_L4 n S x0_4 x1_4 x2_4 → (∀ q : Int32, q = f_X11_ones_L4 n S x0_4 x1_4 x2_4 → (∀ (H : Heap) (locs : List Loc), va_P X.1 vwCl (xW X S) H → va_S (xA X) s.heap H locs → ∀ (ls : Array Slot), lv_has ls 3 [(1, .int q)] → W p l e ({ frames := 0, cells := 0, slots := 0, locals := 0 } : Room) s m ([.int p0] : List Value).toArray below meth c H locs 0 0 (MQ below (va_Qi (fun (r : Int32) (u : xS) => r = (f_X11_ones S p0) ∧ u = S) (xI X) (xA X)) ([.int p0] : List Value).toArray s 0 0 (xA X)) (F0 m 24 ls []))) → ∀ (H : Heap) (locs : List Loc), va_P X.1 vwCl (xW X S) H → va_S (xA X) s.heap H locs → ∀ (ls : Array Slot), lv_has ls 3 [(0, .int x0_4), (1, .int x1_4), (2, .int x2_4)] → W p l e ({ frames := 0, cells := 0, slots := 0, locals := 0 } : Room) s m ([.int p0] : List Value).toArray below meth c H locs 0 0 (MQ below (va_Qi (fun (r : Int32) (u : xS) => r = (f_X11_ones S p0) ∧ u = S) (xI X) (xA X)) ([.int p0] : List Value).toArray s 0 0 (xA X)) (F0 m 4 ls []) := by
    intro n
    induction n with
    | zero => intro x0_4 x1_4 x2_4 hs; exact hs.elim
    | succ n ih_4 =>
      intro x0_4 x1_4 x2_4 hs_4 hex_4 H locs hP hS ls hl
      refine lv_iload_n hx hb dX11_ones_4 rfl (lv_at hl 2 rfl) ?_
      refine lv_bipush (v := 7) hx hb dX11_ones_5 (by decide) ?_
      refine lv_icmp_ge (tgt := 24) hx hb dX11_ones_7 (by decide) (fun c_1 => ?_) (fun c_1 => ?_)
      · have he_2 : f_X11_ones_L4 (n + 1) S x0_4 x1_4 x2_4 = x1_4 := ((ip c_1 rfl))
        exact hex_4 _ he_2.symm _ _ hP hS ls (lv_sub hl [1] rfl)
      · refine lv_iload_n hx hb dX11_ones_10 rfl (lv_at hl 1 rfl) ?_
        refine lv_iload_n hx hb dX11_ones_11 rfl (lv_at hl 0 rfl) ?_
        refine lv_iload_n hx hb dX11_ones_12 rfl (lv_at hl 2 rfl) ?_
        refine lv_ishr hx hb dX11_ones_13 ?_
        refine lv_iconst (v := 1) hx hb dX11_ones_14 (by decide) ?_
        refine lv_iand hx hb dX11_ones_15 ?_
        refine lv_iadd hx hb dX11_ones_16 ?_
        refine lv_istore_n (lv' := [(1, .int (x1_4 + ((x0_4 >>> (x2_4 &&& 31)) &&& 1))), (0, .int x0_4), (2, .int x2_4)]) hx hb dX11_ones_17 rfl hl (by decide) rfl (fun ls hl => ?_)
        refine lv_iinc (v := (x2_4 + 1)) (lv' := [(2, .int (x2_4 + 1)), (1, .int (x1_4 + ((x0_4 >>> (x2_4 &&& 31)) &&& 1))), (0, .int x0_4)]) hx hb dX11_ones_18 hl (k := 2) rfl rfl (by decide) rfl (fun ls hl => ?_)
        refine lv_goto (tgt := 4) hx hb dX11_ones_21 (by decide) ?_
        have he_3 : f_X11_ones_L4 (n + 1) S x0_4 x1_4 x2_4 = f_X11_ones_L4 n S x0_4 (x1_4 + ((x0_4 >>> (x2_4 &&& 31)) &&& 1)) (x2_4 + 1) := ((iN c_1 rfl))
        exact ih_4 x0_4 (x1_4 + ((x0_4 >>> (x2_4 &&& 31)) &&& 1)) (x2_4 + 1) ((sn hs_4 c_1)) (fun q hq => hex_4 q (hq.trans he_3.symm)) _ _ hP hS ls (lv_sub hl [2, 1, 0] rfl)
  refine hLp_4 ((fu 0 7)) p0 0 0 (nl hs) (fun q_4 hq_4 H locs hP hS ls hl => ?_) _ _ hP hS ls (lv_sub hl [2, 1, 0] rfl)
  refine lv_iload_n hx hb dX11_ones_24 rfl (lv_at hl 0 rfl) ?_
  exact xret_iR hC hP hS hb hr ((by subst hq_4; exact rfl)) dX11_ones_25 hlocks
theorem hd_X11_isRoom : yX11_isRoom.cls = RX11 ∧ yX11_isRoom.cls ≠ "java/lang/invoke/MethodHandle" ∧ yX11_isRoom.cls ≠ "java/lang/invoke/VarHandle" ∧ (parseMethodDescriptor yX11_isRoom.desc).map (fun d => d.parameters.length) = some 1 := by decide +kernel
set_option maxHeartbeats 4000000 in
set_option maxRecDepth 100000 in
theorem k_X11_isRoom (l : Launch) (X : xX) (S : xS) (p0 : Int32) : Met l yX11_isRoom wsX11_isRoom ({ frames := 1, cells := 0, slots := 0, locals := 25 } : Room) (va_Pc [.ref (X.2.1 127), .int p0] (xI X S)) (va_Qi (fun (r : Int32) (u : xS) => (r = (f_X11_isRoom S p0) ∧ (r = 0 ∨ r = 1)) ∧ u = S) (xI X) (xA X)) 0 0 (xA X) := by
  refine Met.ofW (cc := cX11_isRoom) (maxL := 2) (ret := (some .boolean)) (by decide) rfl ?_
  intro p e s m args below meth c s₁ B hml hv
  obtain ⟨rfl, hP, hK, hN, hJ⟩ := hv
  have hx := B.exec
  have hb := B.bytes
  have hr := B.returns
  have hts := atoms_spec (ws := wsX11_isRoom) B.pre
  have hown : s.vm.findClass RX11 = some m.cls := findClass_of_methodNamed B.named
  have hlocks := B.notSynchronized
  have hC : xC X p m c cX11_isRoom 2 s _ wsX11_isRoom RX11 := ⟨⟨hx, hb, hml, hown, hts⟩, hK, hN, hJ⟩
  have hS : va_S (xA X) s.heap s.heap [] := va_S.rf
  have hin_X11 : ∀ w ∈ u_ws RX11 TX11 41, w ∈ wsX11_isRoom := by decide +kernel
  have hl := lv_entry ([.ref (X.2.1 127), .int p0]) (n := 2) (Nat.le_of_ble_eq_true rfl)
  rw [lg_entry_eq]
  generalize (lg_sl ([.ref (X.2.1 127), .int p0]) ++ List.replicate (2 - (lg_sl ([.ref (X.2.1 127), .int p0])).length) Slot.unset).toArray = ls at hl ⊢
  have hl : lv_has ls 2 [(0, .ref (X.2.1 127)), (1, .int p0)] := hl
  refine lv_iload_n hx hb dX11_isRoom_0 rfl (lv_at hl 1 rfl) ?_
  refine lv_i2l (v := (p0 : Int32).toInt64) hx hb dX11_isRoom_1 rfl ?_
  refine lv_lconst (v := 0) hx hb dX11_isRoom_2 (by decide) ?_
  refine lv_aload_n hx hb dX11_isRoom_3 rfl (lv_at hl 0 rfl) ?_
  refine xget (ref := "AbsentPraiseModel") (T := TX11) (v := .int (S 127 0)) hC hP hin_X11 xo_X11 rfl 0 (by decide) (List.mem_of_getElem? (i := 1) rfl) rfl rfl dX11_isRoom_4 ?_
  refine lv_iconst (v := 1) hx hb dX11_isRoom_7 (by decide) ?_
  refine lv_isub hx hb dX11_isRoom_8 ?_
  refine lv_i2l (v := (((S 127 0) - 1) : Int32).toInt64) hx hb dX11_isRoom_9 rfl ?_
  refine xcS_iR (As := [.long (p0 : Int32).toInt64, .long 0, .long (((S 127 0) - 1) : Int32).toInt64]) (rest := []) hC hP hS (k_X11_in l X S (p0 : Int32).toInt64 0 (((S 127 0) - 1) : Int32).toInt64) (va_cwS 3 hts gX11_isRoom_X11_in rfl rfl rfl hs_X11_in ⟨Nat.le_of_ble_eq_true rfl, Nat.le_of_ble_eq_true rfl⟩) rfl rfl hl.1 (Nat.le_of_ble_eq_true rfl) dX11_isRoom_10 (fun r_1 hp_r_1 H locs hP hS => ?_)
  obtain ⟨hr_1, hzr_1⟩ := hp_r_1
  exact xret_zR hC hP hS hb hr hzr_1 ((by subst hr_1; exact rfl)) dX11_isRoom_13 hlocks
theorem hd_X11_isPerson : yX11_isPerson.cls = RX11 ∧ yX11_isPerson.cls ≠ "java/lang/invoke/MethodHandle" ∧ yX11_isPerson.cls ≠ "java/lang/invoke/VarHandle" ∧ (parseMethodDescriptor yX11_isPerson.desc).map (fun d => d.parameters.length) = some 1 := by decide +kernel
set_option maxHeartbeats 4000000 in
set_option maxRecDepth 100000 in
theorem k_X11_isPerson (l : Launch) (X : xX) (S : xS) (p0 : Int32) : Met l yX11_isPerson wsX11_isPerson ({ frames := 1, cells := 0, slots := 0, locals := 25 } : Room) (va_Pc [.ref (X.2.1 127), .int p0] (xI X S)) (va_Qi (fun (r : Int32) (u : xS) => (r = (f_X11_isPerson S p0) ∧ (r = 0 ∨ r = 1)) ∧ u = S) (xI X) (xA X)) 0 0 (xA X) := by
  refine Met.ofW (cc := cX11_isPerson) (maxL := 2) (ret := (some .boolean)) (by decide) rfl ?_
  intro p e s m args below meth c s₁ B hml hv
  obtain ⟨rfl, hP, hK, hN, hJ⟩ := hv
  have hx := B.exec
  have hb := B.bytes
  have hr := B.returns
  have hts := atoms_spec (ws := wsX11_isPerson) B.pre
  have hown : s.vm.findClass RX11 = some m.cls := findClass_of_methodNamed B.named
  have hlocks := B.notSynchronized
  have hC : xC X p m c cX11_isPerson 2 s _ wsX11_isPerson RX11 := ⟨⟨hx, hb, hml, hown, hts⟩, hK, hN, hJ⟩
  have hS : va_S (xA X) s.heap s.heap [] := va_S.rf
  have hin_X11 : ∀ w ∈ u_ws RX11 TX11 41, w ∈ wsX11_isPerson := by decide +kernel
  have hl := lv_entry ([.ref (X.2.1 127), .int p0]) (n := 2) (Nat.le_of_ble_eq_true rfl)
  rw [lg_entry_eq]
  generalize (lg_sl ([.ref (X.2.1 127), .int p0]) ++ List.replicate (2 - (lg_sl ([.ref (X.2.1 127), .int p0])).length) Slot.unset).toArray = ls at hl ⊢
  have hl : lv_has ls 2 [(0, .ref (X.2.1 127)), (1, .int p0)] := hl
  refine lv_iload_n hx hb dX11_isPerson_0 rfl (lv_at hl 1 rfl) ?_
  refine lv_i2l (v := (p0 : Int32).toInt64) hx hb dX11_isPerson_1 rfl ?_
  refine lv_lconst (v := 0) hx hb dX11_isPerson_2 (by decide) ?_
  refine lv_aload_n hx hb dX11_isPerson_3 rfl (lv_at hl 0 rfl) ?_
  refine xget (ref := "AbsentPraiseModel") (T := TX11) (v := .int (S 127 6)) hC hP hin_X11 xo_X11 rfl 6 (by decide) (List.mem_of_getElem? (i := 1) rfl) rfl rfl dX11_isPerson_4 ?_
  refine lv_iconst (v := 1) hx hb dX11_isPerson_7 (by decide) ?_
  refine lv_isub hx hb dX11_isPerson_8 ?_
  refine lv_i2l (v := (((S 127 6) - 1) : Int32).toInt64) hx hb dX11_isPerson_9 rfl ?_
  refine xcS_iR (As := [.long (p0 : Int32).toInt64, .long 0, .long (((S 127 6) - 1) : Int32).toInt64]) (rest := []) hC hP hS (k_X11_in l X S (p0 : Int32).toInt64 0 (((S 127 6) - 1) : Int32).toInt64) (va_cwS 3 hts gX11_isPerson_X11_in rfl rfl rfl hs_X11_in ⟨Nat.le_of_ble_eq_true rfl, Nat.le_of_ble_eq_true rfl⟩) rfl rfl hl.1 (Nat.le_of_ble_eq_true rfl) dX11_isPerson_10 (fun r_1 hp_r_1 H locs hP hS => ?_)
  obtain ⟨hr_1, hzr_1⟩ := hp_r_1
  exact xret_zR hC hP hS hb hr hzr_1 ((by subst hr_1; exact rfl)) dX11_isPerson_13 hlocks
theorem hd_X11_areTwo : yX11_areTwo.cls = RX11 ∧ yX11_areTwo.cls ≠ "java/lang/invoke/MethodHandle" ∧ yX11_areTwo.cls ≠ "java/lang/invoke/VarHandle" ∧ (parseMethodDescriptor yX11_areTwo.desc).map (fun d => d.parameters.length) = some 2 := by decide +kernel
set_option maxHeartbeats 4000000 in
set_option maxRecDepth 100000 in
theorem k_X11_areTwo (l : Launch) (X : xX) (S : xS) (p0 : Int32) (p1 : Int32) : Met l yX11_areTwo wsX11_areTwo ({ frames := 2, cells := 0, slots := 0, locals := 46 } : Room) (va_Pc [.ref (X.2.1 127), .int p0, .int p1] (xI X S)) (va_Qi (fun (r : Int32) (u : xS) => (r = (f_X11_areTwo S p0 p1) ∧ (r = 0 ∨ r = 1)) ∧ u = S) (xI X) (xA X)) 0 0 (xA X) := by
  refine Met.ofW (cc := cX11_areTwo) (maxL := 3) (ret := (some .boolean)) (by decide) rfl ?_
  intro p e s m args below meth c s₁ B hml hv
  obtain ⟨rfl, hP, hK, hN, hJ⟩ := hv
  have hx := B.exec
  have hb := B.bytes
  have hr := B.returns
  have hts := atoms_spec (ws := wsX11_areTwo) B.pre
  have hown : s.vm.findClass RX11 = some m.cls := findClass_of_methodNamed B.named
  have hlocks := B.notSynchronized
  have hC : xC X p m c cX11_areTwo 3 s _ wsX11_areTwo RX11 := ⟨⟨hx, hb, hml, hown, hts⟩, hK, hN, hJ⟩
  have hS : va_S (xA X) s.heap s.heap [] := va_S.rf
  have hl := lv_entry ([.ref (X.2.1 127), .int p0, .int p1]) (n := 3) (Nat.le_of_ble_eq_true rfl)
  rw [lg_entry_eq]
  generalize (lg_sl ([.ref (X.2.1 127), .int p0, .int p1]) ++ List.replicate (3 - (lg_sl ([.ref (X.2.1 127), .int p0, .int p1])).length) Slot.unset).toArray = ls at hl ⊢
  have hl : lv_has ls 3 [(0, .ref (X.2.1 127)), (1, .int p0), (2, .int p1)] := hl
  refine lv_aload_n hx hb dX11_areTwo_0 rfl (lv_at hl 0 rfl) ?_
  refine lv_iload_n hx hb dX11_areTwo_1 rfl (lv_at hl 1 rfl) ?_
  refine xcV_iR (b := 127) (As := [.int p0]) (rest := []) hC hP hS (k_X11_isPerson l X S p0) (cwV 1 hts gX11_areTwo_X11_isPerson rfl rfl rfl hd_X11_isPerson ⟨Nat.le_of_ble_eq_true rfl, Nat.le_of_ble_eq_true rfl⟩) xo_X11 rfl rfl rfl hl.1 (Nat.le_of_ble_eq_true rfl) dX11_areTwo_2 (fun r_1 hp_r_1 H locs hP hS => ?_)
  obtain ⟨hr_1, hzr_1⟩ := hp_r_1
  refine lv_if_eq (tgt := 25) hx hb dX11_areTwo_5 (by decide) (fun c_2 => ?_) (fun c_2 => ?_)
  · refine lv_iconst (v := 0) hx hb dX11_areTwo_25 (by decide) ?_
    exact xret_zR hC hP hS hb hr (.inl rfl) ((by subst hr_1; exact (ip c_2 rfl))) dX11_areTwo_26 hlocks
  · refine lv_aload_n hx hb dX11_areTwo_8 rfl (lv_at hl 0 rfl) ?_
    refine lv_iload_n hx hb dX11_areTwo_9 rfl (lv_at hl 2 rfl) ?_
    refine xcV_iR (b := 127) (As := [.int p1]) (rest := []) hC hP hS (k_X11_isPerson l X S p1) (cwV 1 hts gX11_areTwo_X11_isPerson rfl rfl rfl hd_X11_isPerson ⟨Nat.le_of_ble_eq_true rfl, Nat.le_of_ble_eq_true rfl⟩) xo_X11 rfl rfl rfl hl.1 (Nat.le_of_ble_eq_true rfl) dX11_areTwo_10 (fun r_3 hp_r_3 H locs hP hS => ?_)
    obtain ⟨hr_3, hzr_3⟩ := hp_r_3
    refine lv_if_eq (tgt := 25) hx hb dX11_areTwo_13 (by decide) (fun c_4 => ?_) (fun c_4 => ?_)
    · refine lv_iconst (v := 0) hx hb dX11_areTwo_25 (by decide) ?_
      exact xret_zR hC hP hS hb hr (.inl rfl) ((by subst hr_1 hr_3; exact (iN c_2 (ip c_4 rfl)))) dX11_areTwo_26 hlocks
    · refine lv_iload_n hx hb dX11_areTwo_16 rfl (lv_at hl 1 rfl) ?_
      refine lv_iload_n hx hb dX11_areTwo_17 rfl (lv_at hl 2 rfl) ?_
      refine lv_icmp_eq (tgt := 25) hx hb dX11_areTwo_18 (by decide) (fun c_5 => ?_) (fun c_5 => ?_)
      · refine lv_iconst (v := 0) hx hb dX11_areTwo_25 (by decide) ?_
        exact xret_zR hC hP hS hb hr (.inl rfl) ((by subst hr_1 hr_3; exact (iN c_2 (iN c_4 (ip c_5 rfl))))) dX11_areTwo_26 hlocks
      · refine lv_iconst (v := 1) hx hb dX11_areTwo_21 (by decide) ?_
        refine lv_goto (tgt := 26) hx hb dX11_areTwo_22 (by decide) ?_
        exact xret_zR hC hP hS hb hr (.inr rfl) ((by subst hr_1 hr_3; exact (iN c_2 (iN c_4 (iN c_5 rfl))))) dX11_areTwo_26 hlocks
theorem hd_X11_feed : yX11_feed.cls = RX11 ∧ yX11_feed.cls ≠ "java/lang/invoke/MethodHandle" ∧ yX11_feed.cls ≠ "java/lang/invoke/VarHandle" ∧ (parseMethodDescriptor yX11_feed.desc).map (fun d => d.parameters.length) = some 1 := by decide +kernel
set_option maxHeartbeats 4000000 in
set_option maxRecDepth 100000 in
theorem k_X11_feed (l : Launch) (X : xX) (S : xS) (p0 : Int32) (hs : s_X11_feed S p0) : Met l yX11_feed wsX11_feed ({ frames := 1, cells := 0, slots := 0, locals := 25 } : Room) (va_Pc [.ref (X.2.1 127), .int p0] (xI X S)) (va_Qi (fun (r : Int32) (u : xS) => r = (f_X11_feed S p0).1 ∧ u = (f_X11_feed S p0).2) (xI X) (xA X)) 0 0 (xA X) := by
  refine Met.ofW (cc := cX11_feed) (maxL := 2) (ret := (some .int)) (by decide) rfl ?_
  intro p e s m args below meth c s₁ B hml hv
  obtain ⟨rfl, hP, hK, hN, hJ⟩ := hv
  have hx := B.exec
  have hb := B.bytes
  have hr := B.returns
  have hts := atoms_spec (ws := wsX11_feed) B.pre
  have hown : s.vm.findClass RX11 = some m.cls := findClass_of_methodNamed B.named
  have hlocks := B.notSynchronized
  have hC : xC X p m c cX11_feed 2 s _ wsX11_feed RX11 := ⟨⟨hx, hb, hml, hown, hts⟩, hK, hN, hJ⟩
  have hS : va_S (xA X) s.heap s.heap [] := va_S.rf
  have hin_X11 : ∀ w ∈ u_ws RX11 TX11 41, w ∈ wsX11_feed := by decide +kernel
  have hl := lv_entry ([.ref (X.2.1 127), .int p0]) (n := 2) (Nat.le_of_ble_eq_true rfl)
  rw [lg_entry_eq]
  generalize (lg_sl ([.ref (X.2.1 127), .int p0]) ++ List.replicate (2 - (lg_sl ([.ref (X.2.1 127), .int p0])).length) Slot.unset).toArray = ls at hl ⊢
  have hl : lv_has ls 2 [(0, .ref (X.2.1 127)), (1, .int p0)] := hl
  refine lv_iload_n hx hb dX11_feed_0 rfl (lv_at hl 1 rfl) ?_
  refine lv_i2l (v := (p0 : Int32).toInt64) hx hb dX11_feed_1 rfl ?_
  refine lv_lconst (v := 0) hx hb dX11_feed_2 (by decide) ?_
  refine lv_ldc2 (v := 255) hx hb hown (hts (.constantLong RX11 89 (255)) (List.mem_of_getElem? (i := 1) rfl)) dX11_feed_3 ?_
  refine xcS_iR (As := [.long (p0 : Int32).toInt64, .long 0, .long 255]) (rest := []) hC hP hS (k_X11_in l X S (p0 : Int32).toInt64 0 255) (va_cwS 3 hts gX11_feed_X11_in rfl rfl rfl hs_X11_in ⟨Nat.le_of_ble_eq_true rfl, Nat.le_of_ble_eq_true rfl⟩) rfl rfl hl.1 (Nat.le_of_ble_eq_true rfl) dX11_feed_6 (fun r_1 hp_r_1 H locs hP hS => ?_)
  obtain ⟨hr_1, hzr_1⟩ := hp_r_1
  refine lv_if_ne (tgt := 15) hx hb dX11_feed_9 (by decide) (fun c_2 => ?_) (fun c_2 => ?_)
  · refine lv_aload_n hx hb dX11_feed_15 rfl (lv_at hl 0 rfl) ?_
    refine xget (ref := "AbsentPraiseModel") (T := TX11) (v := .int (S 127 19)) hC hP hin_X11 xo_X11 rfl 19 (by decide) (List.mem_of_getElem? (i := 3) rfl) rfl rfl dX11_feed_16 ?_
    refine lv_sipush (v := 240) hx hb dX11_feed_19 (by decide) ?_
    refine lv_icmp_ne (tgt := 28) hx hb dX11_feed_22 (by decide) (fun c_3 => ?_) (fun c_3 => ?_)
    · refine lv_aload_n hx hb dX11_feed_28 rfl (lv_at hl 0 rfl) ?_
      refine xget (ref := "AbsentPraiseModel") (T := TX11) (v := .ref (X.2.1 138)) hC hP hin_X11 xo_X11 rfl 18 (by decide) (List.mem_of_getElem? (i := 5) rfl) rfl rfl dX11_feed_29 ?_
      refine lv_aload_n hx hb dX11_feed_32 rfl (lv_at hl 0 rfl) ?_
      refine xget (ref := "AbsentPraiseModel") (T := TX11) (v := .int (S 127 19)) hC hP hin_X11 xo_X11 rfl 19 (by decide) (List.mem_of_getElem? (i := 3) rfl) rfl rfl dX11_feed_33 ?_
      refine lv_iload_n hx hb dX11_feed_36 rfl (lv_at hl 1 rfl) ?_
      have hn_4 : vp_in (S 127 19) 240 := (by subst hr_1; exact nl (sn (sn hs c_2) c_3))
      refine xiast hC hP hS rfl hn_4 dX11_feed_37 (fun S_5 hS_5 H locs hP hS => ?_)
      refine lv_aload_n hx hb dX11_feed_38 rfl (lv_at hl 0 rfl) ?_
      refine lv_dup hx hb dX11_feed_39 rfl ?_
      refine xget (ref := "AbsentPraiseModel") (T := TX11) (v := .int (S_5 127 19)) hC hP hin_X11 xo_X11 rfl 19 (by decide) (List.mem_of_getElem? (i := 3) rfl) rfl rfl dX11_feed_40 ?_
      refine lv_iconst (v := 1) hx hb dX11_feed_43 (by decide) ?_
      refine lv_iadd hx hb dX11_feed_44 ?_
      refine xput (ref := "AbsentPraiseModel") (T := TX11) (ty := .int) hC hP hS (by decide) hin_X11 tyX11 tyX11_ok nmX11 xo_X11 rfl 19 (by decide) (List.mem_of_getElem? (i := 3) rfl) rfl rfl rfl rfl rfl (Nat.le_of_ble_eq_true rfl) dX11_feed_45 rfl (fun S_6 hS_6 H locs hP hS => ?_)
      refine lv_aload_n hx hb dX11_feed_48 rfl (lv_at hl 0 rfl) ?_
      refine xget (ref := "AbsentPraiseModel") (T := TX11) (v := .int (S_6 127 19)) hC hP hin_X11 xo_X11 rfl 19 (by decide) (List.mem_of_getElem? (i := 3) rfl) rfl rfl dX11_feed_49 ?_
      exact xret_iW hC hP hS hb hr ((by subst hr_1 hS_5 hS_6; exact (iN c_2 (iN c_3 rfl)))) dX11_feed_52 hlocks
    · refine lv_ldc (v := (-1000000004)) hx hb hown (hts (.constant RX11 95 (-1000000004)) (List.mem_of_getElem? (i := 4) rfl)) dX11_feed_25 ?_
      exact xret_iW hC hP hS hb hr ((by subst hr_1; exact (iN c_2 (ip c_3 rfl)))) dX11_feed_27 hlocks
  · refine lv_ldc (v := (-1000000002)) hx hb hown (hts (.constant RX11 91 (-1000000002)) (List.mem_of_getElem? (i := 2) rfl)) dX11_feed_12 ?_
    exact xret_iW hC hP hS hb hr ((by subst hr_1; exact (ip c_2 rfl))) dX11_feed_14 hlocks
theorem hd_X11_here : yX11_here.cls = RX11 ∧ yX11_here.cls ≠ "java/lang/invoke/MethodHandle" ∧ yX11_here.cls ≠ "java/lang/invoke/VarHandle" ∧ (parseMethodDescriptor yX11_here.desc).map (fun d => d.parameters.length) = some 0 := by decide +kernel
set_option maxHeartbeats 4000000 in
set_option maxRecDepth 100000 in
theorem k_X11_here (l : Launch) (X : xX) (S : xS) (hs : s_X11_here S) : Met l yX11_here wsX11_here ({ frames := 0, cells := 0, slots := 0, locals := 0 } : Room) (va_Pc [.ref (X.2.1 127)] (xI X S)) (va_Qi (fun (r : Int32) (u : xS) => r = (f_X11_here S).1 ∧ u = (f_X11_here S).2) (xI X) (xA X)) 0 0 (xA X) := by
  refine Met.ofW (cc := cX11_here) (maxL := 1) (ret := (some .int)) (by decide) rfl ?_
  intro p e s m args below meth c s₁ B hml hv
  obtain ⟨rfl, hP, hK, hN, hJ⟩ := hv
  have hx := B.exec
  have hb := B.bytes
  have hr := B.returns
  have hts := atoms_spec (ws := wsX11_here) B.pre
  have hown : s.vm.findClass RX11 = some m.cls := findClass_of_methodNamed B.named
  have hlocks := B.notSynchronized
  have hC : xC X p m c cX11_here 1 s _ wsX11_here RX11 := ⟨⟨hx, hb, hml, hown, hts⟩, hK, hN, hJ⟩
  have hS : va_S (xA X) s.heap s.heap [] := va_S.rf
  have hin_X11 : ∀ w ∈ u_ws RX11 TX11 41, w ∈ wsX11_here := by decide +kernel
  have hl := lv_entry ([.ref (X.2.1 127)]) (n := 1) (Nat.le_of_ble_eq_true rfl)
  rw [lg_entry_eq]
  generalize (lg_sl ([.ref (X.2.1 127)]) ++ List.replicate (1 - (lg_sl ([.ref (X.2.1 127)])).length) Slot.unset).toArray = ls at hl ⊢
  have hl : lv_has ls 1 [(0, .ref (X.2.1 127))] := hl
  have hLp_0 : ∀ (n : Nat) (T_0 : xS), s_X11_here_L0 n T_0 → (∀ q : xS, q = f_X11_here_L0 n T_0 → (∀ (H : Heap) (locs : List Loc), va_P X.1 vwCl (xW X q) H → va_S (xA X) s.heap H locs → ∀ (ls : Array Slot), lv_has ls 1 [(0, .ref (X.2.1 127))] → W p l e ({ frames := 0, cells := 0, slots := 0, locals := 0 } : Room) s m ([.ref (X.2.1 127)] : List Value).toArray below meth c H locs 0 0 (MQ below (va_Qi (fun (r : Int32) (u : xS) => r = (f_X11_here S).1 ∧ u = (f_X11_here S).2) (xI X) (xA X)) ([.ref (X.2.1 127)] : List Value).toArray s 0 0 (xA X)) (F0 m 38 ls []))) → ∀ (H : Heap) (locs : List Loc), va_P X.1 vwCl (xW X T_0) H → va_S (xA X) s.heap H locs → ∀ (ls : Array Slot), lv_has ls 1 [(0, .ref (X.2.1 127))] → W p l e ({ frames := 0, cells := 0, slots := 0, locals := 0 } : Room) s m ([.ref (X.2.1 127)] : List Value).toArray below meth c H locs 0 0 (MQ below (va_Qi (fun (r : Int32) (u : xS) => r = (f_X11_here S).1 ∧ u = (f_X11_here S).2) (xI X) (xA X)) ([.ref (X.2.1 127)] : List Value).toArray s 0 0 (xA X)) (F0 m 0 ls []) := by
    intro n
    induction n with
    | zero => intro T_0 hs; exact hs.elim
    | succ n ih_0 =>
      intro T_0 hs_0 hex_0 H locs hP hS ls hl
      refine lv_aload_n hx hb dX11_here_0 rfl (lv_at hl 0 rfl) ?_
      refine xget (ref := "AbsentPraiseModel") (T := TX11) (v := .int (T_0 127 21)) hC hP hin_X11 xo_X11 rfl 21 (by decide) (List.mem_of_getElem? (i := 1) rfl) rfl rfl dX11_here_1 ?_
      refine lv_aload_n hx hb dX11_here_4 rfl (lv_at hl 0 rfl) ?_
      refine xget (ref := "AbsentPraiseModel") (T := TX11) (v := .int (T_0 127 19)) hC hP hin_X11 xo_X11 rfl 19 (by decide) (List.mem_of_getElem? (i := 2) rfl) rfl rfl dX11_here_5 ?_
      refine lv_icmp_ge (tgt := 38) hx hb dX11_here_8 (by decide) (fun c_1 => ?_) (fun c_1 => ?_)
      · have he_2 : f_X11_here_L0 (n + 1) T_0 = T_0 := ((ip c_1 rfl))
        exact hex_0 _ he_2.symm _ _ hP hS ls (lv_sub hl [0] rfl)
      · refine lv_aload_n hx hb dX11_here_11 rfl (lv_at hl 0 rfl) ?_
        refine xget (ref := "AbsentPraiseModel") (T := TX11) (v := .ref (X.2.1 138)) hC hP hin_X11 xo_X11 rfl 18 (by decide) (List.mem_of_getElem? (i := 3) rfl) rfl rfl dX11_here_12 ?_
        refine lv_aload_n hx hb dX11_here_15 rfl (lv_at hl 0 rfl) ?_
        refine xget (ref := "AbsentPraiseModel") (T := TX11) (v := .int (T_0 127 21)) hC hP hin_X11 xo_X11 rfl 21 (by decide) (List.mem_of_getElem? (i := 1) rfl) rfl rfl dX11_here_16 ?_
        have hn_3 : vp_in (T_0 127 21) 240 := (nl (sn hs_0 c_1))
        refine xiald hC hP rfl hn_3 dX11_here_19 ?_
        refine lv_bipush (v := 32) hx hb dX11_here_20 (by decide) ?_
        refine lv_icmp_ne (tgt := 38) hx hb dX11_here_22 (by decide) (fun c_4 => ?_) (fun c_4 => ?_)
        · have he_5 : f_X11_here_L0 (n + 1) T_0 = T_0 := ((iN c_1 (iN c_4 rfl)))
          exact hex_0 _ he_5.symm _ _ hP hS ls (lv_sub hl [0] rfl)
        · refine lv_aload_n hx hb dX11_here_25 rfl (lv_at hl 0 rfl) ?_
          refine lv_dup hx hb dX11_here_26 rfl ?_
          refine xget (ref := "AbsentPraiseModel") (T := TX11) (v := .int (T_0 127 21)) hC hP hin_X11 xo_X11 rfl 21 (by decide) (List.mem_of_getElem? (i := 1) rfl) rfl rfl dX11_here_27 ?_
          refine lv_iconst (v := 1) hx hb dX11_here_30 (by decide) ?_
          refine lv_iadd hx hb dX11_here_31 ?_
          refine xput (ref := "AbsentPraiseModel") (T := TX11) (ty := .int) hC hP hS (by decide) hin_X11 tyX11 tyX11_ok nmX11 xo_X11 rfl 21 (by decide) (List.mem_of_getElem? (i := 1) rfl) rfl rfl rfl rfl rfl (Nat.le_of_ble_eq_true rfl) dX11_here_32 rfl (fun S_6 hS_6 H locs hP hS => ?_)
          refine lv_goto (tgt := 0) hx hb dX11_here_35 (by decide) ?_
          have he_7 : f_X11_here_L0 (n + 1) T_0 = f_X11_here_L0 n S_6 := (by subst hS_6; exact (iN c_1 (ip c_4 rfl)))
          exact ih_0 S_6 (by subst hS_6; exact (sp (nr (sn hs_0 c_1)) c_4)) (fun q hq => hex_0 q (hq.trans he_7.symm)) _ _ hP hS ls (lv_sub hl [0] rfl)
  refine hLp_0 ((fu (S 127 21) (S 127 19))) S (nl hs) (fun q_0 hq_0 H locs hP hS ls hl => ?_) _ _ hP hS ls (lv_sub hl [0] rfl)
  refine lv_aload_n hx hb dX11_here_38 rfl (lv_at hl 0 rfl) ?_
  refine xget (ref := "AbsentPraiseModel") (T := TX11) (v := .int (q_0 127 21)) hC hP hin_X11 xo_X11 rfl 21 (by decide) (List.mem_of_getElem? (i := 1) rfl) rfl rfl dX11_here_39 ?_
  refine lv_aload_n hx hb dX11_here_42 rfl (lv_at hl 0 rfl) ?_
  refine xget (ref := "AbsentPraiseModel") (T := TX11) (v := .int (q_0 127 19)) hC hP hin_X11 xo_X11 rfl 19 (by decide) (List.mem_of_getElem? (i := 2) rfl) rfl rfl dX11_here_43 ?_
  refine lv_icmp_ge (tgt := 61) hx hb dX11_here_46 (by decide) (fun c_8 => ?_) (fun c_8 => ?_)
  · refine lv_iconst (v := (-1)) hx hb dX11_here_61 (by decide) ?_
    exact xret_iW hC hP hS hb hr ((by subst hq_0; exact (ip c_8 rfl))) dX11_here_62 hlocks
  · refine lv_aload_n hx hb dX11_here_49 rfl (lv_at hl 0 rfl) ?_
    refine xget (ref := "AbsentPraiseModel") (T := TX11) (v := .ref (X.2.1 138)) hC hP hin_X11 xo_X11 rfl 18 (by decide) (List.mem_of_getElem? (i := 3) rfl) rfl rfl dX11_here_50 ?_
    refine lv_aload_n hx hb dX11_here_53 rfl (lv_at hl 0 rfl) ?_
    refine xget (ref := "AbsentPraiseModel") (T := TX11) (v := .int (q_0 127 21)) hC hP hin_X11 xo_X11 rfl 21 (by decide) (List.mem_of_getElem? (i := 1) rfl) rfl rfl dX11_here_54 ?_
    have hn_9 : vp_in (q_0 127 21) 240 := (by subst hq_0; exact nl (sn (nr hs) c_8))
    refine xiald hC hP rfl hn_9 dX11_here_57 ?_
    refine lv_goto (tgt := 62) hx hb dX11_here_58 (by decide) ?_
    exact xret_iW hC hP hS hb hr ((by subst hq_0; exact (iN c_8 rfl))) dX11_here_62 hlocks
theorem hd_X11_fails : yX11_fails.cls = RX11 ∧ yX11_fails.cls ≠ "java/lang/invoke/MethodHandle" ∧ yX11_fails.cls ≠ "java/lang/invoke/VarHandle" ∧ (parseMethodDescriptor yX11_fails.desc).map (fun d => d.parameters.length) = some 2 := by decide +kernel
set_option maxHeartbeats 4000000 in
set_option maxRecDepth 100000 in
theorem k_X11_fails (l : Launch) (X : xX) (S : xS) (p0 : Int32) (p1 : Int32) : Met l yX11_fails wsX11_fails ({ frames := 0, cells := 0, slots := 0, locals := 0 } : Room) (va_Pc [.ref (X.2.1 127), .int p0, .int p1] (xI X S)) (va_Qi (fun (r : Int32) (u : xS) => r = (f_X11_fails S p0 p1).1 ∧ u = (f_X11_fails S p0 p1).2) (xI X) (xA X)) 0 0 (xA X) := by
  refine Met.ofW (cc := cX11_fails) (maxL := 3) (ret := (some .int)) (by decide) rfl ?_
  intro p e s m args below meth c s₁ B hml hv
  obtain ⟨rfl, hP, hK, hN, hJ⟩ := hv
  have hx := B.exec
  have hb := B.bytes
  have hr := B.returns
  have hts := atoms_spec (ws := wsX11_fails) B.pre
  have hown : s.vm.findClass RX11 = some m.cls := findClass_of_methodNamed B.named
  have hlocks := B.notSynchronized
  have hC : xC X p m c cX11_fails 3 s _ wsX11_fails RX11 := ⟨⟨hx, hb, hml, hown, hts⟩, hK, hN, hJ⟩
  have hS : va_S (xA X) s.heap s.heap [] := va_S.rf
  have hin_X11 : ∀ w ∈ u_ws RX11 TX11 41, w ∈ wsX11_fails := by decide +kernel
  have hl := lv_entry ([.ref (X.2.1 127), .int p0, .int p1]) (n := 3) (Nat.le_of_ble_eq_true rfl)
  rw [lg_entry_eq]
  generalize (lg_sl ([.ref (X.2.1 127), .int p0, .int p1]) ++ List.replicate (3 - (lg_sl ([.ref (X.2.1 127), .int p0, .int p1])).length) Slot.unset).toArray = ls at hl ⊢
  have hl : lv_has ls 3 [(0, .ref (X.2.1 127)), (1, .int p0), (2, .int p1)] := hl
  refine lv_aload_n hx hb dX11_fails_0 rfl (lv_at hl 0 rfl) ?_
  refine lv_iload_n hx hb dX11_fails_1 rfl (lv_at hl 2 rfl) ?_
  refine xput (ref := "AbsentPraiseModel") (T := TX11) (ty := .int) hC hP hS (by decide) hin_X11 tyX11 tyX11_ok nmX11 xo_X11 rfl 20 (by decide) (List.mem_of_getElem? (i := 1) rfl) rfl rfl rfl rfl rfl (Nat.le_of_ble_eq_true rfl) dX11_fails_2 rfl (fun S_1 hS_1 H locs hP hS => ?_)
  refine lv_iload_n hx hb dX11_fails_5 rfl (lv_at hl 1 rfl) ?_
  exact xret_iW hC hP hS hb hr ((by subst hS_1; exact rfl)) dX11_fails_6 hlocks
theorem hd_X11_takeNumber : yX11_takeNumber.cls = RX11 ∧ yX11_takeNumber.cls ≠ "java/lang/invoke/MethodHandle" ∧ yX11_takeNumber.cls ≠ "java/lang/invoke/VarHandle" ∧ (parseMethodDescriptor yX11_takeNumber.desc).map (fun d => d.parameters.length) = some 2 := by decide +kernel
set_option maxHeartbeats 4000000 in
set_option maxRecDepth 100000 in
theorem k_X11_takeNumber (l : Launch) (X : xX) (S : xS) (p0 : Int32) (p1 : Int32) (hs : s_X11_takeNumber S p0 p1) : Met l yX11_takeNumber wsX11_takeNumber ({ frames := 1, cells := 0, slots := 0, locals := 25 } : Room) (va_Pc [.ref (X.2.1 127), .int p0, .int p1] (xI X S)) (va_Qi (fun (r : Int32) (u : xS) => r = (f_X11_takeNumber S p0 p1).1 ∧ u = (f_X11_takeNumber S p0 p1).2) (xI X) (xA X)) 0 0 (xA X) := by
  refine Met.ofW (cc := cX11_takeNumber) (maxL := 4) (ret := (some .int)) (by decide) rfl ?_
  intro p e s m args below meth c s₁ B hml hv
  obtain ⟨rfl, hP, hK, hN, hJ⟩ := hv
  have hx := B.exec
  have hb := B.bytes
  have hr := B.returns
  have hts := atoms_spec (ws := wsX11_takeNumber) B.pre
  have hown : s.vm.findClass RX11 = some m.cls := findClass_of_methodNamed B.named
  have hlocks := B.notSynchronized
  have hC : xC X p m c cX11_takeNumber 4 s _ wsX11_takeNumber RX11 := ⟨⟨hx, hb, hml, hown, hts⟩, hK, hN, hJ⟩
  have hS : va_S (xA X) s.heap s.heap [] := va_S.rf
  have hin_X11 : ∀ w ∈ u_ws RX11 TX11 41, w ∈ wsX11_takeNumber := by decide +kernel
  have hl := lv_entry ([.ref (X.2.1 127), .int p0, .int p1]) (n := 4) (Nat.le_of_ble_eq_true rfl)
  rw [lg_entry_eq]
  generalize (lg_sl ([.ref (X.2.1 127), .int p0, .int p1]) ++ List.replicate (4 - (lg_sl ([.ref (X.2.1 127), .int p0, .int p1])).length) Slot.unset).toArray = ls at hl ⊢
  have hl : lv_has ls 4 [(0, .ref (X.2.1 127)), (1, .int p0), (2, .int p1)] := hl
  refine lv_aload_n hx hb dX11_takeNumber_0 rfl (lv_at hl 0 rfl) ?_
  have hn_1 : s_X11_here S := (nl hs)
  refine xcV_iW (b := 127) (As := []) (rest := []) hC hP hS (k_X11_here l X S hn_1) (cwV 0 hts gX11_takeNumber_X11_here rfl rfl rfl hd_X11_here ⟨Nat.le_of_ble_eq_true rfl, Nat.le_of_ble_eq_true rfl⟩) xo_X11 rfl rfl rfl hl.1 (Nat.le_of_ble_eq_true rfl) dX11_takeNumber_1 (fun r_2 S_3 hp_r_2 H locs hP hS => ?_)
  obtain ⟨hr_2, hS_3⟩ := hp_r_2
  refine lv_istore_n (lv' := [(3, .int r_2), (0, .ref (X.2.1 127)), (1, .int p0), (2, .int p1)]) hx hb dX11_takeNumber_4 rfl hl (by decide) rfl (fun ls hl => ?_)
  refine lv_iload_n hx hb dX11_takeNumber_5 rfl (lv_at hl 0 rfl) ?_
  refine lv_i2l (v := (r_2 : Int32).toInt64) hx hb dX11_takeNumber_6 rfl ?_
  refine lv_ldc2 (v := 48) hx hb hown (hts (.constantLong RX11 103 (48)) (List.mem_of_getElem? (i := 1) rfl)) dX11_takeNumber_7 ?_
  refine lv_ldc2 (v := 57) hx hb hown (hts (.constantLong RX11 105 (57)) (List.mem_of_getElem? (i := 2) rfl)) dX11_takeNumber_10 ?_
  refine xcS_iR (As := [.long (r_2 : Int32).toInt64, .long 48, .long 57]) (rest := []) hC hP hS (k_X11_in l X S_3 (r_2 : Int32).toInt64 48 57) (va_cwS 3 hts gX11_takeNumber_X11_in rfl rfl rfl hs_X11_in ⟨Nat.le_of_ble_eq_true rfl, Nat.le_of_ble_eq_true rfl⟩) rfl rfl hl.1 (Nat.le_of_ble_eq_true rfl) dX11_takeNumber_13 (fun r_5 hp_r_5 H locs hP hS => ?_)
  obtain ⟨hr_5, hzr_5⟩ := hp_r_5
  refine lv_if_ne (tgt := 29) hx hb dX11_takeNumber_16 (by decide) (fun c_6 => ?_) (fun c_6 => ?_)
  · refine lv_aload_n hx hb dX11_takeNumber_29 rfl (lv_at hl 1 rfl) ?_
    refine lv_aload_n hx hb dX11_takeNumber_30 rfl (lv_at hl 1 rfl) ?_
    refine xget (ref := "AbsentPraiseModel") (T := TX11) (v := .int (S_3 127 21)) hC hP hin_X11 xo_X11 rfl 21 (by decide) (List.mem_of_getElem? (i := 3) rfl) rfl rfl dX11_takeNumber_31 ?_
    refine xput (ref := "AbsentPraiseModel") (T := TX11) (ty := .int) hC hP hS (by decide) hin_X11 tyX11 tyX11_ok nmX11 xo_X11 rfl 23 (by decide) (List.mem_of_getElem? (i := 4) rfl) rfl rfl rfl rfl rfl (Nat.le_of_ble_eq_true rfl) dX11_takeNumber_34 rfl (fun S_7 hS_7 H locs hP hS => ?_)
    refine lv_aload_n hx hb dX11_takeNumber_37 rfl (lv_at hl 1 rfl) ?_
    refine lv_iconst (v := 0) hx hb dX11_takeNumber_38 (by decide) ?_
    refine xput (ref := "AbsentPraiseModel") (T := TX11) (ty := .int) hC hP hS (by decide) hin_X11 tyX11 tyX11_ok nmX11 xo_X11 rfl 22 (by decide) (List.mem_of_getElem? (i := 5) rfl) rfl rfl rfl rfl rfl (Nat.le_of_ble_eq_true rfl) dX11_takeNumber_39 rfl (fun S_8 hS_8 H locs hP hS => ?_)
    have hLp_42 : ∀ (n : Nat) (T_42 : xS) (x1_42 : Int32) (x2_42 : Int32), s_X11_takeNumber_L42 n T_42 x1_42 x2_42 → (∀ q : xS, q = f_X11_takeNumber_L42 n T_42 x1_42 x2_42 → (∀ (H : Heap) (locs : List Loc), va_P X.1 vwCl (xW X q) H → va_S (xA X) s.heap H locs → ∀ (ls : Array Slot), lv_has ls 4 [(0, .ref (X.2.1 127)), (1, .int x1_42), (2, .int x2_42)] → W p l e ({ frames := 1, cells := 0, slots := 0, locals := 25 } : Room) s m ([.ref (X.2.1 127), .int p0, .int p1] : List Value).toArray below meth c H locs 0 0 (MQ below (va_Qi (fun (r : Int32) (u : xS) => r = (f_X11_takeNumber S p0 p1).1 ∧ u = (f_X11_takeNumber S p0 p1).2) (xI X) (xA X)) ([.ref (X.2.1 127), .int p0, .int p1] : List Value).toArray s 0 0 (xA X)) (F0 m 129 ls []))) → ∀ (H : Heap) (locs : List Loc), va_P X.1 vwCl (xW X T_42) H → va_S (xA X) s.heap H locs → ∀ (ls : Array Slot), lv_has ls 4 [(0, .ref (X.2.1 127)), (1, .int x1_42), (2, .int x2_42)] → W p l e ({ frames := 1, cells := 0, slots := 0, locals := 25 } : Room) s m ([.ref (X.2.1 127), .int p0, .int p1] : List Value).toArray below meth c H locs 0 0 (MQ below (va_Qi (fun (r : Int32) (u : xS) => r = (f_X11_takeNumber S p0 p1).1 ∧ u = (f_X11_takeNumber S p0 p1).2) (xI X) (xA X)) ([.ref (X.2.1 127), .int p0, .int p1] : List Value).toArray s 0 0 (xA X)) (F0 m 42 ls []) := by
      intro n
      induction n with
      | zero => intro T_42 x1_42 x2_42 hs; exact hs.elim
      | succ n ih_42 =>
        intro T_42 x1_42 x2_42 hs_42 hex_42 H locs hP hS ls hl
        refine lv_aload_n hx hb dX11_takeNumber_42 rfl (lv_at hl 0 rfl) ?_
        refine xget (ref := "AbsentPraiseModel") (T := TX11) (v := .int (T_42 127 21)) hC hP hin_X11 xo_X11 rfl 21 (by decide) (List.mem_of_getElem? (i := 3) rfl) rfl rfl dX11_takeNumber_43 ?_
        refine lv_aload_n hx hb dX11_takeNumber_46 rfl (lv_at hl 0 rfl) ?_
        refine xget (ref := "AbsentPraiseModel") (T := TX11) (v := .int (T_42 127 19)) hC hP hin_X11 xo_X11 rfl 19 (by decide) (List.mem_of_getElem? (i := 6) rfl) rfl rfl dX11_takeNumber_47 ?_
        refine lv_icmp_ge (tgt := 129) hx hb dX11_takeNumber_50 (by decide) (fun c_9 => ?_) (fun c_9 => ?_)
        · have he_10 : f_X11_takeNumber_L42 (n + 1) T_42 x1_42 x2_42 = T_42 := ((ip c_9 rfl))
          exact hex_42 _ he_10.symm _ _ hP hS ls (lv_sub hl [0, 1, 2] rfl)
        · refine lv_aload_n hx hb dX11_takeNumber_53 rfl (lv_at hl 0 rfl) ?_
          refine xget (ref := "AbsentPraiseModel") (T := TX11) (v := .ref (X.2.1 138)) hC hP hin_X11 xo_X11 rfl 18 (by decide) (List.mem_of_getElem? (i := 7) rfl) rfl rfl dX11_takeNumber_54 ?_
          refine lv_aload_n hx hb dX11_takeNumber_57 rfl (lv_at hl 0 rfl) ?_
          refine xget (ref := "AbsentPraiseModel") (T := TX11) (v := .int (T_42 127 21)) hC hP hin_X11 xo_X11 rfl 21 (by decide) (List.mem_of_getElem? (i := 3) rfl) rfl rfl dX11_takeNumber_58 ?_
          have hn_11 : vp_in (T_42 127 21) 240 := (nl (sn hs_42 c_9))
          refine xiald hC hP rfl hn_11 dX11_takeNumber_61 ?_
          refine lv_i2l (v := ((T_42 138 ((T_42 127 21)).toNatClampNeg) : Int32).toInt64) hx hb dX11_takeNumber_62 rfl ?_
          refine lv_ldc2 (v := 48) hx hb hown (hts (.constantLong RX11 103 (48)) (List.mem_of_getElem? (i := 1) rfl)) dX11_takeNumber_63 ?_
          refine lv_ldc2 (v := 57) hx hb hown (hts (.constantLong RX11 105 (57)) (List.mem_of_getElem? (i := 2) rfl)) dX11_takeNumber_66 ?_
          refine xcS_iR (As := [.long ((T_42 138 ((T_42 127 21)).toNatClampNeg) : Int32).toInt64, .long 48, .long 57]) (rest := []) hC hP hS (k_X11_in l X T_42 ((T_42 138 ((T_42 127 21)).toNatClampNeg) : Int32).toInt64 48 57) (va_cwS 3 hts gX11_takeNumber_X11_in rfl rfl rfl hs_X11_in ⟨Nat.le_of_ble_eq_true rfl, Nat.le_of_ble_eq_true rfl⟩) rfl rfl hl.1 (Nat.le_of_ble_eq_true rfl) dX11_takeNumber_69 (fun r_12 hp_r_12 H locs hP hS => ?_)
          obtain ⟨hr_12, hzr_12⟩ := hp_r_12
          refine lv_if_eq (tgt := 129) hx hb dX11_takeNumber_72 (by decide) (fun c_13 => ?_) (fun c_13 => ?_)
          · have he_14 : f_X11_takeNumber_L42 (n + 1) T_42 x1_42 x2_42 = T_42 := (by subst hr_12; exact (iN c_9 (ip c_13 rfl)))
            exact hex_42 _ he_14.symm _ _ hP hS ls (lv_sub hl [0, 1, 2] rfl)
          · refine lv_aload_n hx hb dX11_takeNumber_75 rfl (lv_at hl 0 rfl) ?_
            refine lv_aload_n hx hb dX11_takeNumber_76 rfl (lv_at hl 0 rfl) ?_
            refine xget (ref := "AbsentPraiseModel") (T := TX11) (v := .int (T_42 127 22)) hC hP hin_X11 xo_X11 rfl 22 (by decide) (List.mem_of_getElem? (i := 5) rfl) rfl rfl dX11_takeNumber_77 ?_
            refine lv_sipush (v := 10000) hx hb dX11_takeNumber_80 (by decide) ?_
            refine lv_icmp_le (tgt := 93) hx hb dX11_takeNumber_83 (by decide) (fun c_15 => ?_) (fun c_15 => ?_)
            · refine lv_bipush (v := 10) hx hb dX11_takeNumber_93 (by decide) ?_
              refine lv_aload_n hx hb dX11_takeNumber_95 rfl (lv_at hl 0 rfl) ?_
              refine xget (ref := "AbsentPraiseModel") (T := TX11) (v := .int (T_42 127 22)) hC hP hin_X11 xo_X11 rfl 22 (by decide) (List.mem_of_getElem? (i := 5) rfl) rfl rfl dX11_takeNumber_96 ?_
              refine lv_imul hx hb dX11_takeNumber_99 ?_
              refine lv_aload_n hx hb dX11_takeNumber_100 rfl (lv_at hl 0 rfl) ?_
              refine xget (ref := "AbsentPraiseModel") (T := TX11) (v := .ref (X.2.1 138)) hC hP hin_X11 xo_X11 rfl 18 (by decide) (List.mem_of_getElem? (i := 7) rfl) rfl rfl dX11_takeNumber_101 ?_
              refine lv_aload_n hx hb dX11_takeNumber_104 rfl (lv_at hl 0 rfl) ?_
              refine xget (ref := "AbsentPraiseModel") (T := TX11) (v := .int (T_42 127 21)) hC hP hin_X11 xo_X11 rfl 21 (by decide) (List.mem_of_getElem? (i := 3) rfl) rfl rfl dX11_takeNumber_105 ?_
              refine xiald hC hP rfl hn_11 dX11_takeNumber_108 ?_
              refine lv_iadd hx hb dX11_takeNumber_109 ?_
              refine lv_bipush (v := 48) hx hb dX11_takeNumber_110 (by decide) ?_
              refine lv_isub hx hb dX11_takeNumber_112 ?_
              refine xput (ref := "AbsentPraiseModel") (T := TX11) (ty := .int) hC hP hS (by decide) hin_X11 tyX11 tyX11_ok nmX11 xo_X11 rfl 22 (by decide) (List.mem_of_getElem? (i := 5) rfl) rfl rfl rfl rfl rfl (Nat.le_of_ble_eq_true rfl) dX11_takeNumber_113 rfl (fun S_16 hS_16 H locs hP hS => ?_)
              refine lv_aload_n hx hb dX11_takeNumber_116 rfl (lv_at hl 0 rfl) ?_
              refine lv_dup hx hb dX11_takeNumber_117 rfl ?_
              refine xget (ref := "AbsentPraiseModel") (T := TX11) (v := .int (S_16 127 21)) hC hP hin_X11 xo_X11 rfl 21 (by decide) (List.mem_of_getElem? (i := 3) rfl) rfl rfl dX11_takeNumber_118 ?_
              refine lv_iconst (v := 1) hx hb dX11_takeNumber_121 (by decide) ?_
              refine lv_iadd hx hb dX11_takeNumber_122 ?_
              refine xput (ref := "AbsentPraiseModel") (T := TX11) (ty := .int) hC hP hS (by decide) hin_X11 tyX11 tyX11_ok nmX11 xo_X11 rfl 21 (by decide) (List.mem_of_getElem? (i := 3) rfl) rfl rfl rfl rfl rfl (Nat.le_of_ble_eq_true rfl) dX11_takeNumber_123 rfl (fun S_17 hS_17 H locs hP hS => ?_)
              refine lv_goto (tgt := 42) hx hb dX11_takeNumber_126 (by decide) ?_
              have he_18 : f_X11_takeNumber_L42 (n + 1) T_42 x1_42 x2_42 = f_X11_takeNumber_L42 n S_17 x1_42 x2_42 := (by subst hr_12 hS_16 hS_17; exact (iN c_9 (iN c_13 (ip c_15 rfl))))
              exact ih_42 S_17 x1_42 x2_42 (by subst hr_12 hS_16 hS_17; exact (sp (sn (nr (sn hs_42 c_9)) c_13) c_15)) (fun q hq => hex_42 q (hq.trans he_18.symm)) _ _ hP hS ls (lv_sub hl [0, 1, 2] rfl)
            · refine lv_aload_n hx hb dX11_takeNumber_86 rfl (lv_at hl 0 rfl) ?_
              refine xget (ref := "AbsentPraiseModel") (T := TX11) (v := .int (T_42 127 22)) hC hP hin_X11 xo_X11 rfl 22 (by decide) (List.mem_of_getElem? (i := 5) rfl) rfl rfl dX11_takeNumber_87 ?_
              refine lv_goto (tgt := 113) hx hb dX11_takeNumber_90 (by decide) ?_
              refine xput (ref := "AbsentPraiseModel") (T := TX11) (ty := .int) hC hP hS (by decide) hin_X11 tyX11 tyX11_ok nmX11 xo_X11 rfl 22 (by decide) (List.mem_of_getElem? (i := 5) rfl) rfl rfl rfl rfl rfl (Nat.le_of_ble_eq_true rfl) dX11_takeNumber_113 rfl (fun S_19 hS_19 H locs hP hS => ?_)
              refine lv_aload_n hx hb dX11_takeNumber_116 rfl (lv_at hl 0 rfl) ?_
              refine lv_dup hx hb dX11_takeNumber_117 rfl ?_
              refine xget (ref := "AbsentPraiseModel") (T := TX11) (v := .int (S_19 127 21)) hC hP hin_X11 xo_X11 rfl 21 (by decide) (List.mem_of_getElem? (i := 3) rfl) rfl rfl dX11_takeNumber_118 ?_
              refine lv_iconst (v := 1) hx hb dX11_takeNumber_121 (by decide) ?_
              refine lv_iadd hx hb dX11_takeNumber_122 ?_
              refine xput (ref := "AbsentPraiseModel") (T := TX11) (ty := .int) hC hP hS (by decide) hin_X11 tyX11 tyX11_ok nmX11 xo_X11 rfl 21 (by decide) (List.mem_of_getElem? (i := 3) rfl) rfl rfl rfl rfl rfl (Nat.le_of_ble_eq_true rfl) dX11_takeNumber_123 rfl (fun S_20 hS_20 H locs hP hS => ?_)
              refine lv_goto (tgt := 42) hx hb dX11_takeNumber_126 (by decide) ?_
              have he_21 : f_X11_takeNumber_L42 (n + 1) T_42 x1_42 x2_42 = f_X11_takeNumber_L42 n S_20 x1_42 x2_42 := (by subst hr_12 hS_19 hS_20; exact (iN c_9 (iN c_13 (iN c_15 rfl))))
              exact ih_42 S_20 x1_42 x2_42 (by subst hr_12 hS_19 hS_20; exact (sn (sn (nr (sn hs_42 c_9)) c_13) c_15)) (fun q hq => hex_42 q (hq.trans he_21.symm)) _ _ hP hS ls (lv_sub hl [0, 1, 2] rfl)
    refine hLp_42 ((fu (S_8 127 21) (S_8 127 19))) S_8 p0 p1 (by subst hr_2 hS_3 hr_5 hS_7 hS_8; exact nl (sn (nr hs) c_6)) (fun q_42 hq_42 H locs hP hS ls hl => ?_) _ _ hP hS ls (lv_sub hl [1, 2, 3] rfl)
    refine lv_aload_n hx hb dX11_takeNumber_129 rfl (lv_at hl 0 rfl) ?_
    refine xget (ref := "AbsentPraiseModel") (T := TX11) (v := .int (q_42 127 21)) hC hP hin_X11 xo_X11 rfl 21 (by decide) (List.mem_of_getElem? (i := 3) rfl) rfl rfl dX11_takeNumber_130 ?_
    refine lv_aload_n hx hb dX11_takeNumber_133 rfl (lv_at hl 0 rfl) ?_
    refine xget (ref := "AbsentPraiseModel") (T := TX11) (v := .int (q_42 127 23)) hC hP hin_X11 xo_X11 rfl 23 (by decide) (List.mem_of_getElem? (i := 4) rfl) rfl rfl dX11_takeNumber_134 ?_
    refine lv_isub hx hb dX11_takeNumber_137 ?_
    refine lv_iconst (v := 3) hx hb dX11_takeNumber_138 (by decide) ?_
    refine lv_icmp_gt (tgt := 157) hx hb dX11_takeNumber_139 (by decide) (fun c_22 => ?_) (fun c_22 => ?_)
    · refine lv_aload_n hx hb dX11_takeNumber_157 rfl (lv_at hl 0 rfl) ?_
      refine lv_iconst (v := 2) hx hb dX11_takeNumber_158 (by decide) ?_
      refine lv_aload_n hx hb dX11_takeNumber_159 rfl (lv_at hl 0 rfl) ?_
      refine xget (ref := "AbsentPraiseModel") (T := TX11) (v := .int (q_42 127 23)) hC hP hin_X11 xo_X11 rfl 23 (by decide) (List.mem_of_getElem? (i := 4) rfl) rfl rfl dX11_takeNumber_160 ?_
      refine xcV_iW (b := 127) (As := [.int 2, .int (q_42 127 23)]) (rest := []) hC hP hS (k_X11_fails l X q_42 2 (q_42 127 23)) (cwV 2 hts gX11_takeNumber_X11_fails rfl rfl rfl hd_X11_fails ⟨Nat.le_of_ble_eq_true rfl, Nat.le_of_ble_eq_true rfl⟩) xo_X11 rfl rfl rfl hl.1 (Nat.le_of_ble_eq_true rfl) dX11_takeNumber_163 (fun r_23 S_24 hp_r_23 H locs hP hS => ?_)
      obtain ⟨hr_23, hS_24⟩ := hp_r_23
      refine lv_goto (tgt := 170) hx hb dX11_takeNumber_166 (by decide) ?_
      exact xret_iW hC hP hS hb hr ((by subst hr_2 hS_3 hr_5 hS_7 hS_8 hq_42 hr_23 hS_24; exact (iN c_6 (ip c_22 rfl)))) dX11_takeNumber_170 hlocks
    · refine lv_aload_n hx hb dX11_takeNumber_142 rfl (lv_at hl 0 rfl) ?_
      refine xget (ref := "AbsentPraiseModel") (T := TX11) (v := .int (q_42 127 22)) hC hP hin_X11 xo_X11 rfl 22 (by decide) (List.mem_of_getElem? (i := 5) rfl) rfl rfl dX11_takeNumber_143 ?_
      refine lv_i2l (v := ((q_42 127 22) : Int32).toInt64) hx hb dX11_takeNumber_146 rfl ?_
      refine lv_iload_n hx hb dX11_takeNumber_147 rfl (lv_at hl 1 rfl) ?_
      refine lv_i2l (v := (p0 : Int32).toInt64) hx hb dX11_takeNumber_148 rfl ?_
      refine lv_iload_n hx hb dX11_takeNumber_149 rfl (lv_at hl 2 rfl) ?_
      refine lv_i2l (v := (p1 : Int32).toInt64) hx hb dX11_takeNumber_150 rfl ?_
      refine xcS_iR (As := [.long ((q_42 127 22) : Int32).toInt64, .long (p0 : Int32).toInt64, .long (p1 : Int32).toInt64]) (rest := []) hC hP hS (k_X11_in l X q_42 ((q_42 127 22) : Int32).toInt64 (p0 : Int32).toInt64 (p1 : Int32).toInt64) (va_cwS 3 hts gX11_takeNumber_X11_in rfl rfl rfl hs_X11_in ⟨Nat.le_of_ble_eq_true rfl, Nat.le_of_ble_eq_true rfl⟩) rfl rfl hl.1 (Nat.le_of_ble_eq_true rfl) dX11_takeNumber_151 (fun r_26 hp_r_26 H locs hP hS => ?_)
      obtain ⟨hr_26, hzr_26⟩ := hp_r_26
      refine lv_if_ne (tgt := 169) hx hb dX11_takeNumber_154 (by decide) (fun c_27 => ?_) (fun c_27 => ?_)
      · refine lv_iconst (v := 0) hx hb dX11_takeNumber_169 (by decide) ?_
        exact xret_iW hC hP hS hb hr ((by subst hr_2 hS_3 hr_5 hS_7 hS_8 hq_42 hr_26; exact (iN c_6 (iN c_22 (iN c_27 rfl))))) dX11_takeNumber_170 hlocks
      · refine lv_aload_n hx hb dX11_takeNumber_157 rfl (lv_at hl 0 rfl) ?_
        refine lv_iconst (v := 2) hx hb dX11_takeNumber_158 (by decide) ?_
        refine lv_aload_n hx hb dX11_takeNumber_159 rfl (lv_at hl 0 rfl) ?_
        refine xget (ref := "AbsentPraiseModel") (T := TX11) (v := .int (q_42 127 23)) hC hP hin_X11 xo_X11 rfl 23 (by decide) (List.mem_of_getElem? (i := 4) rfl) rfl rfl dX11_takeNumber_160 ?_
        refine xcV_iW (b := 127) (As := [.int 2, .int (q_42 127 23)]) (rest := []) hC hP hS (k_X11_fails l X q_42 2 (q_42 127 23)) (cwV 2 hts gX11_takeNumber_X11_fails rfl rfl rfl hd_X11_fails ⟨Nat.le_of_ble_eq_true rfl, Nat.le_of_ble_eq_true rfl⟩) xo_X11 rfl rfl rfl hl.1 (Nat.le_of_ble_eq_true rfl) dX11_takeNumber_163 (fun r_28 S_29 hp_r_28 H locs hP hS => ?_)
        obtain ⟨hr_28, hS_29⟩ := hp_r_28
        refine lv_goto (tgt := 170) hx hb dX11_takeNumber_166 (by decide) ?_
        exact xret_iW hC hP hS hb hr ((by subst hr_2 hS_3 hr_5 hS_7 hS_8 hq_42 hr_26 hr_28 hS_29; exact (iN c_6 (iN c_22 (ip c_27 rfl))))) dX11_takeNumber_170 hlocks
  · refine lv_aload_n hx hb dX11_takeNumber_19 rfl (lv_at hl 1 rfl) ?_
    refine lv_iconst (v := 1) hx hb dX11_takeNumber_20 (by decide) ?_
    refine lv_aload_n hx hb dX11_takeNumber_21 rfl (lv_at hl 1 rfl) ?_
    refine xget (ref := "AbsentPraiseModel") (T := TX11) (v := .int (S_3 127 21)) hC hP hin_X11 xo_X11 rfl 21 (by decide) (List.mem_of_getElem? (i := 3) rfl) rfl rfl dX11_takeNumber_22 ?_
    refine xcV_iW (b := 127) (As := [.int 1, .int (S_3 127 21)]) (rest := []) hC hP hS (k_X11_fails l X S_3 1 (S_3 127 21)) (cwV 2 hts gX11_takeNumber_X11_fails rfl rfl rfl hd_X11_fails ⟨Nat.le_of_ble_eq_true rfl, Nat.le_of_ble_eq_true rfl⟩) xo_X11 rfl rfl rfl hl.1 (Nat.le_of_ble_eq_true rfl) dX11_takeNumber_25 (fun r_31 S_32 hp_r_31 H locs hP hS => ?_)
    obtain ⟨hr_31, hS_32⟩ := hp_r_31
    exact xret_iW hC hP hS hb hr ((by subst hr_2 hS_3 hr_5 hr_31 hS_32; exact (ip c_6 rfl))) dX11_takeNumber_28 hlocks
theorem hd_X11_takeRooms : yX11_takeRooms.cls = RX11 ∧ yX11_takeRooms.cls ≠ "java/lang/invoke/MethodHandle" ∧ yX11_takeRooms.cls ≠ "java/lang/invoke/VarHandle" ∧ (parseMethodDescriptor yX11_takeRooms.desc).map (fun d => d.parameters.length) = some 0 := by decide +kernel
set_option maxHeartbeats 4000000 in
set_option maxRecDepth 100000 in
theorem k_X11_takeRooms (l : Launch) (X : xX) (S : xS) (hs : s_X11_takeRooms S) : Met l yX11_takeRooms wsX11_takeRooms ({ frames := 2, cells := 0, slots := 0, locals := 48 } : Room) (va_Pc [.ref (X.2.1 127)] (xI X S)) (va_Qi (fun (r : Int32) (u : xS) => r = (f_X11_takeRooms S).1 ∧ u = (f_X11_takeRooms S).2) (xI X) (xA X)) 0 0 (xA X) := by
  refine Met.ofW (cc := cX11_takeRooms) (maxL := 3) (ret := (some .int)) (by decide) rfl ?_
  intro p e s m args below meth c s₁ B hml hv
  obtain ⟨rfl, hP, hK, hN, hJ⟩ := hv
  have hx := B.exec
  have hb := B.bytes
  have hr := B.returns
  have hts := atoms_spec (ws := wsX11_takeRooms) B.pre
  have hown : s.vm.findClass RX11 = some m.cls := findClass_of_methodNamed B.named
  have hlocks := B.notSynchronized
  have hC : xC X p m c cX11_takeRooms 3 s _ wsX11_takeRooms RX11 := ⟨⟨hx, hb, hml, hown, hts⟩, hK, hN, hJ⟩
  have hS : va_S (xA X) s.heap s.heap [] := va_S.rf
  have hin_X11 : ∀ w ∈ u_ws RX11 TX11 41, w ∈ wsX11_takeRooms := by decide +kernel
  have hl := lv_entry ([.ref (X.2.1 127)]) (n := 3) (Nat.le_of_ble_eq_true rfl)
  rw [lg_entry_eq]
  generalize (lg_sl ([.ref (X.2.1 127)]) ++ List.replicate (3 - (lg_sl ([.ref (X.2.1 127)])).length) Slot.unset).toArray = ls at hl ⊢
  have hl : lv_has ls 3 [(0, .ref (X.2.1 127))] := hl
  refine lv_aload_n hx hb dX11_takeRooms_0 rfl (lv_at hl 0 rfl) ?_
  refine lv_iconst (v := 2) hx hb dX11_takeRooms_1 (by decide) ?_
  refine lv_bipush (v := 6) hx hb dX11_takeRooms_2 (by decide) ?_
  have hn_1 : s_X11_takeNumber S 2 6 := (nl hs)
  refine xcV_iW (b := 127) (As := [.int 2, .int 6]) (rest := []) hC hP hS (k_X11_takeNumber l X S 2 6 hn_1) (cwV 2 hts gX11_takeRooms_X11_takeNumber rfl rfl rfl hd_X11_takeNumber ⟨Nat.le_of_ble_eq_true rfl, Nat.le_of_ble_eq_true rfl⟩) xo_X11 rfl rfl rfl hl.1 (Nat.le_of_ble_eq_true rfl) dX11_takeRooms_4 (fun r_2 S_3 hp_r_2 H locs hP hS => ?_)
  obtain ⟨hr_2, hS_3⟩ := hp_r_2
  refine lv_istore_n (lv' := [(1, .int r_2), (0, .ref (X.2.1 127))]) hx hb dX11_takeRooms_7 rfl hl (by decide) rfl (fun ls hl => ?_)
  refine lv_iload_n hx hb dX11_takeRooms_8 rfl (lv_at hl 0 rfl) ?_
  refine lv_if_le (tgt := 14) hx hb dX11_takeRooms_9 (by decide) (fun c_5 => ?_) (fun c_5 => ?_)
  · refine lv_aload_n hx hb dX11_takeRooms_14 rfl (lv_at hl 1 rfl) ?_
    refine xget (ref := "AbsentPraiseModel") (T := TX11) (v := .int (S_3 127 22)) hC hP hin_X11 xo_X11 rfl 22 (by decide) (List.mem_of_getElem? (i := 1) rfl) rfl rfl dX11_takeRooms_15 ?_
    refine lv_istore_n (lv' := [(2, .int (S_3 127 22)), (1, .int r_2), (0, .ref (X.2.1 127))]) hx hb dX11_takeRooms_18 rfl hl (by decide) rfl (fun ls hl => ?_)
    refine lv_aload_n hx hb dX11_takeRooms_19 rfl (lv_at hl 2 rfl) ?_
    refine lv_iconst (v := 0) hx hb dX11_takeRooms_20 (by decide) ?_
    refine lv_iconst (v := 1) hx hb dX11_takeRooms_21 (by decide) ?_
    refine lv_iload_n hx hb dX11_takeRooms_22 rfl (lv_at hl 0 rfl) ?_
    refine lv_ishl hx hb dX11_takeRooms_23 ?_
    refine lv_iconst (v := 1) hx hb dX11_takeRooms_24 (by decide) ?_
    refine lv_isub hx hb dX11_takeRooms_25 ?_
    have hn_6 : s_X11_takeNumber S_3 0 ((1 <<< ((S_3 127 22) &&& 31)) - 1) := (by subst hr_2 hS_3; exact nl (sp (nr hs) c_5))
    refine xcV_iW (b := 127) (As := [.int 0, .int ((1 <<< ((S_3 127 22) &&& 31)) - 1)]) (rest := []) hC hP hS (k_X11_takeNumber l X S_3 0 ((1 <<< ((S_3 127 22) &&& 31)) - 1) hn_6) (cwV 2 hts gX11_takeRooms_X11_takeNumber rfl rfl rfl hd_X11_takeNumber ⟨Nat.le_of_ble_eq_true rfl, Nat.le_of_ble_eq_true rfl⟩) xo_X11 rfl rfl rfl hl.1 (Nat.le_of_ble_eq_true rfl) dX11_takeRooms_26 (fun r_7 S_8 hp_r_7 H locs hP hS => ?_)
    obtain ⟨hr_7, hS_8⟩ := hp_r_7
    refine lv_istore_n (lv' := [(1, .int r_7), (2, .int (S_3 127 22)), (0, .ref (X.2.1 127))]) hx hb dX11_takeRooms_29 rfl hl (by decide) rfl (fun ls hl => ?_)
    refine lv_aload_n hx hb dX11_takeRooms_30 rfl (lv_at hl 2 rfl) ?_
    refine lv_iload_n hx hb dX11_takeRooms_31 rfl (lv_at hl 1 rfl) ?_
    refine xput (ref := "AbsentPraiseModel") (T := TX11) (ty := .int) hC hP hS (by decide) hin_X11 tyX11 tyX11_ok nmX11 xo_X11 rfl 24 (by decide) (List.mem_of_getElem? (i := 2) rfl) rfl rfl rfl rfl rfl (Nat.le_of_ble_eq_true rfl) dX11_takeRooms_32 rfl (fun S_10 hS_10 H locs hP hS => ?_)
    refine lv_aload_n hx hb dX11_takeRooms_35 rfl (lv_at hl 2 rfl) ?_
    refine lv_aload_n hx hb dX11_takeRooms_36 rfl (lv_at hl 2 rfl) ?_
    refine xget (ref := "AbsentPraiseModel") (T := TX11) (v := .int (S_10 127 22)) hC hP hin_X11 xo_X11 rfl 22 (by decide) (List.mem_of_getElem? (i := 1) rfl) rfl rfl dX11_takeRooms_37 ?_
    refine xput (ref := "AbsentPraiseModel") (T := TX11) (ty := .int) hC hP hS (by decide) hin_X11 tyX11 tyX11_ok nmX11 xo_X11 rfl 25 (by decide) (List.mem_of_getElem? (i := 3) rfl) rfl rfl rfl rfl rfl (Nat.le_of_ble_eq_true rfl) dX11_takeRooms_40 rfl (fun S_11 hS_11 H locs hP hS => ?_)
    refine lv_iload_n hx hb dX11_takeRooms_43 rfl (lv_at hl 0 rfl) ?_
    exact xret_iW hC hP hS hb hr ((by subst hr_2 hS_3 hr_7 hS_8 hS_10 hS_11; exact (ip c_5 rfl))) dX11_takeRooms_44 hlocks
  · refine lv_iload_n hx hb dX11_takeRooms_12 rfl (lv_at hl 0 rfl) ?_
    exact xret_iW hC hP hS hb hr ((by subst hr_2 hS_3; exact (iN c_5 rfl))) dX11_takeRooms_13 hlocks
theorem hd_X11_takePair : yX11_takePair.cls = RX11 ∧ yX11_takePair.cls ≠ "java/lang/invoke/MethodHandle" ∧ yX11_takePair.cls ≠ "java/lang/invoke/VarHandle" ∧ (parseMethodDescriptor yX11_takePair.desc).map (fun d => d.parameters.length) = some 1 := by decide +kernel
set_option maxHeartbeats 4000000 in
set_option maxRecDepth 100000 in
theorem k_X11_takePair (l : Launch) (X : xX) (S : xS) (k0 : Nat) (hk0 : isI k0 = true) (hs : s_X11_takePair S k0) : Met l yX11_takePair wsX11_takePair ({ frames := 2, cells := 0, slots := 0, locals := 48 } : Room) (va_Pc [.ref (X.2.1 127), .ref (X.2.1 k0)] (xI X S)) (va_Qi (fun (r : Int32) (u : xS) => r = (f_X11_takePair S k0).1 ∧ u = (f_X11_takePair S k0).2) (xI X) (xA X)) 0 0 (xA X) := by
  refine Met.ofW (cc := cX11_takePair) (maxL := 3) (ret := (some .int)) (by decide) rfl ?_
  intro p e s m args below meth c s₁ B hml hv
  obtain ⟨rfl, hP, hK, hN, hJ⟩ := hv
  have hx := B.exec
  have hb := B.bytes
  have hr := B.returns
  have hts := atoms_spec (ws := wsX11_takePair) B.pre
  have hown : s.vm.findClass RX11 = some m.cls := findClass_of_methodNamed B.named
  have hlocks := B.notSynchronized
  have hC : xC X p m c cX11_takePair 3 s _ wsX11_takePair RX11 := ⟨⟨hx, hb, hml, hown, hts⟩, hK, hN, hJ⟩
  have hS : va_S (xA X) s.heap s.heap [] := va_S.rf
  have hin_X11 : ∀ w ∈ u_ws RX11 TX11 41, w ∈ wsX11_takePair := by decide +kernel
  have hl := lv_entry ([.ref (X.2.1 127), .ref (X.2.1 k0)]) (n := 3) (Nat.le_of_ble_eq_true rfl)
  rw [lg_entry_eq]
  generalize (lg_sl ([.ref (X.2.1 127), .ref (X.2.1 k0)]) ++ List.replicate (3 - (lg_sl ([.ref (X.2.1 127), .ref (X.2.1 k0)])).length) Slot.unset).toArray = ls at hl ⊢
  have hl : lv_has ls 3 [(0, .ref (X.2.1 127)), (1, .ref (X.2.1 k0))] := hl
  refine lv_aload_n hx hb dX11_takePair_0 rfl (lv_at hl 0 rfl) ?_
  refine lv_iconst (v := 0) hx hb dX11_takePair_1 (by decide) ?_
  refine lv_aload_n hx hb dX11_takePair_2 rfl (lv_at hl 0 rfl) ?_
  refine xget (ref := "AbsentPraiseModel") (T := TX11) (v := .int (S 127 24)) hC hP hin_X11 xo_X11 rfl 24 (by decide) (List.mem_of_getElem? (i := 1) rfl) rfl rfl dX11_takePair_3 ?_
  refine lv_iconst (v := 1) hx hb dX11_takePair_6 (by decide) ?_
  refine lv_isub hx hb dX11_takePair_7 ?_
  have hn_1 : s_X11_takeNumber S 0 ((S 127 24) - 1) := (nl hs)
  refine xcV_iW (b := 127) (As := [.int 0, .int ((S 127 24) - 1)]) (rest := []) hC hP hS (k_X11_takeNumber l X S 0 ((S 127 24) - 1) hn_1) (cwV 2 hts gX11_takePair_X11_takeNumber rfl rfl rfl hd_X11_takeNumber ⟨Nat.le_of_ble_eq_true rfl, Nat.le_of_ble_eq_true rfl⟩) xo_X11 rfl rfl rfl hl.1 (Nat.le_of_ble_eq_true rfl) dX11_takePair_8 (fun r_2 S_3 hp_r_2 H locs hP hS => ?_)
  obtain ⟨hr_2, hS_3⟩ := hp_r_2
  refine lv_istore_n (lv' := [(2, .int r_2), (0, .ref (X.2.1 127)), (1, .ref (X.2.1 k0))]) hx hb dX11_takePair_11 rfl hl (by decide) rfl (fun ls hl => ?_)
  refine lv_iload_n hx hb dX11_takePair_12 rfl (lv_at hl 0 rfl) ?_
  refine lv_if_le (tgt := 18) hx hb dX11_takePair_13 (by decide) (fun c_5 => ?_) (fun c_5 => ?_)
  · refine lv_aload_n hx hb dX11_takePair_18 rfl (lv_at hl 1 rfl) ?_
    refine lv_aload_n hx hb dX11_takePair_19 rfl (lv_at hl 1 rfl) ?_
    refine xget (ref := "AbsentPraiseModel") (T := TX11) (v := .int (S_3 127 22)) hC hP hin_X11 xo_X11 rfl 22 (by decide) (List.mem_of_getElem? (i := 2) rfl) rfl rfl dX11_takePair_20 ?_
    refine xput (ref := "AbsentPraiseModel") (T := TX11) (ty := .int) hC hP hS (by decide) hin_X11 tyX11 tyX11_ok nmX11 xo_X11 rfl 35 (by decide) (List.mem_of_getElem? (i := 3) rfl) rfl rfl rfl rfl rfl (Nat.le_of_ble_eq_true rfl) dX11_takePair_23 rfl (fun S_6 hS_6 H locs hP hS => ?_)
    refine lv_aload_n hx hb dX11_takePair_26 rfl (lv_at hl 1 rfl) ?_
    refine lv_iconst (v := 0) hx hb dX11_takePair_27 (by decide) ?_
    refine lv_aload_n hx hb dX11_takePair_28 rfl (lv_at hl 1 rfl) ?_
    refine xget (ref := "AbsentPraiseModel") (T := TX11) (v := .int (S_6 127 24)) hC hP hin_X11 xo_X11 rfl 24 (by decide) (List.mem_of_getElem? (i := 1) rfl) rfl rfl dX11_takePair_29 ?_
    refine lv_iconst (v := 1) hx hb dX11_takePair_32 (by decide) ?_
    refine lv_isub hx hb dX11_takePair_33 ?_
    have hn_7 : s_X11_takeNumber S_6 0 ((S_6 127 24) - 1) := (by subst hr_2 hS_3 hS_6; exact nl (sp (nr hs) c_5))
    refine xcV_iW (b := 127) (As := [.int 0, .int ((S_6 127 24) - 1)]) (rest := []) hC hP hS (k_X11_takeNumber l X S_6 0 ((S_6 127 24) - 1) hn_7) (cwV 2 hts gX11_takePair_X11_takeNumber rfl rfl rfl hd_X11_takeNumber ⟨Nat.le_of_ble_eq_true rfl, Nat.le_of_ble_eq_true rfl⟩) xo_X11 rfl rfl rfl hl.1 (Nat.le_of_ble_eq_true rfl) dX11_takePair_34 (fun r_8 S_9 hp_r_8 H locs hP hS => ?_)
    obtain ⟨hr_8, hS_9⟩ := hp_r_8
    refine lv_istore_n (lv' := [(2, .int r_8), (0, .ref (X.2.1 127)), (1, .ref (X.2.1 k0))]) hx hb dX11_takePair_37 rfl hl (by decide) rfl (fun ls hl => ?_)
    refine lv_iload_n hx hb dX11_takePair_38 rfl (lv_at hl 0 rfl) ?_
    refine lv_if_le (tgt := 44) hx hb dX11_takePair_39 (by decide) (fun c_11 => ?_) (fun c_11 => ?_)
    · refine lv_aload_n hx hb dX11_takePair_44 rfl (lv_at hl 1 rfl) ?_
      refine xget (ref := "AbsentPraiseModel") (T := TX11) (v := .int (S_9 127 22)) hC hP hin_X11 xo_X11 rfl 22 (by decide) (List.mem_of_getElem? (i := 2) rfl) rfl rfl dX11_takePair_45 ?_
      refine lv_aload_n hx hb dX11_takePair_48 rfl (lv_at hl 1 rfl) ?_
      refine xget (ref := "AbsentPraiseModel") (T := TX11) (v := .int (S_9 127 35)) hC hP hin_X11 xo_X11 rfl 35 (by decide) (List.mem_of_getElem? (i := 3) rfl) rfl rfl dX11_takePair_49 ?_
      refine lv_icmp_eq (tgt := 71) hx hb dX11_takePair_52 (by decide) (fun c_12 => ?_) (fun c_12 => ?_)
      · refine lv_aload_n hx hb dX11_takePair_71 rfl (lv_at hl 1 rfl) ?_
        refine lv_iconst (v := 4) hx hb dX11_takePair_72 (by decide) ?_
        refine lv_aload_n hx hb dX11_takePair_73 rfl (lv_at hl 1 rfl) ?_
        refine xget (ref := "AbsentPraiseModel") (T := TX11) (v := .int (S_9 127 23)) hC hP hin_X11 xo_X11 rfl 23 (by decide) (List.mem_of_getElem? (i := 4) rfl) rfl rfl dX11_takePair_74 ?_
        refine xcV_iW (b := 127) (As := [.int 4, .int (S_9 127 23)]) (rest := []) hC hP hS (k_X11_fails l X S_9 4 (S_9 127 23)) (cwV 2 hts gX11_takePair_X11_fails rfl rfl rfl hd_X11_fails ⟨Nat.le_of_ble_eq_true rfl, Nat.le_of_ble_eq_true rfl⟩) xo_X11 rfl rfl rfl hl.1 (Nat.le_of_ble_eq_true rfl) dX11_takePair_77 (fun r_13 S_14 hp_r_13 H locs hP hS => ?_)
        obtain ⟨hr_13, hS_14⟩ := hp_r_13
        refine lv_goto (tgt := 84) hx hb dX11_takePair_80 (by decide) ?_
        exact xret_iW hC hP hS hb hr ((by subst hr_2 hS_3 hS_6 hr_8 hS_9 hr_13 hS_14; exact (ip c_5 (ip c_11 (ip c_12 rfl))))) dX11_takePair_84 hlocks
      · refine lv_aload_n hx hb dX11_takePair_55 rfl (lv_at hl 2 rfl) ?_
        refine lv_aload_n hx hb dX11_takePair_56 rfl (lv_at hl 1 rfl) ?_
        refine xget (ref := "AbsentPraiseModel") (T := TX11) (v := .int (S_9 127 35)) hC hP hin_X11 xo_X11 rfl 35 (by decide) (List.mem_of_getElem? (i := 3) rfl) rfl rfl dX11_takePair_57 ?_
        have hn_16 : vp_in (S_9 127 35) (xlen k0) := (by subst hr_2 hS_3 hS_6 hr_8 hS_9; exact nl (sn (sp (nr (sp (nr hs) c_5)) c_11) c_12))
        refine xiald hC hP hk0 hn_16 dX11_takePair_60 ?_
        refine lv_aload_n hx hb dX11_takePair_61 rfl (lv_at hl 1 rfl) ?_
        refine xget (ref := "AbsentPraiseModel") (T := TX11) (v := .int (S_9 127 22)) hC hP hin_X11 xo_X11 rfl 22 (by decide) (List.mem_of_getElem? (i := 2) rfl) rfl rfl dX11_takePair_62 ?_
        refine xcS_iR (As := [.int (S_9 k0 ((S_9 127 35)).toNatClampNeg), .int (S_9 127 22)]) (rest := []) hC hP hS (k_X11_has l X S_9 (S_9 k0 ((S_9 127 35)).toNatClampNeg) (S_9 127 22)) (va_cwS 2 hts gX11_takePair_X11_has rfl rfl rfl hs_X11_has ⟨Nat.le_of_ble_eq_true rfl, Nat.le_of_ble_eq_true rfl⟩) rfl rfl hl.1 (Nat.le_of_ble_eq_true rfl) dX11_takePair_65 (fun r_17 hp_r_17 H locs hP hS => ?_)
        obtain ⟨hr_17, hzr_17⟩ := hp_r_17
        refine lv_if_eq (tgt := 83) hx hb dX11_takePair_68 (by decide) (fun c_18 => ?_) (fun c_18 => ?_)
        · refine lv_iconst (v := 0) hx hb dX11_takePair_83 (by decide) ?_
          exact xret_iW hC hP hS hb hr ((by subst hr_2 hS_3 hS_6 hr_8 hS_9 hr_17; exact (ip c_5 (ip c_11 (iN c_12 (ip c_18 rfl)))))) dX11_takePair_84 hlocks
        · refine lv_aload_n hx hb dX11_takePair_71 rfl (lv_at hl 1 rfl) ?_
          refine lv_iconst (v := 4) hx hb dX11_takePair_72 (by decide) ?_
          refine lv_aload_n hx hb dX11_takePair_73 rfl (lv_at hl 1 rfl) ?_
          refine xget (ref := "AbsentPraiseModel") (T := TX11) (v := .int (S_9 127 23)) hC hP hin_X11 xo_X11 rfl 23 (by decide) (List.mem_of_getElem? (i := 4) rfl) rfl rfl dX11_takePair_74 ?_
          refine xcV_iW (b := 127) (As := [.int 4, .int (S_9 127 23)]) (rest := []) hC hP hS (k_X11_fails l X S_9 4 (S_9 127 23)) (cwV 2 hts gX11_takePair_X11_fails rfl rfl rfl hd_X11_fails ⟨Nat.le_of_ble_eq_true rfl, Nat.le_of_ble_eq_true rfl⟩) xo_X11 rfl rfl rfl hl.1 (Nat.le_of_ble_eq_true rfl) dX11_takePair_77 (fun r_19 S_20 hp_r_19 H locs hP hS => ?_)
          obtain ⟨hr_19, hS_20⟩ := hp_r_19
          refine lv_goto (tgt := 84) hx hb dX11_takePair_80 (by decide) ?_
          exact xret_iW hC hP hS hb hr ((by subst hr_2 hS_3 hS_6 hr_8 hS_9 hr_17 hr_19 hS_20; exact (ip c_5 (ip c_11 (iN c_12 (iN c_18 rfl)))))) dX11_takePair_84 hlocks
    · refine lv_iload_n hx hb dX11_takePair_42 rfl (lv_at hl 0 rfl) ?_
      exact xret_iW hC hP hS hb hr ((by subst hr_2 hS_3 hS_6 hr_8 hS_9; exact (ip c_5 (iN c_11 rfl)))) dX11_takePair_43 hlocks
  · refine lv_iload_n hx hb dX11_takePair_16 rfl (lv_at hl 0 rfl) ?_
    exact xret_iW hC hP hS hb hr ((by subst hr_2 hS_3; exact (iN c_5 rfl))) dX11_takePair_17 hlocks
