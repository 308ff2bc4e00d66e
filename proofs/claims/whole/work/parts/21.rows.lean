set_option linter.all false
/-! contracts: X9_cover, X9_spread, X9_knownBehind, X9_hoursTillAllKnow, X9_listeningRooms, X10_feed -/
theorem hd_X9_cover : yX9_cover.cls = RX9 ∧ yX9_cover.cls ≠ "java/lang/invoke/MethodHandle" ∧ yX9_cover.cls ≠ "java/lang/invoke/VarHandle" ∧ (parseMethodDescriptor yX9_cover.desc).map (fun d => d.parameters.length) = some 0 := by decide +kernel
set_option maxHeartbeats 4000000 in
set_option maxRecDepth 100000 in
theorem k_X9_cover (l : Launch) (X : xX) (S : xS) (hs : s_X9_cover S) : Met l yX9_cover wsX9_cover ({ frames := 2, cells := 0, slots := 0, locals := 43 } : Room) (va_Pc [.ref (X.2.1 16)] (xI X S)) (va_Qi (fun (r : Int32) (u : xS) => r = (f_X9_cover S) ∧ u = S) (xI X) (xA X)) 0 0 (xA X) := by
  refine Met.ofW (cc := cX9_cover) (maxL := 3) (ret := (some .int)) (by decide +kernel) rfl ?_
  intro p e s m args below meth c s₁ B hml hv
  obtain ⟨rfl, hP, hK, hN, hJ⟩ := hv
  have hx := B.exec
  have hb := B.bytes
  have hr := B.returns
  have hts := atoms_spec (ws := wsX9_cover) B.pre
  have hown : s.vm.findClass RX9 = some m.cls := findClass_of_methodNamed B.named
  have hlocks := B.notSynchronized
  have hC : xC X p m c cX9_cover 3 s _ wsX9_cover RX9 := ⟨⟨hx, hb, hml, hown, hts⟩, hK, hN, hJ⟩
  have hS : va_S (xA X) s.heap s.heap [] := va_S.rf
  have hin_X2 : ∀ w ∈ u_ws RX2 TX2 10, w ∈ wsX9_cover := by decide +kernel
  have hin_X9 : ∀ w ∈ u_ws RX9 TX9 5, w ∈ wsX9_cover := by decide +kernel
  have hl := lv_entry ([.ref (X.2.1 16)]) (n := 3) (Nat.le_of_ble_eq_true rfl)
  rw [lg_entry_eq]
  generalize (lg_sl ([.ref (X.2.1 16)]) ++ List.replicate (3 - (lg_sl ([.ref (X.2.1 16)])).length) Slot.unset).toArray = ls at hl ⊢
  have hl : lv_has ls 3 [(0, .ref (X.2.1 16))] := hl
  refine lv_aload_n hx hb dX9_cover_0 rfl (lv_at hl 0 rfl) ?_
  refine xget (ref := "AbsentPraise$Trials") (T := TX9) (v := .ref (X.2.1 9)) hC hP hin_X9 xo_X9 rfl 0 (by decide) (List.mem_of_getElem? (i := 1) rfl) rfl rfl dX9_cover_1 ?_
  refine xget (ref := "AbsentPraise$Hill") (T := TX2) (v := .int (S 9 5)) hC hP hin_X2 (xo_H (by decide)) rfl 5 (by decide) (List.mem_of_getElem? (i := 2) rfl) rfl rfl dX9_cover_4 ?_
  refine xcSN_iR (As := [.int (S 9 5)]) (rest := []) hC hP hS (k_X10_bit l X S (S 9 5)) (va_cnB (host := "AbsentPraise") 1 hts gX9_cover_X10_bit_n106 rfl rfl rfl (xn_14 hN) (hts (.initialized RX10) (List.mem_of_getElem? (i := 4) rfl)) hs_X10_bit ⟨Nat.le_of_ble_eq_true rfl, Nat.le_of_ble_eq_true rfl⟩) (hts (.static yX10_bit) (List.mem_of_getElem? (i := 3) rfl)) rfl rfl hl.1 (Nat.le_of_ble_eq_true rfl) dX9_cover_7 (fun r_1 hr_1 H locs hP hS => ?_)
  refine lv_iconst (v := 1) hx hb dX9_cover_10 (by decide) ?_
  refine lv_isub hx hb dX9_cover_11 ?_
  refine lv_istore_n (lv' := [(1, .int (r_1 - 1)), (0, .ref (X.2.1 16))]) hx hb dX9_cover_12 rfl hl (by decide) rfl (fun ls hl => ?_)
  refine lv_iconst (v := 0) hx hb dX9_cover_13 (by decide) ?_
  refine lv_istore_n (lv' := [(2, .int 0), (1, .int (r_1 - 1)), (0, .ref (X.2.1 16))]) hx hb dX9_cover_14 rfl hl (by decide) rfl (fun ls hl => ?_)
  have hLp_15 : ∀ (n : Nat) (x1_15 : Int32) (x2_15 : Int32), s_X9_cover_L15 n S x1_15 x2_15 → (∀ q : Int32, q = f_X9_cover_L15 n S x1_15 x2_15 → (∀ (H : Heap) (locs : List Loc), va_P X.1 vwCl (xW X S) H → va_S (xA X) s.heap H locs → ∀ (ls : Array Slot), lv_has ls 3 [(1, .int q)] → W p l e ({ frames := 2, cells := 0, slots := 0, locals := 43 } : Room) s m ([.ref (X.2.1 16)] : List Value).toArray below meth c H locs 0 0 (MQ below (va_Qi (fun (r : Int32) (u : xS) => r = (f_X9_cover S) ∧ u = S) (xI X) (xA X)) ([.ref (X.2.1 16)] : List Value).toArray s 0 0 (xA X)) (F0 m 53 ls []))) → ∀ (H : Heap) (locs : List Loc), va_P X.1 vwCl (xW X S) H → va_S (xA X) s.heap H locs → ∀ (ls : Array Slot), lv_has ls 3 [(0, .ref (X.2.1 16)), (1, .int x1_15), (2, .int x2_15)] → W p l e ({ frames := 2, cells := 0, slots := 0, locals := 43 } : Room) s m ([.ref (X.2.1 16)] : List Value).toArray below meth c H locs 0 0 (MQ below (va_Qi (fun (r : Int32) (u : xS) => r = (f_X9_cover S) ∧ u = S) (xI X) (xA X)) ([.ref (X.2.1 16)] : List Value).toArray s 0 0 (xA X)) (F0 m 15 ls []) := by
    intro n
    induction n with
    | zero => intro x1_15 x2_15 hs; exact hs.elim
    | succ n ih_15 =>
      intro x1_15 x2_15 hs_15 hex_15 H locs hP hS ls hl
      refine lv_iload_n hx hb dX9_cover_15 rfl (lv_at hl 2 rfl) ?_
      refine lv_aload_n hx hb dX9_cover_16 rfl (lv_at hl 0 rfl) ?_
      refine xget (ref := "AbsentPraise$Trials") (T := TX9) (v := .ref (X.2.1 9)) hC hP hin_X9 xo_X9 rfl 0 (by decide) (List.mem_of_getElem? (i := 1) rfl) rfl rfl dX9_cover_17 ?_
      refine xget (ref := "AbsentPraise$Hill") (T := TX2) (v := .int (S 9 5)) hC hP hin_X2 (xo_H (by decide)) rfl 5 (by decide) (List.mem_of_getElem? (i := 2) rfl) rfl rfl dX9_cover_20 ?_
      refine xcSN_iR (As := [.int (S 9 5)]) (rest := [.int x2_15]) hC hP hS (k_X10_bit l X S (S 9 5)) (va_cnB (host := "AbsentPraise") 1 hts gX9_cover_X10_bit_n106 rfl rfl rfl (xn_14 hN) (hts (.initialized RX10) (List.mem_of_getElem? (i := 4) rfl)) hs_X10_bit ⟨Nat.le_of_ble_eq_true rfl, Nat.le_of_ble_eq_true rfl⟩) (hts (.static yX10_bit) (List.mem_of_getElem? (i := 3) rfl)) rfl rfl hl.1 (Nat.le_of_ble_eq_true rfl) dX9_cover_23 (fun r_2 hr_2 H locs hP hS => ?_)
      refine lv_icmp_ge (tgt := 53) hx hb dX9_cover_26 (by decide) (fun c_3 => ?_) (fun c_3 => ?_)
      · have he_4 : f_X9_cover_L15 (n + 1) S x1_15 x2_15 = x1_15 := (by have hr_2 := hr_2.symm; subst hr_2; exact (ip c_3 rfl))
        exact hex_15 _ he_4.symm _ _ hP hS ls (lv_sub hl [1] rfl)
      · refine lv_aload_n hx hb dX9_cover_29 rfl (lv_at hl 0 rfl) ?_
        refine lv_iload_n hx hb dX9_cover_30 rfl (lv_at hl 2 rfl) ?_
        have hn_5 : s_X9_covers S x2_15 := (by have hr_2 := hr_2.symm; subst hr_2; exact nl (sn hs_15 c_3))
        refine xcV_iR (b := 16) (As := [.int x2_15]) (rest := []) hC hP hS (k_X9_covers l X S x2_15 hn_5) (cwV 1 hts gX9_cover_X9_covers rfl rfl rfl hd_X9_covers ⟨Nat.le_of_ble_eq_true rfl, Nat.le_of_ble_eq_true rfl⟩) xo_X9 rfl rfl rfl hl.1 (Nat.le_of_ble_eq_true rfl) dX9_cover_31 (fun r_6 hp_r_6 H locs hP hS => ?_)
        obtain ⟨hr_6, hzr_6⟩ := hp_r_6
        refine lv_if_eq (tgt := 47) hx hb dX9_cover_34 (by decide) (fun c_7 => ?_) (fun c_7 => ?_)
        · refine lv_iinc (v := (x2_15 + 1)) (lv' := [(2, .int (x2_15 + 1)), (0, .ref (X.2.1 16)), (1, .int x1_15)]) hx hb dX9_cover_47 hl (k := 2) rfl rfl (by decide) rfl (fun ls hl => ?_)
          refine lv_goto (tgt := 15) hx hb dX9_cover_50 (by decide) ?_
          have he_8 : f_X9_cover_L15 (n + 1) S x1_15 x2_15 = f_X9_cover_L15 n S x1_15 (x2_15 + 1) := (by have hr_2 := hr_2.symm; have hr_6 := hr_6.symm; subst hr_2 hr_6; exact (iN c_3 (ip c_7 rfl)))
          exact ih_15 x1_15 (x2_15 + 1) (by have hr_2 := hr_2.symm; have hr_6 := hr_6.symm; subst hr_2 hr_6; exact (sp (nr (sn hs_15 c_3)) c_7)) (fun q hq => hex_15 q (hq.trans he_8.symm)) _ _ hP hS ls (lv_sub hl [1, 2, 0] rfl)
        · refine lv_iload_n hx hb dX9_cover_37 rfl (lv_at hl 2 rfl) ?_
          refine lv_iload_n hx hb dX9_cover_38 rfl (lv_at hl 1 rfl) ?_
          refine xcSN_iR (As := [.int x2_15, .int x1_15]) (rest := []) hC hP hS (k_X10_isSmaller l X S x2_15 x1_15) (va_cnB (host := "AbsentPraise") 2 hts gX9_cover_X10_isSmaller_n109 rfl rfl rfl (xn_17 hN) (hts (.initialized RX10) (List.mem_of_getElem? (i := 4) rfl)) hs_X10_isSmaller ⟨Nat.le_of_ble_eq_true rfl, Nat.le_of_ble_eq_true rfl⟩) (hts (.static yX10_isSmaller) (List.mem_of_getElem? (i := 16) rfl)) rfl rfl hl.1 (Nat.le_of_ble_eq_true rfl) dX9_cover_39 (fun r_9 hp_r_9 H locs hP hS => ?_)
          obtain ⟨hr_9, hzr_9⟩ := hp_r_9
          refine lv_if_eq (tgt := 47) hx hb dX9_cover_42 (by decide) (fun c_10 => ?_) (fun c_10 => ?_)
          · refine lv_iinc (v := (x2_15 + 1)) (lv' := [(2, .int (x2_15 + 1)), (0, .ref (X.2.1 16)), (1, .int x1_15)]) hx hb dX9_cover_47 hl (k := 2) rfl rfl (by decide) rfl (fun ls hl => ?_)
            refine lv_goto (tgt := 15) hx hb dX9_cover_50 (by decide) ?_
            have he_11 : f_X9_cover_L15 (n + 1) S x1_15 x2_15 = f_X9_cover_L15 n S x1_15 (x2_15 + 1) := (by have hr_2 := hr_2.symm; have hr_6 := hr_6.symm; have hr_9 := hr_9.symm; subst hr_2 hr_6 hr_9; exact (iN c_3 (iN c_7 (ip c_10 rfl))))
            exact ih_15 x1_15 (x2_15 + 1) (by have hr_2 := hr_2.symm; have hr_6 := hr_6.symm; have hr_9 := hr_9.symm; subst hr_2 hr_6 hr_9; exact (sp (sn (nr (sn hs_15 c_3)) c_7) c_10)) (fun q hq => hex_15 q (hq.trans he_11.symm)) _ _ hP hS ls (lv_sub hl [1, 2, 0] rfl)
          · refine lv_iload_n hx hb dX9_cover_45 rfl (lv_at hl 2 rfl) ?_
            refine lv_istore_n (lv' := [(1, .int x2_15), (0, .ref (X.2.1 16)), (2, .int x2_15)]) hx hb dX9_cover_46 rfl hl (by decide) rfl (fun ls hl => ?_)
            refine lv_iinc (v := (x2_15 + 1)) (lv' := [(2, .int (x2_15 + 1)), (1, .int x2_15), (0, .ref (X.2.1 16))]) hx hb dX9_cover_47 hl (k := 2) rfl rfl (by decide) rfl (fun ls hl => ?_)
            refine lv_goto (tgt := 15) hx hb dX9_cover_50 (by decide) ?_
            have he_12 : f_X9_cover_L15 (n + 1) S x1_15 x2_15 = f_X9_cover_L15 n S x2_15 (x2_15 + 1) := (by have hr_2 := hr_2.symm; have hr_6 := hr_6.symm; have hr_9 := hr_9.symm; subst hr_2 hr_6 hr_9; exact (iN c_3 (iN c_7 (iN c_10 rfl))))
            exact ih_15 x2_15 (x2_15 + 1) (by have hr_2 := hr_2.symm; have hr_6 := hr_6.symm; have hr_9 := hr_9.symm; subst hr_2 hr_6 hr_9; exact (sn (sn (nr (sn hs_15 c_3)) c_7) c_10)) (fun q hq => hex_15 q (hq.trans he_12.symm)) _ _ hP hS ls (lv_sub hl [2, 1, 0] rfl)
  refine hLp_15 ((fuel_X9_cover_15)) (r_1 - 1) 0 (by have hr_1 := hr_1.symm; subst hr_1; exact nl hs) (fun q_15 hq_15 H locs hP hS ls hl => ?_) _ _ hP hS ls (lv_sub hl [2, 1, 0] rfl)
  refine lv_iload_n hx hb dX9_cover_53 rfl (lv_at hl 0 rfl) ?_
  exact xret_iR hC hP hS hb hr ((by have hr_1 := hr_1.symm; have hq_15 := hq_15.symm; subst hr_1 hq_15; exact rfl)) dX9_cover_54 hlocks
theorem hd_X9_spread : yX9_spread.cls = RX9 ∧ yX9_spread.cls ≠ "java/lang/invoke/MethodHandle" ∧ yX9_spread.cls ≠ "java/lang/invoke/VarHandle" ∧ (parseMethodDescriptor yX9_spread.desc).map (fun d => d.parameters.length) = some 1 := by decide +kernel
set_option maxHeartbeats 4000000 in
set_option maxRecDepth 100000 in
theorem k_X9_spread (l : Launch) (X : xX) (S : xS) (p0 : Int32) (hs : s_X9_spread S p0) : Met l yX9_spread wsX9_spread ({ frames := 2, cells := 0, slots := 0, locals := 44 } : Room) (va_Pc [.ref (X.2.1 16), .int p0] (xI X S)) (va_Qi (fun (r : Int32) (u : xS) => r = (f_X9_spread S p0) ∧ u = S) (xI X) (xA X)) 0 0 (xA X) := by
  refine Met.ofW (cc := cX9_spread) (maxL := 5) (ret := (some .int)) (by decide +kernel) rfl ?_
  intro p e s m args below meth c s₁ B hml hv
  obtain ⟨rfl, hP, hK, hN, hJ⟩ := hv
  have hx := B.exec
  have hb := B.bytes
  have hr := B.returns
  have hts := atoms_spec (ws := wsX9_spread) B.pre
  have hown : s.vm.findClass RX9 = some m.cls := findClass_of_methodNamed B.named
  have hlocks := B.notSynchronized
  have hC : xC X p m c cX9_spread 5 s _ wsX9_spread RX9 := ⟨⟨hx, hb, hml, hown, hts⟩, hK, hN, hJ⟩
  have hS : va_S (xA X) s.heap s.heap [] := va_S.rf
  have hin_X2 : ∀ w ∈ u_ws RX2 TX2 10, w ∈ wsX9_spread := by decide +kernel
  have hin_X7 : ∀ w ∈ u_ws RX7 TX7 6, w ∈ wsX9_spread := by decide +kernel
  have hin_X9 : ∀ w ∈ u_ws RX9 TX9 5, w ∈ wsX9_spread := by decide +kernel
  have hl := lv_entry ([.ref (X.2.1 16), .int p0]) (n := 5) (Nat.le_of_ble_eq_true rfl)
  rw [lg_entry_eq]
  generalize (lg_sl ([.ref (X.2.1 16), .int p0]) ++ List.replicate (5 - (lg_sl ([.ref (X.2.1 16), .int p0])).length) Slot.unset).toArray = ls at hl ⊢
  have hl : lv_has ls 5 [(0, .ref (X.2.1 16)), (1, .int p0)] := hl
  refine lv_iconst (v := 0) hx hb dX9_spread_0 (by decide) ?_
  refine lv_istore_n (lv' := [(2, .int 0), (0, .ref (X.2.1 16)), (1, .int p0)]) hx hb dX9_spread_1 rfl hl (by decide) rfl (fun ls hl => ?_)
  refine lv_iconst (v := 0) hx hb dX9_spread_2 (by decide) ?_
  refine lv_istore_n (lv' := [(3, .int 0), (2, .int 0), (0, .ref (X.2.1 16)), (1, .int p0)]) hx hb dX9_spread_3 rfl hl (by decide) rfl (fun ls hl => ?_)
  have hLp_4 : ∀ (n : Nat) (x1_4 : Int32) (x2_4 : Int32) (x3_4 : Int32), s_X9_spread_L4 n S x1_4 x2_4 x3_4 → (∀ q : Int32, q = f_X9_spread_L4 n S x1_4 x2_4 x3_4 → (∀ (H : Heap) (locs : List Loc), va_P X.1 vwCl (xW X S) H → va_S (xA X) s.heap H locs → ∀ (ls : Array Slot), lv_has ls 5 [(0, .ref (X.2.1 16)), (1, .int x1_4), (2, .int q)] → W p l e ({ frames := 2, cells := 0, slots := 0, locals := 44 } : Room) s m ([.ref (X.2.1 16), .int p0] : List Value).toArray below meth c H locs 0 0 (MQ below (va_Qi (fun (r : Int32) (u : xS) => r = (f_X9_spread S p0) ∧ u = S) (xI X) (xA X)) ([.ref (X.2.1 16), .int p0] : List Value).toArray s 0 0 (xA X)) (F0 m 63 ls []))) → ∀ (H : Heap) (locs : List Loc), va_P X.1 vwCl (xW X S) H → va_S (xA X) s.heap H locs → ∀ (ls : Array Slot), lv_has ls 5 [(0, .ref (X.2.1 16)), (1, .int x1_4), (2, .int x2_4), (3, .int x3_4)] → W p l e ({ frames := 2, cells := 0, slots := 0, locals := 44 } : Room) s m ([.ref (X.2.1 16), .int p0] : List Value).toArray below meth c H locs 0 0 (MQ below (va_Qi (fun (r : Int32) (u : xS) => r = (f_X9_spread S p0) ∧ u = S) (xI X) (xA X)) ([.ref (X.2.1 16), .int p0] : List Value).toArray s 0 0 (xA X)) (F0 m 4 ls []) := by
    intro n
    induction n with
    | zero => intro x1_4 x2_4 x3_4 hs; exact hs.elim
    | succ n ih_4 =>
      intro x1_4 x2_4 x3_4 hs_4 hex_4 H locs hP hS ls hl
      refine lv_iload_n hx hb dX9_spread_4 rfl (lv_at hl 3 rfl) ?_
      refine lv_aload_n hx hb dX9_spread_5 rfl (lv_at hl 0 rfl) ?_
      refine xget (ref := "AbsentPraise$Trials") (T := TX9) (v := .ref (X.2.1 9)) hC hP hin_X9 xo_X9 rfl 0 (by decide) (List.mem_of_getElem? (i := 1) rfl) rfl rfl dX9_spread_6 ?_
      refine xget (ref := "AbsentPraise$Hill") (T := TX2) (v := .int (S 9 9)) hC hP hin_X2 (xo_H (by decide)) rfl 9 (by decide) (List.mem_of_getElem? (i := 2) rfl) rfl rfl dX9_spread_9 ?_
      refine lv_icmp_ge (tgt := 63) hx hb dX9_spread_12 (by decide) (fun c_1 => ?_) (fun c_1 => ?_)
      · have he_2 : f_X9_spread_L4 (n + 1) S x1_4 x2_4 x3_4 = x2_4 := ((ip c_1 rfl))
        exact hex_4 _ he_2.symm _ _ hP hS ls (lv_sub hl [0, 1, 2] rfl)
      · refine lv_iload_n hx hb dX9_spread_15 rfl (lv_at hl 1 rfl) ?_
        refine lv_iload_n hx hb dX9_spread_16 rfl (lv_at hl 3 rfl) ?_
        refine xcSN_iR (As := [.int x1_4, .int x3_4]) (rest := []) hC hP hS (k_X10_has l X S x1_4 x3_4) (va_cnB (host := "AbsentPraise") 2 hts gX9_spread_X10_has_n56 rfl rfl rfl (xn_15 hN) (hts (.initialized RX10) (List.mem_of_getElem? (i := 8) rfl)) hs_X10_has ⟨Nat.le_of_ble_eq_true rfl, Nat.le_of_ble_eq_true rfl⟩) (hts (.static yX10_has) (List.mem_of_getElem? (i := 7) rfl)) rfl rfl hl.1 (Nat.le_of_ble_eq_true rfl) dX9_spread_17 (fun r_3 hp_r_3 H locs hP hS => ?_)
        obtain ⟨hr_3, hzr_3⟩ := hp_r_3
        refine lv_if_eq (tgt := 57) hx hb dX9_spread_20 (by decide) (fun c_4 => ?_) (fun c_4 => ?_)
        · refine lv_iinc (v := (x3_4 + 1)) (lv' := [(3, .int (x3_4 + 1)), (0, .ref (X.2.1 16)), (1, .int x1_4), (2, .int x2_4)]) hx hb dX9_spread_57 hl (k := 3) rfl rfl (by decide) rfl (fun ls hl => ?_)
          refine lv_goto (tgt := 4) hx hb dX9_spread_60 (by decide) ?_
          have he_5 : f_X9_spread_L4 (n + 1) S x1_4 x2_4 x3_4 = f_X9_spread_L4 n S x1_4 x2_4 (x3_4 + 1) := (by have hr_3 := hr_3.symm; subst hr_3; exact (iN c_1 (ip c_4 rfl)))
          exact ih_4 x1_4 x2_4 (x3_4 + 1) (by have hr_3 := hr_3.symm; subst hr_3; exact (sp (sn hs_4 c_1) c_4)) (fun q hq => hex_4 q (hq.trans he_5.symm)) _ _ hP hS ls (lv_sub hl [1, 2, 3, 0] rfl)
        · refine lv_aload_n hx hb dX9_spread_23 rfl (lv_at hl 0 rfl) ?_
          refine xget (ref := "AbsentPraise$Trials") (T := TX9) (v := .ref (X.2.1 32)) hC hP hin_X9 xo_X9 rfl 1 (by decide) (List.mem_of_getElem? (i := 3) rfl) rfl rfl dX9_spread_24 ?_
          refine xget (ref := "AbsentPraise$Talk") (T := TX7) (v := .ref (X.2.1 33)) hC hP hin_X7 (xo_T (by decide)) rfl 0 (by decide) (List.mem_of_getElem? (i := 4) rfl) rfl rfl dX9_spread_27 ?_
          refine lv_iload_n hx hb dX9_spread_30 rfl (lv_at hl 3 rfl) ?_
          refine xcSN_iR (As := [.ref (X.2.1 33), .int x3_4]) (rest := []) hC hP hS (k_X10_at l X S 33 x3_4 rfl) (va_cnB (host := "AbsentPraise") 2 hts gX9_spread_X10_at_n45 rfl rfl rfl (xn_16 hN) (hts (.initialized RX10) (List.mem_of_getElem? (i := 8) rfl)) hs_X10_at ⟨Nat.le_of_ble_eq_true rfl, Nat.le_of_ble_eq_true rfl⟩) (hts (.static yX10_at) (List.mem_of_getElem? (i := 10) rfl)) rfl rfl hl.1 (Nat.le_of_ble_eq_true rfl) dX9_spread_31 (fun r_6 hr_6 H locs hP hS => ?_)
          refine lv_istore (lv' := [(4, .int r_6), (0, .ref (X.2.1 16)), (1, .int x1_4), (2, .int x2_4), (3, .int x3_4)]) hx hb dX9_spread_34 hl (by decide) rfl (fun ls hl => ?_)
          refine lv_iload_n hx hb dX9_spread_36 rfl (lv_at hl 3 rfl) ?_
          refine lv_iload hx hb dX9_spread_37 (lv_at hl 0 rfl) ?_
          refine xcSN_iR (As := [.int r_6]) (rest := [.int x2_4]) hC hP hS (k_X10_bit l X S r_6) (va_cnB (host := "AbsentPraise") 1 hts gX9_spread_X10_bit_n106 rfl rfl rfl (xn_14 hN) (hts (.initialized RX10) (List.mem_of_getElem? (i := 8) rfl)) hs_X10_bit ⟨Nat.le_of_ble_eq_true rfl, Nat.le_of_ble_eq_true rfl⟩) (hts (.static yX10_bit) (List.mem_of_getElem? (i := 12) rfl)) rfl rfl hl.1 (Nat.le_of_ble_eq_true rfl) dX9_spread_39 (fun r_7 hr_7 H locs hP hS => ?_)
          refine lv_aload_n hx hb dX9_spread_42 rfl (lv_at hl 1 rfl) ?_
          refine xget (ref := "AbsentPraise$Trials") (T := TX9) (v := .ref (X.2.1 9)) hC hP hin_X9 xo_X9 rfl 0 (by decide) (List.mem_of_getElem? (i := 1) rfl) rfl rfl dX9_spread_43 ?_
          refine xget (ref := "AbsentPraise$Hill") (T := TX2) (v := .ref (X.2.1 10)) hC hP hin_X2 (xo_H (by decide)) rfl 0 (by decide) (List.mem_of_getElem? (i := 5) rfl) rfl rfl dX9_spread_46 ?_
          refine lv_iload hx hb dX9_spread_49 (lv_at hl 0 rfl) ?_
          refine xcSN_iR (As := [.ref (X.2.1 10), .int r_6]) (rest := [.int r_7, .int x2_4]) hC hP hS (k_X10_at l X S 10 r_6 rfl) (va_cnB (host := "AbsentPraise") 2 hts gX9_spread_X10_at_n45 rfl rfl rfl (xn_16 hN) (hts (.initialized RX10) (List.mem_of_getElem? (i := 8) rfl)) hs_X10_at ⟨Nat.le_of_ble_eq_true rfl, Nat.le_of_ble_eq_true rfl⟩) (hts (.static yX10_at) (List.mem_of_getElem? (i := 10) rfl)) rfl rfl hl.1 (Nat.le_of_ble_eq_true rfl) dX9_spread_51 (fun r_8 hr_8 H locs hP hS => ?_)
          refine lv_ior hx hb dX9_spread_54 ?_
          refine lv_ior hx hb dX9_spread_55 ?_
          refine lv_istore_n (lv' := [(2, .int (x2_4 ||| (r_7 ||| r_8))), (4, .int r_6), (0, .ref (X.2.1 16)), (1, .int x1_4), (3, .int x3_4)]) hx hb dX9_spread_56 rfl hl (by decide) rfl (fun ls hl => ?_)
          refine lv_iinc (v := (x3_4 + 1)) (lv' := [(3, .int (x3_4 + 1)), (2, .int (x2_4 ||| (r_7 ||| r_8))), (4, .int r_6), (0, .ref (X.2.1 16)), (1, .int x1_4)]) hx hb dX9_spread_57 hl (k := 4) rfl rfl (by decide) rfl (fun ls hl => ?_)
          refine lv_goto (tgt := 4) hx hb dX9_spread_60 (by decide) ?_
          have he_9 : f_X9_spread_L4 (n + 1) S x1_4 x2_4 x3_4 = f_X9_spread_L4 n S x1_4 (x2_4 ||| (r_7 ||| r_8)) (x3_4 + 1) := (by have hr_3 := hr_3.symm; have hr_6 := hr_6.symm; have hr_7 := hr_7.symm; have hr_8 := hr_8.symm; subst hr_3 hr_6 hr_7 hr_8; exact (iN c_1 (iN c_4 rfl)))
          exact ih_4 x1_4 (x2_4 ||| (r_7 ||| r_8)) (x3_4 + 1) (by have hr_3 := hr_3.symm; have hr_6 := hr_6.symm; have hr_7 := hr_7.symm; have hr_8 := hr_8.symm; subst hr_3 hr_6 hr_7 hr_8; exact (sn (sn hs_4 c_1) c_4)) (fun q hq => hex_4 q (hq.trans he_9.symm)) _ _ hP hS ls (lv_sub hl [3, 4, 1, 0] rfl)
  refine hLp_4 ((fu 0 (S 9 9))) p0 0 0 (nl hs) (fun q_4 hq_4 H locs hP hS ls hl => ?_) _ _ hP hS ls (lv_sub hl [2, 3, 1, 0] rfl)
  refine lv_iload_n hx hb dX9_spread_63 rfl (lv_at hl 1 rfl) ?_
  refine lv_aload_n hx hb dX9_spread_64 rfl (lv_at hl 0 rfl) ?_
  refine xget (ref := "AbsentPraise$Trials") (T := TX9) (v := .ref (X.2.1 15)) hC hP hin_X9 xo_X9 rfl 2 (by decide) (List.mem_of_getElem? (i := 6) rfl) rfl rfl dX9_spread_65 ?_
  refine lv_iload_n hx hb dX9_spread_68 rfl (lv_at hl 2 rfl) ?_
  have hn_10 : s_X4_personsIn S q_4 := (by have hq_4 := hq_4.symm; subst hq_4; exact nl (nr hs))
  refine xcV_iR (b := 15) (As := [.int q_4]) (rest := [.int p0]) hC hP hS (k_X4_personsIn l X S q_4 hn_10) (cwV 1 hts gX9_spread_X4_personsIn rfl rfl rfl hd_X4_personsIn ⟨Nat.le_of_ble_eq_true rfl, Nat.le_of_ble_eq_true rfl⟩) xo_X4 rfl rfl rfl hl.1 (Nat.le_of_ble_eq_true rfl) dX9_spread_69 (fun r_11 hr_11 H locs hP hS => ?_)
  refine lv_ior hx hb dX9_spread_72 ?_
  exact xret_iR hC hP hS hb hr ((by have hq_4 := hq_4.symm; have hr_11 := hr_11.symm; subst hq_4 hr_11; exact rfl)) dX9_spread_73 hlocks
theorem hd_X9_knownBehind : yX9_knownBehind.cls = RX9 ∧ yX9_knownBehind.cls ≠ "java/lang/invoke/MethodHandle" ∧ yX9_knownBehind.cls ≠ "java/lang/invoke/VarHandle" ∧ (parseMethodDescriptor yX9_knownBehind.desc).map (fun d => d.parameters.length) = some 2 := by decide +kernel
set_option maxHeartbeats 4000000 in
set_option maxRecDepth 100000 in
theorem k_X9_knownBehind (l : Launch) (X : xX) (S : xS) (p0 : Int32) (p1 : Int32) (hs : s_X9_knownBehind S p0 p1) : Met l yX9_knownBehind wsX9_knownBehind ({ frames := 3, cells := 0, slots := 0, locals := 68 } : Room) (va_Pc [.ref (X.2.1 16), .int p0, .int p1] (xI X S)) (va_Qi (fun (r : Int32) (u : xS) => r = (f_X9_knownBehind S p0 p1) ∧ u = S) (xI X) (xA X)) 0 0 (xA X) := by
  refine Met.ofW (cc := cX9_knownBehind) (maxL := 5) (ret := (some .int)) (by decide +kernel) rfl ?_
  intro p e s m args below meth c s₁ B hml hv
  obtain ⟨rfl, hP, hK, hN, hJ⟩ := hv
  have hx := B.exec
  have hb := B.bytes
  have hr := B.returns
  have hts := atoms_spec (ws := wsX9_knownBehind) B.pre
  have hown : s.vm.findClass RX9 = some m.cls := findClass_of_methodNamed B.named
  have hlocks := B.notSynchronized
  have hC : xC X p m c cX9_knownBehind 5 s _ wsX9_knownBehind RX9 := ⟨⟨hx, hb, hml, hown, hts⟩, hK, hN, hJ⟩
  have hS : va_S (xA X) s.heap s.heap [] := va_S.rf
  have hl := lv_entry ([.ref (X.2.1 16), .int p0, .int p1]) (n := 5) (Nat.le_of_ble_eq_true rfl)
  rw [lg_entry_eq]
  generalize (lg_sl ([.ref (X.2.1 16), .int p0, .int p1]) ++ List.replicate (5 - (lg_sl ([.ref (X.2.1 16), .int p0, .int p1])).length) Slot.unset).toArray = ls at hl ⊢
  have hl : lv_has ls 5 [(0, .ref (X.2.1 16)), (1, .int p0), (2, .int p1)] := hl
  refine lv_iload_n hx hb dX9_knownBehind_0 rfl (lv_at hl 1 rfl) ?_
  refine xcSN_iR (As := [.int p0]) (rest := []) hC hP hS (k_X10_bit l X S p0) (va_cnB (host := "AbsentPraise") 1 hts gX9_knownBehind_X10_bit_n106 rfl rfl rfl (xn_14 hN) (hts (.initialized RX10) (List.mem_of_getElem? (i := 2) rfl)) hs_X10_bit ⟨Nat.le_of_ble_eq_true rfl, Nat.le_of_ble_eq_true rfl⟩) (hts (.static yX10_bit) (List.mem_of_getElem? (i := 1) rfl)) rfl rfl hl.1 (Nat.le_of_ble_eq_true rfl) dX9_knownBehind_1 (fun r_1 hr_1 H locs hP hS => ?_)
  refine lv_istore_n (lv' := [(3, .int r_1), (0, .ref (X.2.1 16)), (1, .int p0), (2, .int p1)]) hx hb dX9_knownBehind_4 rfl hl (by decide) rfl (fun ls hl => ?_)
  refine lv_iconst (v := 0) hx hb dX9_knownBehind_5 (by decide) ?_
  refine lv_istore (lv' := [(4, .int 0), (3, .int r_1), (0, .ref (X.2.1 16)), (1, .int p0), (2, .int p1)]) hx hb dX9_knownBehind_6 hl (by decide) rfl (fun ls hl => ?_)
  have hLp_8 : ∀ (n : Nat) (x2_8 : Int32) (x3_8 : Int32) (x4_8 : Int32), s_X9_knownBehind_L8 n S x2_8 x3_8 x4_8 → (∀ q : Int32, q = f_X9_knownBehind_L8 n S x2_8 x3_8 x4_8 → (∀ (H : Heap) (locs : List Loc), va_P X.1 vwCl (xW X S) H → va_S (xA X) s.heap H locs → ∀ (ls : Array Slot), lv_has ls 5 [(3, .int q)] → W p l e ({ frames := 3, cells := 0, slots := 0, locals := 68 } : Room) s m ([.ref (X.2.1 16), .int p0, .int p1] : List Value).toArray below meth c H locs 0 0 (MQ below (va_Qi (fun (r : Int32) (u : xS) => r = (f_X9_knownBehind S p0 p1) ∧ u = S) (xI X) (xA X)) ([.ref (X.2.1 16), .int p0, .int p1] : List Value).toArray s 0 0 (xA X)) (F0 m 26 ls []))) → ∀ (H : Heap) (locs : List Loc), va_P X.1 vwCl (xW X S) H → va_S (xA X) s.heap H locs → ∀ (ls : Array Slot), lv_has ls 5 [(0, .ref (X.2.1 16)), (2, .int x2_8), (3, .int x3_8), (4, .int x4_8)] → W p l e ({ frames := 3, cells := 0, slots := 0, locals := 68 } : Room) s m ([.ref (X.2.1 16), .int p0, .int p1] : List Value).toArray below meth c H locs 0 0 (MQ below (va_Qi (fun (r : Int32) (u : xS) => r = (f_X9_knownBehind S p0 p1) ∧ u = S) (xI X) (xA X)) ([.ref (X.2.1 16), .int p0, .int p1] : List Value).toArray s 0 0 (xA X)) (F0 m 8 ls []) := by
    intro n
    induction n with
    | zero => intro x2_8 x3_8 x4_8 hs; exact hs.elim
    | succ n ih_8 =>
      intro x2_8 x3_8 x4_8 hs_8 hex_8 H locs hP hS ls hl
      refine lv_iload hx hb dX9_knownBehind_8 (lv_at hl 3 rfl) ?_
      refine lv_iload_n hx hb dX9_knownBehind_10 rfl (lv_at hl 1 rfl) ?_
      refine lv_icmp_ge (tgt := 26) hx hb dX9_knownBehind_11 (by decide) (fun c_2 => ?_) (fun c_2 => ?_)
      · have he_3 : f_X9_knownBehind_L8 (n + 1) S x2_8 x3_8 x4_8 = x3_8 := ((ip c_2 rfl))
        exact hex_8 _ he_3.symm _ _ hP hS ls (lv_sub hl [2] rfl)
      · refine lv_aload_n hx hb dX9_knownBehind_14 rfl (lv_at hl 0 rfl) ?_
        refine lv_iload_n hx hb dX9_knownBehind_15 rfl (lv_at hl 2 rfl) ?_
        have hn_4 : s_X9_spread S x3_8 := (nl (sn hs_8 c_2))
        refine xcV_iR (b := 16) (As := [.int x3_8]) (rest := []) hC hP hS (k_X9_spread l X S x3_8 hn_4) (cwV 1 hts gX9_knownBehind_X9_spread rfl rfl rfl hd_X9_spread ⟨Nat.le_of_ble_eq_true rfl, Nat.le_of_ble_eq_true rfl⟩) xo_X9 rfl rfl rfl hl.1 (Nat.le_of_ble_eq_true rfl) dX9_knownBehind_16 (fun r_5 hr_5 H locs hP hS => ?_)
        refine lv_istore_n (lv' := [(3, .int r_5), (0, .ref (X.2.1 16)), (2, .int x2_8), (4, .int x4_8)]) hx hb dX9_knownBehind_19 rfl hl (by decide) rfl (fun ls hl => ?_)
        refine lv_iinc (v := (x4_8 + 1)) (lv' := [(4, .int (x4_8 + 1)), (3, .int r_5), (0, .ref (X.2.1 16)), (2, .int x2_8)]) hx hb dX9_knownBehind_20 hl (k := 3) rfl rfl (by decide) rfl (fun ls hl => ?_)
        refine lv_goto (tgt := 8) hx hb dX9_knownBehind_23 (by decide) ?_
        have he_6 : f_X9_knownBehind_L8 (n + 1) S x2_8 x3_8 x4_8 = f_X9_knownBehind_L8 n S x2_8 r_5 (x4_8 + 1) := (by have hr_5 := hr_5.symm; subst hr_5; exact (iN c_2 rfl))
        exact ih_8 x2_8 r_5 (x4_8 + 1) (by have hr_5 := hr_5.symm; subst hr_5; exact (nr (sn hs_8 c_2))) (fun q hq => hex_8 q (hq.trans he_6.symm)) _ _ hP hS ls (lv_sub hl [2, 3, 1, 0] rfl)
  refine hLp_8 ((fu 0 p1)) p1 r_1 0 (by have hr_1 := hr_1.symm; subst hr_1; exact nl hs) (fun q_8 hq_8 H locs hP hS ls hl => ?_) _ _ hP hS ls (lv_sub hl [2, 4, 1, 0] rfl)
  refine lv_iload_n hx hb dX9_knownBehind_26 rfl (lv_at hl 0 rfl) ?_
  exact xret_iR hC hP hS hb hr ((by have hr_1 := hr_1.symm; have hq_8 := hq_8.symm; subst hr_1 hq_8; exact rfl)) dX9_knownBehind_27 hlocks
theorem hd_X9_hoursTillAllKnow : yX9_hoursTillAllKnow.cls = RX9 ∧ yX9_hoursTillAllKnow.cls ≠ "java/lang/invoke/MethodHandle" ∧ yX9_hoursTillAllKnow.cls ≠ "java/lang/invoke/VarHandle" ∧ (parseMethodDescriptor yX9_hoursTillAllKnow.desc).map (fun d => d.parameters.length) = some 1 := by decide +kernel
set_option maxHeartbeats 4000000 in
set_option maxRecDepth 100000 in
theorem k_X9_hoursTillAllKnow (l : Launch) (X : xX) (S : xS) (p0 : Int32) (hs : s_X9_hoursTillAllKnow S p0) : Met l yX9_hoursTillAllKnow wsX9_hoursTillAllKnow ({ frames := 3, cells := 0, slots := 0, locals := 68 } : Room) (va_Pc [.ref (X.2.1 16), .int p0] (xI X S)) (va_Qi (fun (r : Int32) (u : xS) => r = (f_X9_hoursTillAllKnow S p0) ∧ u = S) (xI X) (xA X)) 0 0 (xA X) := by
  refine Met.ofW (cc := cX9_hoursTillAllKnow) (maxL := 4) (ret := (some .int)) (by decide +kernel) rfl ?_
  intro p e s m args below meth c s₁ B hml hv
  obtain ⟨rfl, hP, hK, hN, hJ⟩ := hv
  have hx := B.exec
  have hb := B.bytes
  have hr := B.returns
  have hts := atoms_spec (ws := wsX9_hoursTillAllKnow) B.pre
  have hown : s.vm.findClass RX9 = some m.cls := findClass_of_methodNamed B.named
  have hlocks := B.notSynchronized
  have hC : xC X p m c cX9_hoursTillAllKnow 4 s _ wsX9_hoursTillAllKnow RX9 := ⟨⟨hx, hb, hml, hown, hts⟩, hK, hN, hJ⟩
  have hS : va_S (xA X) s.heap s.heap [] := va_S.rf
  have hin_X2 : ∀ w ∈ u_ws RX2 TX2 10, w ∈ wsX9_hoursTillAllKnow := by decide +kernel
  have hin_X9 : ∀ w ∈ u_ws RX9 TX9 5, w ∈ wsX9_hoursTillAllKnow := by decide +kernel
  have hl := lv_entry ([.ref (X.2.1 16), .int p0]) (n := 4) (Nat.le_of_ble_eq_true rfl)
  rw [lg_entry_eq]
  generalize (lg_sl ([.ref (X.2.1 16), .int p0]) ++ List.replicate (4 - (lg_sl ([.ref (X.2.1 16), .int p0])).length) Slot.unset).toArray = ls at hl ⊢
  have hl : lv_has ls 4 [(0, .ref (X.2.1 16)), (1, .int p0)] := hl
  refine lv_iload_n hx hb dX9_hoursTillAllKnow_0 rfl (lv_at hl 1 rfl) ?_
  refine xcSN_iR (As := [.int p0]) (rest := []) hC hP hS (k_X10_bit l X S p0) (va_cnB (host := "AbsentPraise") 1 hts gX9_hoursTillAllKnow_X10_bit_n106 rfl rfl rfl (xn_14 hN) (hts (.initialized RX10) (List.mem_of_getElem? (i := 4) rfl)) hs_X10_bit ⟨Nat.le_of_ble_eq_true rfl, Nat.le_of_ble_eq_true rfl⟩) (hts (.static yX10_bit) (List.mem_of_getElem? (i := 3) rfl)) rfl rfl hl.1 (Nat.le_of_ble_eq_true rfl) dX9_hoursTillAllKnow_1 (fun r_1 hr_1 H locs hP hS => ?_)
  refine lv_istore_n (lv' := [(2, .int r_1), (0, .ref (X.2.1 16)), (1, .int p0)]) hx hb dX9_hoursTillAllKnow_4 rfl hl (by decide) rfl (fun ls hl => ?_)
  refine lv_iconst (v := 0) hx hb dX9_hoursTillAllKnow_5 (by decide) ?_
  refine lv_istore_n (lv' := [(3, .int 0), (2, .int r_1), (0, .ref (X.2.1 16)), (1, .int p0)]) hx hb dX9_hoursTillAllKnow_6 rfl hl (by decide) rfl (fun ls hl => ?_)
  have hLp_7 : ∀ (n : Nat) (x2_7 : Int32) (x3_7 : Int32), s_X9_hoursTillAllKnow_L7 n S x2_7 x3_7 → (∀ q : Unit, f_X9_hoursTillAllKnow_L7 n S x2_7 x3_7 = .inr q → (∀ (H : Heap) (locs : List Loc), va_P X.1 vwCl (xW X S) H → va_S (xA X) s.heap H locs → ∀ (ls : Array Slot), lv_has ls 4 [] → W p l e ({ frames := 3, cells := 0, slots := 0, locals := 68 } : Room) s m ([.ref (X.2.1 16), .int p0] : List Value).toArray below meth c H locs 0 0 (MQ below (va_Qi (fun (r : Int32) (u : xS) => r = (f_X9_hoursTillAllKnow S p0) ∧ u = S) (xI X) (xA X)) ([.ref (X.2.1 16), .int p0] : List Value).toArray s 0 0 (xA X)) (F0 m 48 ls []))) → (∀ r : Int32, f_X9_hoursTillAllKnow_L7 n S x2_7 x3_7 = .inl r → ∀ (H : Heap) (locs : List Loc), va_P X.1 vwCl (xW X S) H → va_S (xA X) s.heap H locs → ∀ (pc : Nat) (ls : Array Slot), decode cX9_hoursTillAllKnow pc = .ok (.ireturn, 1) → W p l e ({ frames := 3, cells := 0, slots := 0, locals := 68 } : Room) s m ([.ref (X.2.1 16), .int p0] : List Value).toArray below meth c H locs 0 0 (MQ below (va_Qi (fun (r : Int32) (u : xS) => r = (f_X9_hoursTillAllKnow S p0) ∧ u = S) (xI X) (xA X)) ([.ref (X.2.1 16), .int p0] : List Value).toArray s 0 0 (xA X)) (F0 m pc ls [.int r])) → ∀ (H : Heap) (locs : List Loc), va_P X.1 vwCl (xW X S) H → va_S (xA X) s.heap H locs → ∀ (ls : Array Slot), lv_has ls 4 [(0, .ref (X.2.1 16)), (2, .int x2_7), (3, .int x3_7)] → W p l e ({ frames := 3, cells := 0, slots := 0, locals := 68 } : Room) s m ([.ref (X.2.1 16), .int p0] : List Value).toArray below meth c H locs 0 0 (MQ below (va_Qi (fun (r : Int32) (u : xS) => r = (f_X9_hoursTillAllKnow S p0) ∧ u = S) (xI X) (xA X)) ([.ref (X.2.1 16), .int p0] : List Value).toArray s 0 0 (xA X)) (F0 m 7 ls []) := by
    intro n
    induction n with
    | zero => intro x2_7 x3_7 hs; exact hs.elim
    | succ n ih_7 =>
      intro x2_7 x3_7 hs_7 hex_7 hret_7 H locs hP hS ls hl
      refine lv_iload_n hx hb dX9_hoursTillAllKnow_7 rfl (lv_at hl 2 rfl) ?_
      refine lv_aload_n hx hb dX9_hoursTillAllKnow_8 rfl (lv_at hl 0 rfl) ?_
      refine xget (ref := "AbsentPraise$Trials") (T := TX9) (v := .ref (X.2.1 9)) hC hP hin_X9 xo_X9 rfl 0 (by decide) (List.mem_of_getElem? (i := 1) rfl) rfl rfl dX9_hoursTillAllKnow_9 ?_
      refine xget (ref := "AbsentPraise$Hill") (T := TX2) (v := .int (S 9 9)) hC hP hin_X2 (xo_H (by decide)) rfl 9 (by decide) (List.mem_of_getElem? (i := 2) rfl) rfl rfl dX9_hoursTillAllKnow_12 ?_
      refine lv_icmp_gt (tgt := 48) hx hb dX9_hoursTillAllKnow_15 (by decide) (fun c_2 => ?_) (fun c_2 => ?_)
      · have he_3 : f_X9_hoursTillAllKnow_L7 (n + 1) S x2_7 x3_7 = .inr () := ((ip c_2 rfl))
        exact hex_7 _ he_3 _ _ hP hS ls (lv_sub hl [] rfl)
      · refine lv_iload_n hx hb dX9_hoursTillAllKnow_18 rfl (lv_at hl 1 rfl) ?_
        refine lv_aload_n hx hb dX9_hoursTillAllKnow_19 rfl (lv_at hl 0 rfl) ?_
        refine xget (ref := "AbsentPraise$Trials") (T := TX9) (v := .ref (X.2.1 9)) hC hP hin_X9 xo_X9 rfl 0 (by decide) (List.mem_of_getElem? (i := 1) rfl) rfl rfl dX9_hoursTillAllKnow_20 ?_
        refine xget (ref := "AbsentPraise$Hill") (T := TX2) (v := .int (S 9 9)) hC hP hin_X2 (xo_H (by decide)) rfl 9 (by decide) (List.mem_of_getElem? (i := 2) rfl) rfl rfl dX9_hoursTillAllKnow_23 ?_
        refine xcSN_iR (As := [.int (S 9 9)]) (rest := [.int x2_7]) hC hP hS (k_X10_bit l X S (S 9 9)) (va_cnB (host := "AbsentPraise") 1 hts gX9_hoursTillAllKnow_X10_bit_n106 rfl rfl rfl (xn_14 hN) (hts (.initialized RX10) (List.mem_of_getElem? (i := 4) rfl)) hs_X10_bit ⟨Nat.le_of_ble_eq_true rfl, Nat.le_of_ble_eq_true rfl⟩) (hts (.static yX10_bit) (List.mem_of_getElem? (i := 3) rfl)) rfl rfl hl.1 (Nat.le_of_ble_eq_true rfl) dX9_hoursTillAllKnow_26 (fun r_4 hr_4 H locs hP hS => ?_)
        refine lv_iconst (v := 1) hx hb dX9_hoursTillAllKnow_29 (by decide) ?_
        refine lv_isub hx hb dX9_hoursTillAllKnow_30 ?_
        refine lv_icmp_ne (tgt := 36) hx hb dX9_hoursTillAllKnow_31 (by decide) (fun c_5 => ?_) (fun c_5 => ?_)
        · refine lv_aload_n hx hb dX9_hoursTillAllKnow_36 rfl (lv_at hl 0 rfl) ?_
          refine lv_iload_n hx hb dX9_hoursTillAllKnow_37 rfl (lv_at hl 1 rfl) ?_
          have hn_6 : s_X9_spread S x2_7 := (by have hr_4 := hr_4.symm; subst hr_4; exact nl (sn (sn hs_7 c_2) c_5))
          refine xcV_iR (b := 16) (As := [.int x2_7]) (rest := []) hC hP hS (k_X9_spread l X S x2_7 hn_6) (cwV 1 hts gX9_hoursTillAllKnow_X9_spread rfl rfl rfl hd_X9_spread ⟨Nat.le_of_ble_eq_true rfl, Nat.le_of_ble_eq_true rfl⟩) xo_X9 rfl rfl rfl hl.1 (Nat.le_of_ble_eq_true rfl) dX9_hoursTillAllKnow_38 (fun r_7 hr_7 H locs hP hS => ?_)
          refine lv_istore_n (lv' := [(2, .int r_7), (0, .ref (X.2.1 16)), (3, .int x3_7)]) hx hb dX9_hoursTillAllKnow_41 rfl hl (by decide) rfl (fun ls hl => ?_)
          refine lv_iinc (v := (x3_7 + 1)) (lv' := [(3, .int (x3_7 + 1)), (2, .int r_7), (0, .ref (X.2.1 16))]) hx hb dX9_hoursTillAllKnow_42 hl (k := 2) rfl rfl (by decide) rfl (fun ls hl => ?_)
          refine lv_goto (tgt := 7) hx hb dX9_hoursTillAllKnow_45 (by decide) ?_
          have he_8 : f_X9_hoursTillAllKnow_L7 (n + 1) S x2_7 x3_7 = f_X9_hoursTillAllKnow_L7 n S r_7 (x3_7 + 1) := (by have hr_4 := hr_4.symm; have hr_7 := hr_7.symm; subst hr_4 hr_7; exact (iN c_2 (iN c_5 rfl)))
          exact ih_7 r_7 (x3_7 + 1) (by have hr_4 := hr_4.symm; have hr_7 := hr_7.symm; subst hr_4 hr_7; exact (nr (sn (sn hs_7 c_2) c_5))) (fun q hq => hex_7 q (he_8.trans hq)) (fun r hq => hret_7 r (he_8.trans hq)) _ _ hP hS ls (lv_sub hl [2, 1, 0] rfl)
        · refine lv_iload_n hx hb dX9_hoursTillAllKnow_34 rfl (lv_at hl 2 rfl) ?_
          have he_9 : f_X9_hoursTillAllKnow_L7 (n + 1) S x2_7 x3_7 = .inl (x3_7) := (by have hr_4 := hr_4.symm; subst hr_4; exact (iN c_2 (ip c_5 rfl)))
          exact hret_7 _ he_9 _ _ hP hS 35 ls dX9_hoursTillAllKnow_35
  refine hLp_7 ((fu 0 (S 9 9))) r_1 0 (by have hr_1 := hr_1.symm; subst hr_1; exact nl hs) (fun q_7 hq_7 H locs hP hS ls hl => ?_) (fun r hr_7 H locs hP hS pc_7 ls hd_7 => ?_) _ _ hP hS ls (lv_sub hl [2, 1, 0] rfl)
  · refine lv_iconst (v := (-1)) hx hb dX9_hoursTillAllKnow_48 (by decide) ?_
    exact xret_iR hC hP hS hb hr ((by have hr_1 := hr_1.symm; subst hr_1; exact (sm_r hq_7 rfl))) dX9_hoursTillAllKnow_49 hlocks
  · exact xret_iR hC hP hS hb hr ((by have hr_1 := hr_1.symm; subst hr_1; exact (sm_l hr_7 rfl))) hd_7 hlocks
theorem hd_X9_listeningRooms : yX9_listeningRooms.cls = RX9 ∧ yX9_listeningRooms.cls ≠ "java/lang/invoke/MethodHandle" ∧ yX9_listeningRooms.cls ≠ "java/lang/invoke/VarHandle" ∧ (parseMethodDescriptor yX9_listeningRooms.desc).map (fun d => d.parameters.length) = some 3 := by decide +kernel
set_option maxHeartbeats 4000000 in
set_option maxRecDepth 100000 in
theorem k_X9_listeningRooms (l : Launch) (X : xX) (S : xS) (p0 : Int32) (p1 : Int32) (p2 : Int32) (hs : s_X9_listeningRooms S p0 p1 p2) : Met l yX9_listeningRooms wsX9_listeningRooms ({ frames := 3, cells := 0, slots := 0, locals := 70 } : Room) (va_Pc [.ref (X.2.1 16), .int p0, .int p1, .int p2] (xI X S)) (va_Qi (fun (r : Int32) (u : xS) => r = (f_X9_listeningRooms S p0 p1 p2) ∧ u = S) (xI X) (xA X)) 0 0 (xA X) := by
  refine Met.ofW (cc := cX9_listeningRooms) (maxL := 6) (ret := (some .int)) (by decide +kernel) rfl ?_
  intro p e s m args below meth c s₁ B hml hv
  obtain ⟨rfl, hP, hK, hN, hJ⟩ := hv
  have hx := B.exec
  have hb := B.bytes
  have hr := B.returns
  have hts := atoms_spec (ws := wsX9_listeningRooms) B.pre
  have hown : s.vm.findClass RX9 = some m.cls := findClass_of_methodNamed B.named
  have hlocks := B.notSynchronized
  have hC : xC X p m c cX9_listeningRooms 6 s _ wsX9_listeningRooms RX9 := ⟨⟨hx, hb, hml, hown, hts⟩, hK, hN, hJ⟩
  have hS : va_S (xA X) s.heap s.heap [] := va_S.rf
  have hin_X2 : ∀ w ∈ u_ws RX2 TX2 10, w ∈ wsX9_listeningRooms := by decide +kernel
  have hin_X7 : ∀ w ∈ u_ws RX7 TX7 6, w ∈ wsX9_listeningRooms := by decide +kernel
  have hin_X9 : ∀ w ∈ u_ws RX9 TX9 5, w ∈ wsX9_listeningRooms := by decide +kernel
  have hl := lv_entry ([.ref (X.2.1 16), .int p0, .int p1, .int p2]) (n := 6) (Nat.le_of_ble_eq_true rfl)
  rw [lg_entry_eq]
  generalize (lg_sl ([.ref (X.2.1 16), .int p0, .int p1, .int p2]) ++ List.replicate (6 - (lg_sl ([.ref (X.2.1 16), .int p0, .int p1, .int p2])).length) Slot.unset).toArray = ls at hl ⊢
  have hl : lv_has ls 6 [(0, .ref (X.2.1 16)), (1, .int p0), (2, .int p1), (3, .int p2)] := hl
  refine lv_iconst (v := 0) hx hb dX9_listeningRooms_0 (by decide) ?_
  refine lv_istore (lv' := [(4, .int 0), (0, .ref (X.2.1 16)), (1, .int p0), (2, .int p1), (3, .int p2)]) hx hb dX9_listeningRooms_1 hl (by decide) rfl (fun ls hl => ?_)
  refine lv_iconst (v := 0) hx hb dX9_listeningRooms_3 (by decide) ?_
  refine lv_istore (lv' := [(5, .int 0), (4, .int 0), (0, .ref (X.2.1 16)), (1, .int p0), (2, .int p1), (3, .int p2)]) hx hb dX9_listeningRooms_4 hl (by decide) rfl (fun ls hl => ?_)
  have hLp_6 : ∀ (n : Nat) (x1_6 : Int32) (x2_6 : Int32) (x3_6 : Int32) (x4_6 : Int32) (x5_6 : Int32), s_X9_listeningRooms_L6 n S x1_6 x2_6 x3_6 x4_6 x5_6 → (∀ q : Int32, q = f_X9_listeningRooms_L6 n S x1_6 x2_6 x3_6 x4_6 x5_6 → (∀ (H : Heap) (locs : List Loc), va_P X.1 vwCl (xW X S) H → va_S (xA X) s.heap H locs → ∀ (ls : Array Slot), lv_has ls 6 [(4, .int q)] → W p l e ({ frames := 3, cells := 0, slots := 0, locals := 70 } : Room) s m ([.ref (X.2.1 16), .int p0, .int p1, .int p2] : List Value).toArray below meth c H locs 0 0 (MQ below (va_Qi (fun (r : Int32) (u : xS) => r = (f_X9_listeningRooms S p0 p1 p2) ∧ u = S) (xI X) (xA X)) ([.ref (X.2.1 16), .int p0, .int p1, .int p2] : List Value).toArray s 0 0 (xA X)) (F0 m 71 ls []))) → ∀ (H : Heap) (locs : List Loc), va_P X.1 vwCl (xW X S) H → va_S (xA X) s.heap H locs → ∀ (ls : Array Slot), lv_has ls 6 [(0, .ref (X.2.1 16)), (1, .int x1_6), (2, .int x2_6), (3, .int x3_6), (4, .int x4_6), (5, .int x5_6)] → W p l e ({ frames := 3, cells := 0, slots := 0, locals := 70 } : Room) s m ([.ref (X.2.1 16), .int p0, .int p1, .int p2] : List Value).toArray below meth c H locs 0 0 (MQ below (va_Qi (fun (r : Int32) (u : xS) => r = (f_X9_listeningRooms S p0 p1 p2) ∧ u = S) (xI X) (xA X)) ([.ref (X.2.1 16), .int p0, .int p1, .int p2] : List Value).toArray s 0 0 (xA X)) (F0 m 6 ls []) := by
    intro n
    induction n with
    | zero => intro x1_6 x2_6 x3_6 x4_6 x5_6 hs; exact hs.elim
    | succ n ih_6 =>
      intro x1_6 x2_6 x3_6 x4_6 x5_6 hs_6 hex_6 H locs hP hS ls hl
      refine lv_iload hx hb dX9_listeningRooms_6 (lv_at hl 5 rfl) ?_
      refine lv_aload_n hx hb dX9_listeningRooms_8 rfl (lv_at hl 0 rfl) ?_
      refine xget (ref := "AbsentPraise$Trials") (T := TX9) (v := .ref (X.2.1 9)) hC hP hin_X9 xo_X9 rfl 0 (by decide) (List.mem_of_getElem? (i := 1) rfl) rfl rfl dX9_listeningRooms_9 ?_
      refine xget (ref := "AbsentPraise$Hill") (T := TX2) (v := .int (S 9 5)) hC hP hin_X2 (xo_H (by decide)) rfl 5 (by decide) (List.mem_of_getElem? (i := 2) rfl) rfl rfl dX9_listeningRooms_12 ?_
      refine lv_icmp_ge (tgt := 71) hx hb dX9_listeningRooms_15 (by decide) (fun c_1 => ?_) (fun c_1 => ?_)
      · have he_2 : f_X9_listeningRooms_L6 (n + 1) S x1_6 x2_6 x3_6 x4_6 x5_6 = x4_6 := ((ip c_1 rfl))
        exact hex_6 _ he_2.symm _ _ hP hS ls (lv_sub hl [4] rfl)
      · refine lv_aload_n hx hb dX9_listeningRooms_18 rfl (lv_at hl 0 rfl) ?_
        refine xget (ref := "AbsentPraise$Trials") (T := TX9) (v := .ref (X.2.1 15)) hC hP hin_X9 xo_X9 rfl 2 (by decide) (List.mem_of_getElem? (i := 3) rfl) rfl rfl dX9_listeningRooms_19 ?_
        refine lv_iload_n hx hb dX9_listeningRooms_22 rfl (lv_at hl 1 rfl) ?_
        refine lv_aload_n hx hb dX9_listeningRooms_23 rfl (lv_at hl 0 rfl) ?_
        refine xget (ref := "AbsentPraise$Trials") (T := TX9) (v := .ref (X.2.1 32)) hC hP hin_X9 xo_X9 rfl 1 (by decide) (List.mem_of_getElem? (i := 4) rfl) rfl rfl dX9_listeningRooms_24 ?_
        refine xget (ref := "AbsentPraise$Talk") (T := TX7) (v := .ref (X.2.1 33)) hC hP hin_X7 (xo_T (by decide)) rfl 0 (by decide) (List.mem_of_getElem? (i := 5) rfl) rfl rfl dX9_listeningRooms_27 ?_
        refine lv_iload_n hx hb dX9_listeningRooms_30 rfl (lv_at hl 1 rfl) ?_
        refine xcSN_iR (As := [.ref (X.2.1 33), .int x1_6]) (rest := [.int x1_6, .ref (X.2.1 15)]) hC hP hS (k_X10_at l X S 33 x1_6 rfl) (va_cnB (host := "AbsentPraise") 2 hts gX9_listeningRooms_X10_at_n45 rfl rfl rfl (xn_16 hN) (hts (.initialized RX10) (List.mem_of_getElem? (i := 8) rfl)) hs_X10_at ⟨Nat.le_of_ble_eq_true rfl, Nat.le_of_ble_eq_true rfl⟩) (hts (.static yX10_at) (List.mem_of_getElem? (i := 7) rfl)) rfl rfl hl.1 (Nat.le_of_ble_eq_true rfl) dX9_listeningRooms_31 (fun r_3 hr_3 H locs hP hS => ?_)
        refine lv_iload_n hx hb dX9_listeningRooms_34 rfl (lv_at hl 2 rfl) ?_
        refine lv_iload hx hb dX9_listeningRooms_35 (lv_at hl 5 rfl) ?_
        refine lv_aload_n hx hb dX9_listeningRooms_37 rfl (lv_at hl 0 rfl) ?_
        refine xget (ref := "AbsentPraise$Trials") (T := TX9) (v := .ref (X.2.1 32)) hC hP hin_X9 xo_X9 rfl 1 (by decide) (List.mem_of_getElem? (i := 4) rfl) rfl rfl dX9_listeningRooms_38 ?_
        refine xget (ref := "AbsentPraise$Talk") (T := TX7) (v := .int (S 32 4)) hC hP hin_X7 (xo_T (by decide)) rfl 4 (by decide) (List.mem_of_getElem? (i := 6) rfl) rfl rfl dX9_listeningRooms_41 ?_
        refine lv_iload_n hx hb dX9_listeningRooms_44 rfl (lv_at hl 2 rfl) ?_
        refine xcSN_iR (As := [.int (S 32 4), .int x2_6]) (rest := [.int x5_6, .int x2_6, .int r_3, .int x1_6, .ref (X.2.1 15)]) hC hP hS (k_X10_has l X S (S 32 4) x2_6) (va_cnB (host := "AbsentPraise") 2 hts gX9_listeningRooms_X10_has_n56 rfl rfl rfl (xn_15 hN) (hts (.initialized RX10) (List.mem_of_getElem? (i := 8) rfl)) hs_X10_has ⟨Nat.le_of_ble_eq_true rfl, Nat.le_of_ble_eq_true rfl⟩) (hts (.static yX10_has) (List.mem_of_getElem? (i := 10) rfl)) rfl rfl hl.1 (Nat.le_of_ble_eq_true rfl) dX9_listeningRooms_45 (fun r_4 hp_r_4 H locs hP hS => ?_)
        obtain ⟨hr_4, hzr_4⟩ := hp_r_4
        refine xcV_iR (b := 15) (As := [.int x1_6, .int r_3, .int x2_6, .int x5_6, .int r_4]) (rest := []) hC hP hS (k_X4_says l X S x1_6 r_3 x2_6 x5_6 r_4) (cwV 5 hts gX9_listeningRooms_X4_says rfl rfl rfl hd_X4_says ⟨Nat.le_of_ble_eq_true rfl, Nat.le_of_ble_eq_true rfl⟩) xo_X4 rfl rfl rfl hl.1 (Nat.le_of_ble_eq_true rfl) dX9_listeningRooms_48 (fun r_5 hr_5 H locs hP hS => ?_)
        refine lv_iload_n hx hb dX9_listeningRooms_51 rfl (lv_at hl 3 rfl) ?_
        refine lv_icmp_ne (tgt := 65) hx hb dX9_listeningRooms_52 (by decide) (fun c_6 => ?_) (fun c_6 => ?_)
        · refine lv_iinc (v := (x5_6 + 1)) (lv' := [(5, .int (x5_6 + 1)), (0, .ref (X.2.1 16)), (1, .int x1_6), (2, .int x2_6), (3, .int x3_6), (4, .int x4_6)]) hx hb dX9_listeningRooms_65 hl (k := 5) rfl rfl (by decide) rfl (fun ls hl => ?_)
          refine lv_goto (tgt := 6) hx hb dX9_listeningRooms_68 (by decide) ?_
          have he_7 : f_X9_listeningRooms_L6 (n + 1) S x1_6 x2_6 x3_6 x4_6 x5_6 = f_X9_listeningRooms_L6 n S x1_6 x2_6 x3_6 x4_6 (x5_6 + 1) := (by have hr_3 := hr_3.symm; have hr_4 := hr_4.symm; have hr_5 := hr_5.symm; subst hr_3 hr_4 hr_5; exact (iN c_1 (iN c_6 rfl)))
          exact ih_6 x1_6 x2_6 x3_6 x4_6 (x5_6 + 1) (by have hr_3 := hr_3.symm; have hr_4 := hr_4.symm; have hr_5 := hr_5.symm; subst hr_3 hr_4 hr_5; exact (sn (sn hs_6 c_1) c_6)) (fun q hq => hex_6 q (hq.trans he_7.symm)) _ _ hP hS ls (lv_sub hl [1, 2, 3, 4, 5, 0] rfl)
        · refine lv_iload hx hb dX9_listeningRooms_55 (lv_at hl 4 rfl) ?_
          refine lv_iload hx hb dX9_listeningRooms_57 (lv_at hl 5 rfl) ?_
          refine xcSN_iR (As := [.int x5_6]) (rest := [.int x4_6]) hC hP hS (k_X10_bit l X S x5_6) (va_cnB (host := "AbsentPraise") 1 hts gX9_listeningRooms_X10_bit_n106 rfl rfl rfl (xn_14 hN) (hts (.initialized RX10) (List.mem_of_getElem? (i := 8) rfl)) hs_X10_bit ⟨Nat.le_of_ble_eq_true rfl, Nat.le_of_ble_eq_true rfl⟩) (hts (.static yX10_bit) (List.mem_of_getElem? (i := 30) rfl)) rfl rfl hl.1 (Nat.le_of_ble_eq_true rfl) dX9_listeningRooms_59 (fun r_8 hr_8 H locs hP hS => ?_)
          refine lv_ior hx hb dX9_listeningRooms_62 ?_
          refine lv_istore (lv' := [(4, .int (x4_6 ||| r_8)), (0, .ref (X.2.1 16)), (1, .int x1_6), (2, .int x2_6), (3, .int x3_6), (5, .int x5_6)]) hx hb dX9_listeningRooms_63 hl (by decide) rfl (fun ls hl => ?_)
          refine lv_iinc (v := (x5_6 + 1)) (lv' := [(5, .int (x5_6 + 1)), (4, .int (x4_6 ||| r_8)), (0, .ref (X.2.1 16)), (1, .int x1_6), (2, .int x2_6), (3, .int x3_6)]) hx hb dX9_listeningRooms_65 hl (k := 5) rfl rfl (by decide) rfl (fun ls hl => ?_)
          refine lv_goto (tgt := 6) hx hb dX9_listeningRooms_68 (by decide) ?_
          have he_9 : f_X9_listeningRooms_L6 (n + 1) S x1_6 x2_6 x3_6 x4_6 x5_6 = f_X9_listeningRooms_L6 n S x1_6 x2_6 x3_6 (x4_6 ||| r_8) (x5_6 + 1) := (by have hr_3 := hr_3.symm; have hr_4 := hr_4.symm; have hr_5 := hr_5.symm; have hr_8 := hr_8.symm; subst hr_3 hr_4 hr_5 hr_8; exact (iN c_1 (ip c_6 rfl)))
          exact ih_6 x1_6 x2_6 x3_6 (x4_6 ||| r_8) (x5_6 + 1) (by have hr_3 := hr_3.symm; have hr_4 := hr_4.symm; have hr_5 := hr_5.symm; have hr_8 := hr_8.symm; subst hr_3 hr_4 hr_5 hr_8; exact (sp (sn hs_6 c_1) c_6)) (fun q hq => hex_6 q (hq.trans he_9.symm)) _ _ hP hS ls (lv_sub hl [2, 3, 4, 5, 1, 0] rfl)
  refine hLp_6 ((fu 0 (S 9 5))) p0 p1 p2 0 0 (nl hs) (fun q_6 hq_6 H locs hP hS ls hl => ?_) _ _ hP hS ls (lv_sub hl [2, 3, 4, 5, 1, 0] rfl)
  refine lv_iload hx hb dX9_listeningRooms_71 (lv_at hl 0 rfl) ?_
  exact xret_iR hC hP hS hb hr ((by have hq_6 := hq_6.symm; subst hq_6; exact rfl)) dX9_listeningRooms_73 hlocks
theorem hd_X10_feed : yX10_feed.cls = RX10 ∧ yX10_feed.cls ≠ "java/lang/invoke/MethodHandle" ∧ yX10_feed.cls ≠ "java/lang/invoke/VarHandle" ∧ (parseMethodDescriptor yX10_feed.desc).map (fun d => d.parameters.length) = some 1 := by decide +kernel
set_option maxHeartbeats 4000000 in
set_option maxRecDepth 100000 in
theorem k_X10_feed (l : Launch) (X : xX) (S : xS) (p0 : Int32) : Met l yX10_feed wsX10_feed ({ frames := 2, cells := 0, slots := 0, locals := 43 } : Room) (va_Pc [.ref (X.2.1 0), .int p0] (xI X S)) (va_Qi (fun (r : Int32) (u : xS) => r = (f_X10_feed S p0).1 ∧ u = (f_X10_feed S p0).2) (xI X) (xA X)) 0 0 (xA X) := by
  refine Met.ofW (cc := cX10_feed) (maxL := 2) (ret := (some .int)) (by decide +kernel) rfl ?_
  intro p e s m args below meth c s₁ B hml hv
  obtain ⟨rfl, hP, hK, hN, hJ⟩ := hv
  have hx := B.exec
  have hb := B.bytes
  have hr := B.returns
  have hts := atoms_spec (ws := wsX10_feed) B.pre
  have hown : s.vm.findClass RX10 = some m.cls := findClass_of_methodNamed B.named
  have hlocks := B.notSynchronized
  have hC : xC X p m c cX10_feed 2 s _ wsX10_feed RX10 := ⟨⟨hx, hb, hml, hown, hts⟩, hK, hN, hJ⟩
  have hS : va_S (xA X) s.heap s.heap [] := va_S.rf
  have hin_X10 : ∀ w ∈ u_ws RX10 TX10 10, w ∈ wsX10_feed := by decide +kernel
  have hin_X8 : ∀ w ∈ u_ws RX8 TX8 8, w ∈ wsX10_feed := by decide +kernel
  have hl := lv_entry ([.ref (X.2.1 0), .int p0]) (n := 2) (Nat.le_of_ble_eq_true rfl)
  rw [lg_entry_eq]
  generalize (lg_sl ([.ref (X.2.1 0), .int p0]) ++ List.replicate (2 - (lg_sl ([.ref (X.2.1 0), .int p0])).length) Slot.unset).toArray = ls at hl ⊢
  have hl : lv_has ls 2 [(0, .ref (X.2.1 0)), (1, .int p0)] := hl
  refine lv_iload_n hx hb dX10_feed_0 rfl (lv_at hl 1 rfl) ?_
  refine lv_iconst (v := 0) hx hb dX10_feed_1 (by decide) ?_
  refine lv_sipush (v := 255) hx hb dX10_feed_2 (by decide) ?_
  refine xcS_iR (As := [.int p0, .int 0, .int 255]) (rest := []) hC hP hS (k_X10_within l X S p0 0 255) (va_cwS 3 hts gX10_feed_X10_within rfl rfl rfl hs_X10_within ⟨Nat.le_of_ble_eq_true rfl, Nat.le_of_ble_eq_true rfl⟩) rfl rfl hl.1 (Nat.le_of_ble_eq_true rfl) dX10_feed_5 (fun r_1 hp_r_1 H locs hP hS => ?_)
  obtain ⟨hr_1, hzr_1⟩ := hp_r_1
  refine lv_if_ne (tgt := 14) hx hb dX10_feed_8 (by decide) (fun c_2 => ?_) (fun c_2 => ?_)
  · refine lv_aload_n hx hb dX10_feed_14 rfl (lv_at hl 0 rfl) ?_
    refine xget (ref := "AbsentPraise") (T := TX10) (v := .ref (X.2.1 1)) hC hP hin_X10 xo_X10 rfl 0 (by decide) (List.mem_of_getElem? (i := 2) rfl) rfl rfl dX10_feed_15 ?_
    refine xget (ref := "AbsentPraise$Telling") (T := TX8) (v := .int (S 1 2)) hC hP hin_X8 xo_X8 rfl 2 (by decide) (List.mem_of_getElem? (i := 3) rfl) rfl rfl dX10_feed_18 ?_
    refine lv_sipush (v := 240) hx hb dX10_feed_21 (by decide) ?_
    refine lv_icmp_lt (tgt := 30) hx hb dX10_feed_24 (by decide) (fun c_3 => ?_) (fun c_3 => ?_)
    · refine lv_aload_n hx hb dX10_feed_30 rfl (lv_at hl 0 rfl) ?_
      refine xget (ref := "AbsentPraise") (T := TX10) (v := .ref (X.2.1 1)) hC hP hin_X10 xo_X10 rfl 0 (by decide) (List.mem_of_getElem? (i := 2) rfl) rfl rfl dX10_feed_31 ?_
      refine lv_iload_n hx hb dX10_feed_34 rfl (lv_at hl 1 rfl) ?_
      refine xcV_iW (b := 1) (As := [.int p0]) (rest := []) hC hP hS (k_X8_add l X S p0) (cwV 1 hts gX10_feed_X8_add rfl rfl rfl hd_X8_add ⟨Nat.le_of_ble_eq_true rfl, Nat.le_of_ble_eq_true rfl⟩) xo_X8 rfl rfl rfl hl.1 (Nat.le_of_ble_eq_true rfl) dX10_feed_35 (fun r_4 S_5 hp_r_4 H locs hP hS => ?_)
      obtain ⟨hr_4, hS_5⟩ := hp_r_4
      exact xret_iW hC hP hS hb hr ((by have hr_1 := hr_1.symm; have hr_4 := hr_4.symm; have hS_5 := hS_5.symm; subst hr_1 hr_4 hS_5; exact (iN c_2 (ip c_3 rfl)))) dX10_feed_38 hlocks
    · refine lv_ldc (v := (-1000000004)) hx hb hown (hts (.constant RX10 92 (-1000000004)) (List.mem_of_getElem? (i := 4) rfl)) dX10_feed_27 ?_
      exact xret_iW hC hP hS hb hr ((by have hr_1 := hr_1.symm; subst hr_1; exact (iN c_2 (iN c_3 rfl)))) dX10_feed_29 hlocks
  · refine lv_ldc (v := (-1000000002)) hx hb hown (hts (.constant RX10 87 (-1000000002)) (List.mem_of_getElem? (i := 1) rfl)) dX10_feed_11 ?_
    exact xret_iW hC hP hS hb hr ((by have hr_1 := hr_1.symm; subst hr_1; exact (ip c_2 rfl))) dX10_feed_13 hlocks
