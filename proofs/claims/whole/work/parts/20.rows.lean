set_option linter.all false
/-! contracts: X9_saidOf, X9_praised, X9_isSilent, X9_silentPairs, X9_silentPair, X9_covers -/
theorem hd_X9_saidOf : yX9_saidOf.cls = RX9 ∧ yX9_saidOf.cls ≠ "java/lang/invoke/MethodHandle" ∧ yX9_saidOf.cls ≠ "java/lang/invoke/VarHandle" ∧ (parseMethodDescriptor yX9_saidOf.desc).map (fun d => d.parameters.length) = some 1 := by decide +kernel
set_option maxHeartbeats 4000000 in
set_option maxRecDepth 100000 in
theorem k_X9_saidOf (l : Launch) (X : xX) (S : xS) (p0 : Int32) (hs : s_X9_saidOf S p0) : Met l yX9_saidOf wsX9_saidOf ({ frames := 4, cells := 0, slots := 0, locals := 92 } : Room) (va_Pc [.ref (X.2.1 16), .int p0] (xI X S)) (va_Qi (fun (r : Int32) (u : xS) => r = (f_X9_saidOf S p0) ∧ u = S) (xI X) (xA X)) 0 0 (xA X) := by
  refine Met.ofW (cc := cX9_saidOf) (maxL := 4) (ret := (some .int)) (by decide +kernel) rfl ?_
  intro p e s m args below meth c s₁ B hml hv
  obtain ⟨rfl, hP, hK, hN, hJ⟩ := hv
  have hx := B.exec
  have hb := B.bytes
  have hr := B.returns
  have hts := atoms_spec (ws := wsX9_saidOf) B.pre
  have hown : s.vm.findClass RX9 = some m.cls := findClass_of_methodNamed B.named
  have hlocks := B.notSynchronized
  have hC : xC X p m c cX9_saidOf 4 s _ wsX9_saidOf RX9 := ⟨⟨hx, hb, hml, hown, hts⟩, hK, hN, hJ⟩
  have hS : va_S (xA X) s.heap s.heap [] := va_S.rf
  have hin_X2 : ∀ w ∈ u_ws RX2 TX2 10, w ∈ wsX9_saidOf := by decide +kernel
  have hin_X9 : ∀ w ∈ u_ws RX9 TX9 5, w ∈ wsX9_saidOf := by decide +kernel
  have hl := lv_entry ([.ref (X.2.1 16), .int p0]) (n := 4) (Nat.le_of_ble_eq_true rfl)
  rw [lg_entry_eq]
  generalize (lg_sl ([.ref (X.2.1 16), .int p0]) ++ List.replicate (4 - (lg_sl ([.ref (X.2.1 16), .int p0])).length) Slot.unset).toArray = ls at hl ⊢
  have hl : lv_has ls 4 [(0, .ref (X.2.1 16)), (1, .int p0)] := hl
  refine lv_iconst (v := 0) hx hb dX9_saidOf_0 (by decide) ?_
  refine lv_istore_n (lv' := [(2, .int 0), (0, .ref (X.2.1 16)), (1, .int p0)]) hx hb dX9_saidOf_1 rfl hl (by decide) rfl (fun ls hl => ?_)
  refine lv_iconst (v := 0) hx hb dX9_saidOf_2 (by decide) ?_
  refine lv_istore_n (lv' := [(3, .int 0), (2, .int 0), (0, .ref (X.2.1 16)), (1, .int p0)]) hx hb dX9_saidOf_3 rfl hl (by decide) rfl (fun ls hl => ?_)
  have hLp_4 : ∀ (n : Nat) (x1_4 : Int32) (x2_4 : Int32) (x3_4 : Int32), s_X9_saidOf_L4 n S x1_4 x2_4 x3_4 → (∀ q : Int32, q = f_X9_saidOf_L4 n S x1_4 x2_4 x3_4 → (∀ (H : Heap) (locs : List Loc), va_P X.1 vwCl (xW X S) H → va_S (xA X) s.heap H locs → ∀ (ls : Array Slot), lv_has ls 4 [(2, .int q)] → W p l e ({ frames := 4, cells := 0, slots := 0, locals := 92 } : Room) s m ([.ref (X.2.1 16), .int p0] : List Value).toArray below meth c H locs 0 0 (MQ below (va_Qi (fun (r : Int32) (u : xS) => r = (f_X9_saidOf S p0) ∧ u = S) (xI X) (xA X)) ([.ref (X.2.1 16), .int p0] : List Value).toArray s 0 0 (xA X)) (F0 m 38 ls []))) → ∀ (H : Heap) (locs : List Loc), va_P X.1 vwCl (xW X S) H → va_S (xA X) s.heap H locs → ∀ (ls : Array Slot), lv_has ls 4 [(0, .ref (X.2.1 16)), (1, .int x1_4), (2, .int x2_4), (3, .int x3_4)] → W p l e ({ frames := 4, cells := 0, slots := 0, locals := 92 } : Room) s m ([.ref (X.2.1 16), .int p0] : List Value).toArray below meth c H locs 0 0 (MQ below (va_Qi (fun (r : Int32) (u : xS) => r = (f_X9_saidOf S p0) ∧ u = S) (xI X) (xA X)) ([.ref (X.2.1 16), .int p0] : List Value).toArray s 0 0 (xA X)) (F0 m 4 ls []) := by
    intro n
    induction n with
    | zero => intro x1_4 x2_4 x3_4 hs; exact hs.elim
    | succ n ih_4 =>
      intro x1_4 x2_4 x3_4 hs_4 hex_4 H locs hP hS ls hl
      refine lv_iload_n hx hb dX9_saidOf_4 rfl (lv_at hl 3 rfl) ?_
      refine lv_aload_n hx hb dX9_saidOf_5 rfl (lv_at hl 0 rfl) ?_
      refine xget (ref := "AbsentPraise$Trials") (T := TX9) (v := .ref (X.2.1 9)) hC hP hin_X9 xo_X9 rfl 0 (by decide) (List.mem_of_getElem? (i := 1) rfl) rfl rfl dX9_saidOf_6 ?_
      refine xget (ref := "AbsentPraise$Hill") (T := TX2) (v := .int (S 9 9)) hC hP hin_X2 (xo_H (by decide)) rfl 9 (by decide) (List.mem_of_getElem? (i := 2) rfl) rfl rfl dX9_saidOf_9 ?_
      refine lv_icmp_ge (tgt := 38) hx hb dX9_saidOf_12 (by decide) (fun c_1 => ?_) (fun c_1 => ?_)
      · have he_2 : f_X9_saidOf_L4 (n + 1) S x1_4 x2_4 x3_4 = x2_4 := ((ip c_1 rfl))
        exact hex_4 _ he_2.symm _ _ hP hS ls (lv_sub hl [2] rfl)
      · refine lv_iload_n hx hb dX9_saidOf_15 rfl (lv_at hl 3 rfl) ?_
        refine lv_iload_n hx hb dX9_saidOf_16 rfl (lv_at hl 1 rfl) ?_
        refine lv_icmp_eq (tgt := 32) hx hb dX9_saidOf_17 (by decide) (fun c_3 => ?_) (fun c_3 => ?_)
        · refine lv_iinc (v := (x3_4 + 1)) (lv' := [(3, .int (x3_4 + 1)), (0, .ref (X.2.1 16)), (1, .int x1_4), (2, .int x2_4)]) hx hb dX9_saidOf_32 hl (k := 3) rfl rfl (by decide) rfl (fun ls hl => ?_)
          refine lv_goto (tgt := 4) hx hb dX9_saidOf_35 (by decide) ?_
          have he_4 : f_X9_saidOf_L4 (n + 1) S x1_4 x2_4 x3_4 = f_X9_saidOf_L4 n S x1_4 x2_4 (x3_4 + 1) := ((iN c_1 (ip c_3 rfl)))
          exact ih_4 x1_4 x2_4 (x3_4 + 1) ((sp (sn hs_4 c_1) c_3)) (fun q hq => hex_4 q (hq.trans he_4.symm)) _ _ hP hS ls (lv_sub hl [1, 2, 3, 0] rfl)
        · refine lv_iload_n hx hb dX9_saidOf_20 rfl (lv_at hl 2 rfl) ?_
          refine lv_aload_n hx hb dX9_saidOf_21 rfl (lv_at hl 0 rfl) ?_
          refine xget (ref := "AbsentPraise$Trials") (T := TX9) (v := .ref (X.2.1 15)) hC hP hin_X9 xo_X9 rfl 2 (by decide) (List.mem_of_getElem? (i := 3) rfl) rfl rfl dX9_saidOf_22 ?_
          refine lv_iload_n hx hb dX9_saidOf_25 rfl (lv_at hl 3 rfl) ?_
          refine lv_iload_n hx hb dX9_saidOf_26 rfl (lv_at hl 1 rfl) ?_
          refine xcV_iR (b := 15) (As := [.int x3_4, .int x1_4]) (rest := [.int x2_4]) hC hP hS (k_X4_saysNow l X S x3_4 x1_4) (cwV 2 hts gX9_saidOf_X4_saysNow rfl rfl rfl hd_X4_saysNow ⟨Nat.le_of_ble_eq_true rfl, Nat.le_of_ble_eq_true rfl⟩) xo_X4 rfl rfl rfl hl.1 (Nat.le_of_ble_eq_true rfl) dX9_saidOf_27 (fun r_5 hr_5 H locs hP hS => ?_)
          refine lv_iadd hx hb dX9_saidOf_30 ?_
          refine lv_istore_n (lv' := [(2, .int (x2_4 + r_5)), (0, .ref (X.2.1 16)), (1, .int x1_4), (3, .int x3_4)]) hx hb dX9_saidOf_31 rfl hl (by decide) rfl (fun ls hl => ?_)
          refine lv_iinc (v := (x3_4 + 1)) (lv' := [(3, .int (x3_4 + 1)), (2, .int (x2_4 + r_5)), (0, .ref (X.2.1 16)), (1, .int x1_4)]) hx hb dX9_saidOf_32 hl (k := 3) rfl rfl (by decide) rfl (fun ls hl => ?_)
          refine lv_goto (tgt := 4) hx hb dX9_saidOf_35 (by decide) ?_
          have he_6 : f_X9_saidOf_L4 (n + 1) S x1_4 x2_4 x3_4 = f_X9_saidOf_L4 n S x1_4 (x2_4 + r_5) (x3_4 + 1) := (by have hr_5 := hr_5.symm; subst hr_5; exact (iN c_1 (iN c_3 rfl)))
          exact ih_4 x1_4 (x2_4 + r_5) (x3_4 + 1) (by have hr_5 := hr_5.symm; subst hr_5; exact (sn (sn hs_4 c_1) c_3)) (fun q hq => hex_4 q (hq.trans he_6.symm)) _ _ hP hS ls (lv_sub hl [2, 3, 1, 0] rfl)
  refine hLp_4 ((fu 0 (S 9 9))) p0 0 0 (nl hs) (fun q_4 hq_4 H locs hP hS ls hl => ?_) _ _ hP hS ls (lv_sub hl [2, 3, 1, 0] rfl)
  refine lv_iload_n hx hb dX9_saidOf_38 rfl (lv_at hl 0 rfl) ?_
  exact xret_iR hC hP hS hb hr ((by have hq_4 := hq_4.symm; subst hq_4; exact rfl)) dX9_saidOf_39 hlocks
theorem hd_X9_praised : yX9_praised.cls = RX9 ∧ yX9_praised.cls ≠ "java/lang/invoke/MethodHandle" ∧ yX9_praised.cls ≠ "java/lang/invoke/VarHandle" ∧ (parseMethodDescriptor yX9_praised.desc).map (fun d => d.parameters.length) = some 0 := by decide +kernel
set_option maxHeartbeats 4000000 in
set_option maxRecDepth 100000 in
theorem k_X9_praised (l : Launch) (X : xX) (S : xS) (hs : s_X9_praised S) : Met l yX9_praised wsX9_praised ({ frames := 5, cells := 0, slots := 0, locals := 115 } : Room) (va_Pc [.ref (X.2.1 16)] (xI X S)) (va_Qi (fun (r : Int32) (u : xS) => r = (f_X9_praised S) ∧ u = S) (xI X) (xA X)) 0 0 (xA X) := by
  refine Met.ofW (cc := cX9_praised) (maxL := 5) (ret := (some .int)) (by decide +kernel) rfl ?_
  intro p e s m args below meth c s₁ B hml hv
  obtain ⟨rfl, hP, hK, hN, hJ⟩ := hv
  have hx := B.exec
  have hb := B.bytes
  have hr := B.returns
  have hts := atoms_spec (ws := wsX9_praised) B.pre
  have hown : s.vm.findClass RX9 = some m.cls := findClass_of_methodNamed B.named
  have hlocks := B.notSynchronized
  have hC : xC X p m c cX9_praised 5 s _ wsX9_praised RX9 := ⟨⟨hx, hb, hml, hown, hts⟩, hK, hN, hJ⟩
  have hS : va_S (xA X) s.heap s.heap [] := va_S.rf
  have hin_X2 : ∀ w ∈ u_ws RX2 TX2 10, w ∈ wsX9_praised := by decide +kernel
  have hin_X9 : ∀ w ∈ u_ws RX9 TX9 5, w ∈ wsX9_praised := by decide +kernel
  have hl := lv_entry ([.ref (X.2.1 16)]) (n := 5) (Nat.le_of_ble_eq_true rfl)
  rw [lg_entry_eq]
  generalize (lg_sl ([.ref (X.2.1 16)]) ++ List.replicate (5 - (lg_sl ([.ref (X.2.1 16)])).length) Slot.unset).toArray = ls at hl ⊢
  have hl : lv_has ls 5 [(0, .ref (X.2.1 16))] := hl
  refine lv_iconst (v := (-1)) hx hb dX9_praised_0 (by decide) ?_
  refine lv_istore_n (lv' := [(1, .int (-1)), (0, .ref (X.2.1 16))]) hx hb dX9_praised_1 rfl hl (by decide) rfl (fun ls hl => ?_)
  refine lv_iconst (v := 0) hx hb dX9_praised_2 (by decide) ?_
  refine lv_istore_n (lv' := [(2, .int 0), (1, .int (-1)), (0, .ref (X.2.1 16))]) hx hb dX9_praised_3 rfl hl (by decide) rfl (fun ls hl => ?_)
  refine lv_iconst (v := 0) hx hb dX9_praised_4 (by decide) ?_
  refine lv_istore_n (lv' := [(3, .int 0), (2, .int 0), (1, .int (-1)), (0, .ref (X.2.1 16))]) hx hb dX9_praised_5 rfl hl (by decide) rfl (fun ls hl => ?_)
  have hLp_6 : ∀ (n : Nat) (x1_6 : Int32) (x2_6 : Int32) (x3_6 : Int32), s_X9_praised_L6 n S x1_6 x2_6 x3_6 → (∀ q : Int32, q = f_X9_praised_L6 n S x1_6 x2_6 x3_6 → (∀ (H : Heap) (locs : List Loc), va_P X.1 vwCl (xW X S) H → va_S (xA X) s.heap H locs → ∀ (ls : Array Slot), lv_has ls 5 [(1, .int q)] → W p l e ({ frames := 5, cells := 0, slots := 0, locals := 115 } : Room) s m ([.ref (X.2.1 16)] : List Value).toArray below meth c H locs 0 0 (MQ below (va_Qi (fun (r : Int32) (u : xS) => r = (f_X9_praised S) ∧ u = S) (xI X) (xA X)) ([.ref (X.2.1 16)] : List Value).toArray s 0 0 (xA X)) (F0 m 46 ls []))) → ∀ (H : Heap) (locs : List Loc), va_P X.1 vwCl (xW X S) H → va_S (xA X) s.heap H locs → ∀ (ls : Array Slot), lv_has ls 5 [(0, .ref (X.2.1 16)), (1, .int x1_6), (2, .int x2_6), (3, .int x3_6)] → W p l e ({ frames := 5, cells := 0, slots := 0, locals := 115 } : Room) s m ([.ref (X.2.1 16)] : List Value).toArray below meth c H locs 0 0 (MQ below (va_Qi (fun (r : Int32) (u : xS) => r = (f_X9_praised S) ∧ u = S) (xI X) (xA X)) ([.ref (X.2.1 16)] : List Value).toArray s 0 0 (xA X)) (F0 m 6 ls []) := by
    intro n
    induction n with
    | zero => intro x1_6 x2_6 x3_6 hs; exact hs.elim
    | succ n ih_6 =>
      intro x1_6 x2_6 x3_6 hs_6 hex_6 H locs hP hS ls hl
      refine lv_iload_n hx hb dX9_praised_6 rfl (lv_at hl 3 rfl) ?_
      refine lv_aload_n hx hb dX9_praised_7 rfl (lv_at hl 0 rfl) ?_
      refine xget (ref := "AbsentPraise$Trials") (T := TX9) (v := .ref (X.2.1 9)) hC hP hin_X9 xo_X9 rfl 0 (by decide) (List.mem_of_getElem? (i := 1) rfl) rfl rfl dX9_praised_8 ?_
      refine xget (ref := "AbsentPraise$Hill") (T := TX2) (v := .int (S 9 9)) hC hP hin_X2 (xo_H (by decide)) rfl 9 (by decide) (List.mem_of_getElem? (i := 2) rfl) rfl rfl dX9_praised_11 ?_
      refine lv_icmp_ge (tgt := 46) hx hb dX9_praised_14 (by decide) (fun c_1 => ?_) (fun c_1 => ?_)
      · have he_2 : f_X9_praised_L6 (n + 1) S x1_6 x2_6 x3_6 = x1_6 := ((ip c_1 rfl))
        exact hex_6 _ he_2.symm _ _ hP hS ls (lv_sub hl [1] rfl)
      · refine lv_aload_n hx hb dX9_praised_17 rfl (lv_at hl 0 rfl) ?_
        refine lv_iload_n hx hb dX9_praised_18 rfl (lv_at hl 3 rfl) ?_
        have hn_3 : s_X9_saidOf S x3_6 := (nl (sn hs_6 c_1))
        refine xcV_iR (b := 16) (As := [.int x3_6]) (rest := []) hC hP hS (k_X9_saidOf l X S x3_6 hn_3) (cwV 1 hts gX9_praised_X9_saidOf rfl rfl rfl hd_X9_saidOf ⟨Nat.le_of_ble_eq_true rfl, Nat.le_of_ble_eq_true rfl⟩) xo_X9 rfl rfl rfl hl.1 (Nat.le_of_ble_eq_true rfl) dX9_praised_19 (fun r_4 hr_4 H locs hP hS => ?_)
        refine lv_istore (lv' := [(4, .int r_4), (0, .ref (X.2.1 16)), (1, .int x1_6), (2, .int x2_6), (3, .int x3_6)]) hx hb dX9_praised_22 hl (by decide) rfl (fun ls hl => ?_)
        refine lv_iload_n hx hb dX9_praised_24 rfl (lv_at hl 2 rfl) ?_
        refine lv_iconst (v := (-1)) hx hb dX9_praised_25 (by decide) ?_
        refine lv_icmp_eq (tgt := 35) hx hb dX9_praised_26 (by decide) (fun c_5 => ?_) (fun c_5 => ?_)
        · refine lv_iload hx hb dX9_praised_35 (lv_at hl 0 rfl) ?_
          refine lv_istore_n (lv' := [(2, .int r_4), (4, .int r_4), (0, .ref (X.2.1 16)), (1, .int x1_6), (3, .int x3_6)]) hx hb dX9_praised_37 rfl hl (by decide) rfl (fun ls hl => ?_)
          refine lv_iload_n hx hb dX9_praised_38 rfl (lv_at hl 4 rfl) ?_
          refine lv_istore_n (lv' := [(1, .int x3_6), (2, .int r_4), (4, .int r_4), (0, .ref (X.2.1 16)), (3, .int x3_6)]) hx hb dX9_praised_39 rfl hl (by decide) rfl (fun ls hl => ?_)
          refine lv_iinc (v := (x3_6 + 1)) (lv' := [(3, .int (x3_6 + 1)), (1, .int x3_6), (2, .int r_4), (4, .int r_4), (0, .ref (X.2.1 16))]) hx hb dX9_praised_40 hl (k := 4) rfl rfl (by decide) rfl (fun ls hl => ?_)
          refine lv_goto (tgt := 6) hx hb dX9_praised_43 (by decide) ?_
          have he_6 : f_X9_praised_L6 (n + 1) S x1_6 x2_6 x3_6 = f_X9_praised_L6 n S x3_6 r_4 (x3_6 + 1) := (by have hr_4 := hr_4.symm; subst hr_4; exact (iN c_1 (ip c_5 rfl)))
          exact ih_6 x3_6 r_4 (x3_6 + 1) (by have hr_4 := hr_4.symm; subst hr_4; exact (sp (nr (sn hs_6 c_1)) c_5)) (fun q hq => hex_6 q (hq.trans he_6.symm)) _ _ hP hS ls (lv_sub hl [4, 1, 2, 0] rfl)
        · refine lv_iload hx hb dX9_praised_29 (lv_at hl 0 rfl) ?_
          refine lv_iload_n hx hb dX9_praised_31 rfl (lv_at hl 3 rfl) ?_
          refine lv_icmp_le (tgt := 40) hx hb dX9_praised_32 (by decide) (fun c_7 => ?_) (fun c_7 => ?_)
          · refine lv_iinc (v := (x3_6 + 1)) (lv' := [(3, .int (x3_6 + 1)), (4, .int r_4), (0, .ref (X.2.1 16)), (1, .int x1_6), (2, .int x2_6)]) hx hb dX9_praised_40 hl (k := 4) rfl rfl (by decide) rfl (fun ls hl => ?_)
            refine lv_goto (tgt := 6) hx hb dX9_praised_43 (by decide) ?_
            have he_8 : f_X9_praised_L6 (n + 1) S x1_6 x2_6 x3_6 = f_X9_praised_L6 n S x1_6 x2_6 (x3_6 + 1) := (by have hr_4 := hr_4.symm; subst hr_4; exact (iN c_1 (iN c_5 (ip c_7 rfl))))
            exact ih_6 x1_6 x2_6 (x3_6 + 1) (by have hr_4 := hr_4.symm; subst hr_4; exact (sp (sn (nr (sn hs_6 c_1)) c_5) c_7)) (fun q hq => hex_6 q (hq.trans he_8.symm)) _ _ hP hS ls (lv_sub hl [2, 3, 4, 0] rfl)
          · refine lv_iload hx hb dX9_praised_35 (lv_at hl 0 rfl) ?_
            refine lv_istore_n (lv' := [(2, .int r_4), (4, .int r_4), (0, .ref (X.2.1 16)), (1, .int x1_6), (3, .int x3_6)]) hx hb dX9_praised_37 rfl hl (by decide) rfl (fun ls hl => ?_)
            refine lv_iload_n hx hb dX9_praised_38 rfl (lv_at hl 4 rfl) ?_
            refine lv_istore_n (lv' := [(1, .int x3_6), (2, .int r_4), (4, .int r_4), (0, .ref (X.2.1 16)), (3, .int x3_6)]) hx hb dX9_praised_39 rfl hl (by decide) rfl (fun ls hl => ?_)
            refine lv_iinc (v := (x3_6 + 1)) (lv' := [(3, .int (x3_6 + 1)), (1, .int x3_6), (2, .int r_4), (4, .int r_4), (0, .ref (X.2.1 16))]) hx hb dX9_praised_40 hl (k := 4) rfl rfl (by decide) rfl (fun ls hl => ?_)
            refine lv_goto (tgt := 6) hx hb dX9_praised_43 (by decide) ?_
            have he_9 : f_X9_praised_L6 (n + 1) S x1_6 x2_6 x3_6 = f_X9_praised_L6 n S x3_6 r_4 (x3_6 + 1) := (by have hr_4 := hr_4.symm; subst hr_4; exact (iN c_1 (iN c_5 (iN c_7 rfl))))
            exact ih_6 x3_6 r_4 (x3_6 + 1) (by have hr_4 := hr_4.symm; subst hr_4; exact (sn (sn (nr (sn hs_6 c_1)) c_5) c_7)) (fun q hq => hex_6 q (hq.trans he_9.symm)) _ _ hP hS ls (lv_sub hl [4, 1, 2, 0] rfl)
  refine hLp_6 ((fu 0 (S 9 9))) (-1) 0 0 (nl hs) (fun q_6 hq_6 H locs hP hS ls hl => ?_) _ _ hP hS ls (lv_sub hl [3, 2, 1, 0] rfl)
  refine lv_iload_n hx hb dX9_praised_46 rfl (lv_at hl 0 rfl) ?_
  exact xret_iR hC hP hS hb hr ((by have hq_6 := hq_6.symm; subst hq_6; exact rfl)) dX9_praised_47 hlocks
theorem hd_X9_isSilent : yX9_isSilent.cls = RX9 ∧ yX9_isSilent.cls ≠ "java/lang/invoke/MethodHandle" ∧ yX9_isSilent.cls ≠ "java/lang/invoke/VarHandle" ∧ (parseMethodDescriptor yX9_isSilent.desc).map (fun d => d.parameters.length) = some 2 := by decide +kernel
set_option maxHeartbeats 4000000 in
set_option maxRecDepth 100000 in
theorem k_X9_isSilent (l : Launch) (X : xX) (S : xS) (p0 : Int32) (p1 : Int32) : Met l yX9_isSilent wsX9_isSilent ({ frames := 4, cells := 0, slots := 0, locals := 92 } : Room) (va_Pc [.ref (X.2.1 16), .int p0, .int p1] (xI X S)) (va_Qi (fun (r : Int32) (u : xS) => (r = (f_X9_isSilent S p0 p1) ∧ (r = 0 ∨ r = 1)) ∧ u = S) (xI X) (xA X)) 0 0 (xA X) := by
  refine Met.ofW (cc := cX9_isSilent) (maxL := 3) (ret := (some .boolean)) (by decide +kernel) rfl ?_
  intro p e s m args below meth c s₁ B hml hv
  obtain ⟨rfl, hP, hK, hN, hJ⟩ := hv
  have hx := B.exec
  have hb := B.bytes
  have hr := B.returns
  have hts := atoms_spec (ws := wsX9_isSilent) B.pre
  have hown : s.vm.findClass RX9 = some m.cls := findClass_of_methodNamed B.named
  have hlocks := B.notSynchronized
  have hC : xC X p m c cX9_isSilent 3 s _ wsX9_isSilent RX9 := ⟨⟨hx, hb, hml, hown, hts⟩, hK, hN, hJ⟩
  have hS : va_S (xA X) s.heap s.heap [] := va_S.rf
  have hin_X9 : ∀ w ∈ u_ws RX9 TX9 5, w ∈ wsX9_isSilent := by decide +kernel
  have hl := lv_entry ([.ref (X.2.1 16), .int p0, .int p1]) (n := 3) (Nat.le_of_ble_eq_true rfl)
  rw [lg_entry_eq]
  generalize (lg_sl ([.ref (X.2.1 16), .int p0, .int p1]) ++ List.replicate (3 - (lg_sl ([.ref (X.2.1 16), .int p0, .int p1])).length) Slot.unset).toArray = ls at hl ⊢
  have hl : lv_has ls 3 [(0, .ref (X.2.1 16)), (1, .int p0), (2, .int p1)] := hl
  refine lv_aload_n hx hb dX9_isSilent_0 rfl (lv_at hl 0 rfl) ?_
  refine xget (ref := "AbsentPraise$Trials") (T := TX9) (v := .ref (X.2.1 15)) hC hP hin_X9 xo_X9 rfl 2 (by decide) (List.mem_of_getElem? (i := 1) rfl) rfl rfl dX9_isSilent_1 ?_
  refine lv_iload_n hx hb dX9_isSilent_4 rfl (lv_at hl 1 rfl) ?_
  refine lv_iload_n hx hb dX9_isSilent_5 rfl (lv_at hl 2 rfl) ?_
  refine xcV_iR (b := 15) (As := [.int p0, .int p1]) (rest := []) hC hP hS (k_X4_saysNow l X S p0 p1) (cwV 2 hts gX9_isSilent_X4_saysNow rfl rfl rfl hd_X4_saysNow ⟨Nat.le_of_ble_eq_true rfl, Nat.le_of_ble_eq_true rfl⟩) xo_X4 rfl rfl rfl hl.1 (Nat.le_of_ble_eq_true rfl) dX9_isSilent_6 (fun r_1 hr_1 H locs hP hS => ?_)
  refine lv_if_gt (tgt := 28) hx hb dX9_isSilent_9 (by decide) (fun c_2 => ?_) (fun c_2 => ?_)
  · refine lv_iconst (v := 0) hx hb dX9_isSilent_28 (by decide) ?_
    exact xret_zR hC hP hS hb hr (.inl rfl) ((by have hr_1 := hr_1.symm; subst hr_1; exact (ip c_2 rfl))) dX9_isSilent_29 hlocks
  · refine lv_aload_n hx hb dX9_isSilent_12 rfl (lv_at hl 0 rfl) ?_
    refine xget (ref := "AbsentPraise$Trials") (T := TX9) (v := .ref (X.2.1 15)) hC hP hin_X9 xo_X9 rfl 2 (by decide) (List.mem_of_getElem? (i := 1) rfl) rfl rfl dX9_isSilent_13 ?_
    refine lv_iload_n hx hb dX9_isSilent_16 rfl (lv_at hl 2 rfl) ?_
    refine lv_iload_n hx hb dX9_isSilent_17 rfl (lv_at hl 1 rfl) ?_
    refine xcV_iR (b := 15) (As := [.int p1, .int p0]) (rest := []) hC hP hS (k_X4_saysNow l X S p1 p0) (cwV 2 hts gX9_isSilent_X4_saysNow rfl rfl rfl hd_X4_saysNow ⟨Nat.le_of_ble_eq_true rfl, Nat.le_of_ble_eq_true rfl⟩) xo_X4 rfl rfl rfl hl.1 (Nat.le_of_ble_eq_true rfl) dX9_isSilent_18 (fun r_3 hr_3 H locs hP hS => ?_)
    refine lv_if_gt (tgt := 28) hx hb dX9_isSilent_21 (by decide) (fun c_4 => ?_) (fun c_4 => ?_)
    · refine lv_iconst (v := 0) hx hb dX9_isSilent_28 (by decide) ?_
      exact xret_zR hC hP hS hb hr (.inl rfl) ((by have hr_1 := hr_1.symm; have hr_3 := hr_3.symm; subst hr_1 hr_3; exact (iN c_2 (ip c_4 rfl)))) dX9_isSilent_29 hlocks
    · refine lv_iconst (v := 1) hx hb dX9_isSilent_24 (by decide) ?_
      refine lv_goto (tgt := 29) hx hb dX9_isSilent_25 (by decide) ?_
      exact xret_zR hC hP hS hb hr (.inr rfl) ((by have hr_1 := hr_1.symm; have hr_3 := hr_3.symm; subst hr_1 hr_3; exact (iN c_2 (iN c_4 rfl)))) dX9_isSilent_29 hlocks
theorem hd_X9_silentPairs : yX9_silentPairs.cls = RX9 ∧ yX9_silentPairs.cls ≠ "java/lang/invoke/MethodHandle" ∧ yX9_silentPairs.cls ≠ "java/lang/invoke/VarHandle" ∧ (parseMethodDescriptor yX9_silentPairs.desc).map (fun d => d.parameters.length) = some 0 := by decide +kernel
set_option maxHeartbeats 4000000 in
set_option maxRecDepth 100000 in
theorem k_X9_silentPairs (l : Launch) (X : xX) (S : xS) (hs : s_X9_silentPairs S) : Met l yX9_silentPairs wsX9_silentPairs ({ frames := 5, cells := 0, slots := 0, locals := 114 } : Room) (va_Pc [.ref (X.2.1 16)] (xI X S)) (va_Qi (fun (r : Int32) (u : xS) => r = (f_X9_silentPairs S) ∧ u = S) (xI X) (xA X)) 0 0 (xA X) := by
  refine Met.ofW (cc := cX9_silentPairs) (maxL := 4) (ret := (some .int)) (by decide +kernel) rfl ?_
  intro p e s m args below meth c s₁ B hml hv
  obtain ⟨rfl, hP, hK, hN, hJ⟩ := hv
  have hx := B.exec
  have hb := B.bytes
  have hr := B.returns
  have hts := atoms_spec (ws := wsX9_silentPairs) B.pre
  have hown : s.vm.findClass RX9 = some m.cls := findClass_of_methodNamed B.named
  have hlocks := B.notSynchronized
  have hC : xC X p m c cX9_silentPairs 4 s _ wsX9_silentPairs RX9 := ⟨⟨hx, hb, hml, hown, hts⟩, hK, hN, hJ⟩
  have hS : va_S (xA X) s.heap s.heap [] := va_S.rf
  have hin_X2 : ∀ w ∈ u_ws RX2 TX2 10, w ∈ wsX9_silentPairs := by decide +kernel
  have hin_X9 : ∀ w ∈ u_ws RX9 TX9 5, w ∈ wsX9_silentPairs := by decide +kernel
  have hl := lv_entry ([.ref (X.2.1 16)]) (n := 4) (Nat.le_of_ble_eq_true rfl)
  rw [lg_entry_eq]
  generalize (lg_sl ([.ref (X.2.1 16)]) ++ List.replicate (4 - (lg_sl ([.ref (X.2.1 16)])).length) Slot.unset).toArray = ls at hl ⊢
  have hl : lv_has ls 4 [(0, .ref (X.2.1 16))] := hl
  refine lv_iconst (v := 0) hx hb dX9_silentPairs_0 (by decide) ?_
  refine lv_istore_n (lv' := [(1, .int 0), (0, .ref (X.2.1 16))]) hx hb dX9_silentPairs_1 rfl hl (by decide) rfl (fun ls hl => ?_)
  refine lv_iconst (v := 0) hx hb dX9_silentPairs_2 (by decide) ?_
  refine lv_istore_n (lv' := [(2, .int 0), (1, .int 0), (0, .ref (X.2.1 16))]) hx hb dX9_silentPairs_3 rfl hl (by decide) rfl (fun ls hl => ?_)
  have hLp_4 : ∀ (n : Nat) (x1_4 : Int32) (x2_4 : Int32), s_X9_silentPairs_L4 n S x1_4 x2_4 → (∀ q : Int32, q = f_X9_silentPairs_L4 n S x1_4 x2_4 → (∀ (H : Heap) (locs : List Loc), va_P X.1 vwCl (xW X S) H → va_S (xA X) s.heap H locs → ∀ (ls : Array Slot), lv_has ls 4 [(1, .int q)] → W p l e ({ frames := 5, cells := 0, slots := 0, locals := 114 } : Room) s m ([.ref (X.2.1 16)] : List Value).toArray below meth c H locs 0 0 (MQ below (va_Qi (fun (r : Int32) (u : xS) => r = (f_X9_silentPairs S) ∧ u = S) (xI X) (xA X)) ([.ref (X.2.1 16)] : List Value).toArray s 0 0 (xA X)) (F0 m 59 ls []))) → ∀ (H : Heap) (locs : List Loc), va_P X.1 vwCl (xW X S) H → va_S (xA X) s.heap H locs → ∀ (ls : Array Slot), lv_has ls 4 [(0, .ref (X.2.1 16)), (1, .int x1_4), (2, .int x2_4)] → W p l e ({ frames := 5, cells := 0, slots := 0, locals := 114 } : Room) s m ([.ref (X.2.1 16)] : List Value).toArray below meth c H locs 0 0 (MQ below (va_Qi (fun (r : Int32) (u : xS) => r = (f_X9_silentPairs S) ∧ u = S) (xI X) (xA X)) ([.ref (X.2.1 16)] : List Value).toArray s 0 0 (xA X)) (F0 m 4 ls []) := by
    intro n
    induction n with
    | zero => intro x1_4 x2_4 hs; exact hs.elim
    | succ n ih_4 =>
      intro x1_4 x2_4 hs_4 hex_4 H locs hP hS ls hl
      refine lv_iload_n hx hb dX9_silentPairs_4 rfl (lv_at hl 2 rfl) ?_
      refine lv_aload_n hx hb dX9_silentPairs_5 rfl (lv_at hl 0 rfl) ?_
      refine xget (ref := "AbsentPraise$Trials") (T := TX9) (v := .ref (X.2.1 9)) hC hP hin_X9 xo_X9 rfl 0 (by decide) (List.mem_of_getElem? (i := 1) rfl) rfl rfl dX9_silentPairs_6 ?_
      refine xget (ref := "AbsentPraise$Hill") (T := TX2) (v := .int (S 9 9)) hC hP hin_X2 (xo_H (by decide)) rfl 9 (by decide) (List.mem_of_getElem? (i := 2) rfl) rfl rfl dX9_silentPairs_9 ?_
      refine lv_icmp_ge (tgt := 59) hx hb dX9_silentPairs_12 (by decide) (fun c_1 => ?_) (fun c_1 => ?_)
      · have he_2 : f_X9_silentPairs_L4 (n + 1) S x1_4 x2_4 = x1_4 := ((ip c_1 rfl))
        exact hex_4 _ he_2.symm _ _ hP hS ls (lv_sub hl [1] rfl)
      · refine lv_iload_n hx hb dX9_silentPairs_15 rfl (lv_at hl 2 rfl) ?_
        refine lv_iconst (v := 1) hx hb dX9_silentPairs_16 (by decide) ?_
        refine lv_iadd hx hb dX9_silentPairs_17 ?_
        refine lv_istore_n (lv' := [(3, .int (x2_4 + 1)), (0, .ref (X.2.1 16)), (1, .int x1_4), (2, .int x2_4)]) hx hb dX9_silentPairs_18 rfl hl (by decide) rfl (fun ls hl => ?_)
        have hLp_19 : ∀ (n : Nat) (x1_19 : Int32) (x2_19 : Int32) (x3_19 : Int32), s_X9_silentPairs_L19 n S x1_19 x2_19 x3_19 → (∀ q : Int32, q = f_X9_silentPairs_L19 n S x1_19 x2_19 x3_19 → (∀ (H : Heap) (locs : List Loc), va_P X.1 vwCl (xW X S) H → va_S (xA X) s.heap H locs → ∀ (ls : Array Slot), lv_has ls 4 [(0, .ref (X.2.1 16)), (1, .int q), (2, .int x2_19)] → W p l e ({ frames := 5, cells := 0, slots := 0, locals := 114 } : Room) s m ([.ref (X.2.1 16)] : List Value).toArray below meth c H locs 0 0 (MQ below (va_Qi (fun (r : Int32) (u : xS) => r = (f_X9_silentPairs S) ∧ u = S) (xI X) (xA X)) ([.ref (X.2.1 16)] : List Value).toArray s 0 0 (xA X)) (F0 m 53 ls []))) → ∀ (H : Heap) (locs : List Loc), va_P X.1 vwCl (xW X S) H → va_S (xA X) s.heap H locs → ∀ (ls : Array Slot), lv_has ls 4 [(0, .ref (X.2.1 16)), (1, .int x1_19), (2, .int x2_19), (3, .int x3_19)] → W p l e ({ frames := 5, cells := 0, slots := 0, locals := 114 } : Room) s m ([.ref (X.2.1 16)] : List Value).toArray below meth c H locs 0 0 (MQ below (va_Qi (fun (r : Int32) (u : xS) => r = (f_X9_silentPairs S) ∧ u = S) (xI X) (xA X)) ([.ref (X.2.1 16)] : List Value).toArray s 0 0 (xA X)) (F0 m 19 ls []) := by
          intro n
          induction n with
          | zero => intro x1_19 x2_19 x3_19 hs; exact hs.elim
          | succ n ih_19 =>
            intro x1_19 x2_19 x3_19 hs_19 hex_19 H locs hP hS ls hl
            refine lv_iload_n hx hb dX9_silentPairs_19 rfl (lv_at hl 3 rfl) ?_
            refine lv_aload_n hx hb dX9_silentPairs_20 rfl (lv_at hl 0 rfl) ?_
            refine xget (ref := "AbsentPraise$Trials") (T := TX9) (v := .ref (X.2.1 9)) hC hP hin_X9 xo_X9 rfl 0 (by decide) (List.mem_of_getElem? (i := 1) rfl) rfl rfl dX9_silentPairs_21 ?_
            refine xget (ref := "AbsentPraise$Hill") (T := TX2) (v := .int (S 9 9)) hC hP hin_X2 (xo_H (by decide)) rfl 9 (by decide) (List.mem_of_getElem? (i := 2) rfl) rfl rfl dX9_silentPairs_24 ?_
            refine lv_icmp_ge (tgt := 53) hx hb dX9_silentPairs_27 (by decide) (fun c_3 => ?_) (fun c_3 => ?_)
            · have he_4 : f_X9_silentPairs_L19 (n + 1) S x1_19 x2_19 x3_19 = x1_19 := ((ip c_3 rfl))
              exact hex_19 _ he_4.symm _ _ hP hS ls (lv_sub hl [0, 1, 2] rfl)
            · refine lv_iload_n hx hb dX9_silentPairs_30 rfl (lv_at hl 1 rfl) ?_
              refine lv_aload_n hx hb dX9_silentPairs_31 rfl (lv_at hl 0 rfl) ?_
              refine lv_iload_n hx hb dX9_silentPairs_32 rfl (lv_at hl 2 rfl) ?_
              refine lv_iload_n hx hb dX9_silentPairs_33 rfl (lv_at hl 3 rfl) ?_
              refine xcV_iR (b := 16) (As := [.int x2_19, .int x3_19]) (rest := [.int x1_19]) hC hP hS (k_X9_isSilent l X S x2_19 x3_19) (cwV 2 hts gX9_silentPairs_X9_isSilent rfl rfl rfl hd_X9_isSilent ⟨Nat.le_of_ble_eq_true rfl, Nat.le_of_ble_eq_true rfl⟩) xo_X9 rfl rfl rfl hl.1 (Nat.le_of_ble_eq_true rfl) dX9_silentPairs_34 (fun r_5 hp_r_5 H locs hP hS => ?_)
              obtain ⟨hr_5, hzr_5⟩ := hp_r_5
              refine lv_if_eq (tgt := 44) hx hb dX9_silentPairs_37 (by decide) (fun c_6 => ?_) (fun c_6 => ?_)
              · refine lv_iconst (v := 0) hx hb dX9_silentPairs_44 (by decide) ?_
                refine lv_iadd hx hb dX9_silentPairs_45 ?_
                refine lv_istore_n (lv' := [(1, .int (x1_19 + 0)), (0, .ref (X.2.1 16)), (2, .int x2_19), (3, .int x3_19)]) hx hb dX9_silentPairs_46 rfl hl (by decide) rfl (fun ls hl => ?_)
                refine lv_iinc (v := (x3_19 + 1)) (lv' := [(3, .int (x3_19 + 1)), (1, .int (x1_19 + 0)), (0, .ref (X.2.1 16)), (2, .int x2_19)]) hx hb dX9_silentPairs_47 hl (k := 3) rfl rfl (by decide) rfl (fun ls hl => ?_)
                refine lv_goto (tgt := 19) hx hb dX9_silentPairs_50 (by decide) ?_
                have he_7 : f_X9_silentPairs_L19 (n + 1) S x1_19 x2_19 x3_19 = f_X9_silentPairs_L19 n S (x1_19 + 0) x2_19 (x3_19 + 1) := (by have hr_5 := hr_5.symm; subst hr_5; exact (iN c_3 (ip c_6 rfl)))
                exact ih_19 (x1_19 + 0) x2_19 (x3_19 + 1) (by have hr_5 := hr_5.symm; subst hr_5; exact (sp (sn hs_19 c_3) c_6)) (fun q hq => hex_19 q (hq.trans he_7.symm)) _ _ hP hS ls (lv_sub hl [2, 1, 3, 0] rfl)
              · refine lv_iconst (v := 1) hx hb dX9_silentPairs_40 (by decide) ?_
                refine lv_goto (tgt := 45) hx hb dX9_silentPairs_41 (by decide) ?_
                refine lv_iadd hx hb dX9_silentPairs_45 ?_
                refine lv_istore_n (lv' := [(1, .int (x1_19 + 1)), (0, .ref (X.2.1 16)), (2, .int x2_19), (3, .int x3_19)]) hx hb dX9_silentPairs_46 rfl hl (by decide) rfl (fun ls hl => ?_)
                refine lv_iinc (v := (x3_19 + 1)) (lv' := [(3, .int (x3_19 + 1)), (1, .int (x1_19 + 1)), (0, .ref (X.2.1 16)), (2, .int x2_19)]) hx hb dX9_silentPairs_47 hl (k := 3) rfl rfl (by decide) rfl (fun ls hl => ?_)
                refine lv_goto (tgt := 19) hx hb dX9_silentPairs_50 (by decide) ?_
                have he_8 : f_X9_silentPairs_L19 (n + 1) S x1_19 x2_19 x3_19 = f_X9_silentPairs_L19 n S (x1_19 + 1) x2_19 (x3_19 + 1) := (by have hr_5 := hr_5.symm; subst hr_5; exact (iN c_3 (iN c_6 rfl)))
                exact ih_19 (x1_19 + 1) x2_19 (x3_19 + 1) (by have hr_5 := hr_5.symm; subst hr_5; exact (sn (sn hs_19 c_3) c_6)) (fun q hq => hex_19 q (hq.trans he_8.symm)) _ _ hP hS ls (lv_sub hl [2, 1, 3, 0] rfl)
        refine hLp_19 ((fu (x2_4 + 1) (S 9 9))) x1_4 x2_4 (x2_4 + 1) (nl (sn hs_4 c_1)) (fun q_19 hq_19 H locs hP hS ls hl => ?_) _ _ hP hS ls (lv_sub hl [1, 2, 3, 0] rfl)
        refine lv_iinc (v := (x2_4 + 1)) (lv' := [(2, .int (x2_4 + 1)), (0, .ref (X.2.1 16)), (1, .int q_19)]) hx hb dX9_silentPairs_53 hl (k := 2) rfl rfl (by decide) rfl (fun ls hl => ?_)
        refine lv_goto (tgt := 4) hx hb dX9_silentPairs_56 (by decide) ?_
        have he_9 : f_X9_silentPairs_L4 (n + 1) S x1_4 x2_4 = f_X9_silentPairs_L4 n S q_19 (x2_4 + 1) := (by have hq_19 := hq_19.symm; subst hq_19; exact (iN c_1 rfl))
        exact ih_4 q_19 (x2_4 + 1) (by have hq_19 := hq_19.symm; subst hq_19; exact (nr (sn hs_4 c_1))) (fun q hq => hex_4 q (hq.trans he_9.symm)) _ _ hP hS ls (lv_sub hl [1, 2, 0] rfl)
  refine hLp_4 ((fu 0 (S 9 9))) 0 0 (nl hs) (fun q_4 hq_4 H locs hP hS ls hl => ?_) _ _ hP hS ls (lv_sub hl [2, 1, 0] rfl)
  refine lv_iload_n hx hb dX9_silentPairs_59 rfl (lv_at hl 0 rfl) ?_
  exact xret_iR hC hP hS hb hr ((by have hq_4 := hq_4.symm; subst hq_4; exact rfl)) dX9_silentPairs_60 hlocks
theorem hd_X9_silentPair : yX9_silentPair.cls = RX9 ∧ yX9_silentPair.cls ≠ "java/lang/invoke/MethodHandle" ∧ yX9_silentPair.cls ≠ "java/lang/invoke/VarHandle" ∧ (parseMethodDescriptor yX9_silentPair.desc).map (fun d => d.parameters.length) = some 1 := by decide +kernel
set_option maxHeartbeats 4000000 in
set_option maxRecDepth 100000 in
theorem k_X9_silentPair (l : Launch) (X : xX) (S : xS) (p0 : Int32) (hs : s_X9_silentPair S p0) : Met l yX9_silentPair wsX9_silentPair ({ frames := 5, cells := 0, slots := 0, locals := 114 } : Room) (va_Pc [.ref (X.2.1 16), .int p0] (xI X S)) (va_Qi (fun (r : Int32) (u : xS) => r = (f_X9_silentPair S p0) ∧ u = S) (xI X) (xA X)) 0 0 (xA X) := by
  refine Met.ofW (cc := cX9_silentPair) (maxL := 5) (ret := (some .int)) (by decide +kernel) rfl ?_
  intro p e s m args below meth c s₁ B hml hv
  obtain ⟨rfl, hP, hK, hN, hJ⟩ := hv
  have hx := B.exec
  have hb := B.bytes
  have hr := B.returns
  have hts := atoms_spec (ws := wsX9_silentPair) B.pre
  have hown : s.vm.findClass RX9 = some m.cls := findClass_of_methodNamed B.named
  have hlocks := B.notSynchronized
  have hC : xC X p m c cX9_silentPair 5 s _ wsX9_silentPair RX9 := ⟨⟨hx, hb, hml, hown, hts⟩, hK, hN, hJ⟩
  have hS : va_S (xA X) s.heap s.heap [] := va_S.rf
  have hin_X2 : ∀ w ∈ u_ws RX2 TX2 10, w ∈ wsX9_silentPair := by decide +kernel
  have hin_X9 : ∀ w ∈ u_ws RX9 TX9 5, w ∈ wsX9_silentPair := by decide +kernel
  have hl := lv_entry ([.ref (X.2.1 16), .int p0]) (n := 5) (Nat.le_of_ble_eq_true rfl)
  rw [lg_entry_eq]
  generalize (lg_sl ([.ref (X.2.1 16), .int p0]) ++ List.replicate (5 - (lg_sl ([.ref (X.2.1 16), .int p0])).length) Slot.unset).toArray = ls at hl ⊢
  have hl : lv_has ls 5 [(0, .ref (X.2.1 16)), (1, .int p0)] := hl
  refine lv_iconst (v := 0) hx hb dX9_silentPair_0 (by decide) ?_
  refine lv_istore_n (lv' := [(2, .int 0), (0, .ref (X.2.1 16)), (1, .int p0)]) hx hb dX9_silentPair_1 rfl hl (by decide) rfl (fun ls hl => ?_)
  refine lv_iconst (v := 0) hx hb dX9_silentPair_2 (by decide) ?_
  refine lv_istore_n (lv' := [(3, .int 0), (2, .int 0), (0, .ref (X.2.1 16)), (1, .int p0)]) hx hb dX9_silentPair_3 rfl hl (by decide) rfl (fun ls hl => ?_)
  have hLp_4 : ∀ (n : Nat) (x1_4 : Int32) (x2_4 : Int32) (x3_4 : Int32), s_X9_silentPair_L4 n S x1_4 x2_4 x3_4 → (∀ q : Unit, f_X9_silentPair_L4 n S x1_4 x2_4 x3_4 = .inr q → (∀ (H : Heap) (locs : List Loc), va_P X.1 vwCl (xW X S) H → va_S (xA X) s.heap H locs → ∀ (ls : Array Slot), lv_has ls 5 [] → W p l e ({ frames := 5, cells := 0, slots := 0, locals := 114 } : Room) s m ([.ref (X.2.1 16), .int p0] : List Value).toArray below meth c H locs 0 0 (MQ below (va_Qi (fun (r : Int32) (u : xS) => r = (f_X9_silentPair S p0) ∧ u = S) (xI X) (xA X)) ([.ref (X.2.1 16), .int p0] : List Value).toArray s 0 0 (xA X)) (F0 m 70 ls []))) → (∀ r : Int32, f_X9_silentPair_L4 n S x1_4 x2_4 x3_4 = .inl r → ∀ (H : Heap) (locs : List Loc), va_P X.1 vwCl (xW X S) H → va_S (xA X) s.heap H locs → ∀ (pc : Nat) (ls : Array Slot), decode cX9_silentPair pc = .ok (.ireturn, 1) → W p l e ({ frames := 5, cells := 0, slots := 0, locals := 114 } : Room) s m ([.ref (X.2.1 16), .int p0] : List Value).toArray below meth c H locs 0 0 (MQ below (va_Qi (fun (r : Int32) (u : xS) => r = (f_X9_silentPair S p0) ∧ u = S) (xI X) (xA X)) ([.ref (X.2.1 16), .int p0] : List Value).toArray s 0 0 (xA X)) (F0 m pc ls [.int r])) → ∀ (H : Heap) (locs : List Loc), va_P X.1 vwCl (xW X S) H → va_S (xA X) s.heap H locs → ∀ (ls : Array Slot), lv_has ls 5 [(0, .ref (X.2.1 16)), (1, .int x1_4), (2, .int x2_4), (3, .int x3_4)] → W p l e ({ frames := 5, cells := 0, slots := 0, locals := 114 } : Room) s m ([.ref (X.2.1 16), .int p0] : List Value).toArray below meth c H locs 0 0 (MQ below (va_Qi (fun (r : Int32) (u : xS) => r = (f_X9_silentPair S p0) ∧ u = S) (xI X) (xA X)) ([.ref (X.2.1 16), .int p0] : List Value).toArray s 0 0 (xA X)) (F0 m 4 ls []) := by
    intro n
    induction n with
    | zero => intro x1_4 x2_4 x3_4 hs; exact hs.elim
    | succ n ih_4 =>
      intro x1_4 x2_4 x3_4 hs_4 hex_4 hret_4 H locs hP hS ls hl
      refine lv_iload_n hx hb dX9_silentPair_4 rfl (lv_at hl 3 rfl) ?_
      refine lv_aload_n hx hb dX9_silentPair_5 rfl (lv_at hl 0 rfl) ?_
      refine xget (ref := "AbsentPraise$Trials") (T := TX9) (v := .ref (X.2.1 9)) hC hP hin_X9 xo_X9 rfl 0 (by decide) (List.mem_of_getElem? (i := 1) rfl) rfl rfl dX9_silentPair_6 ?_
      refine xget (ref := "AbsentPraise$Hill") (T := TX2) (v := .int (S 9 9)) hC hP hin_X2 (xo_H (by decide)) rfl 9 (by decide) (List.mem_of_getElem? (i := 2) rfl) rfl rfl dX9_silentPair_9 ?_
      refine lv_icmp_ge (tgt := 70) hx hb dX9_silentPair_12 (by decide) (fun c_1 => ?_) (fun c_1 => ?_)
      · have he_2 : f_X9_silentPair_L4 (n + 1) S x1_4 x2_4 x3_4 = .inr () := ((ip c_1 rfl))
        exact hex_4 _ he_2 _ _ hP hS ls (lv_sub hl [] rfl)
      · refine lv_iload_n hx hb dX9_silentPair_15 rfl (lv_at hl 3 rfl) ?_
        refine lv_iconst (v := 1) hx hb dX9_silentPair_16 (by decide) ?_
        refine lv_iadd hx hb dX9_silentPair_17 ?_
        refine lv_istore (lv' := [(4, .int (x3_4 + 1)), (0, .ref (X.2.1 16)), (1, .int x1_4), (2, .int x2_4), (3, .int x3_4)]) hx hb dX9_silentPair_18 hl (by decide) rfl (fun ls hl => ?_)
        have hLp_20 : ∀ (n : Nat) (x1_20 : Int32) (x2_20 : Int32) (x3_20 : Int32) (x4_20 : Int32), s_X9_silentPair_L20 n S x1_20 x2_20 x3_20 x4_20 → (∀ q : Int32, f_X9_silentPair_L20 n S x1_20 x2_20 x3_20 x4_20 = .inr q → (∀ (H : Heap) (locs : List Loc), va_P X.1 vwCl (xW X S) H → va_S (xA X) s.heap H locs → ∀ (ls : Array Slot), lv_has ls 5 [(0, .ref (X.2.1 16)), (1, .int x1_20), (2, .int q), (3, .int x3_20)] → W p l e ({ frames := 5, cells := 0, slots := 0, locals := 114 } : Room) s m ([.ref (X.2.1 16), .int p0] : List Value).toArray below meth c H locs 0 0 (MQ below (va_Qi (fun (r : Int32) (u : xS) => r = (f_X9_silentPair S p0) ∧ u = S) (xI X) (xA X)) ([.ref (X.2.1 16), .int p0] : List Value).toArray s 0 0 (xA X)) (F0 m 64 ls []))) → (∀ r : Int32, f_X9_silentPair_L20 n S x1_20 x2_20 x3_20 x4_20 = .inl r → ∀ (H : Heap) (locs : List Loc), va_P X.1 vwCl (xW X S) H → va_S (xA X) s.heap H locs → ∀ (pc : Nat) (ls : Array Slot), decode cX9_silentPair pc = .ok (.ireturn, 1) → W p l e ({ frames := 5, cells := 0, slots := 0, locals := 114 } : Room) s m ([.ref (X.2.1 16), .int p0] : List Value).toArray below meth c H locs 0 0 (MQ below (va_Qi (fun (r : Int32) (u : xS) => r = (f_X9_silentPair S p0) ∧ u = S) (xI X) (xA X)) ([.ref (X.2.1 16), .int p0] : List Value).toArray s 0 0 (xA X)) (F0 m pc ls [.int r])) → ∀ (H : Heap) (locs : List Loc), va_P X.1 vwCl (xW X S) H → va_S (xA X) s.heap H locs → ∀ (ls : Array Slot), lv_has ls 5 [(0, .ref (X.2.1 16)), (1, .int x1_20), (2, .int x2_20), (3, .int x3_20), (4, .int x4_20)] → W p l e ({ frames := 5, cells := 0, slots := 0, locals := 114 } : Room) s m ([.ref (X.2.1 16), .int p0] : List Value).toArray below meth c H locs 0 0 (MQ below (va_Qi (fun (r : Int32) (u : xS) => r = (f_X9_silentPair S p0) ∧ u = S) (xI X) (xA X)) ([.ref (X.2.1 16), .int p0] : List Value).toArray s 0 0 (xA X)) (F0 m 20 ls []) := by
          intro n
          induction n with
          | zero => intro x1_20 x2_20 x3_20 x4_20 hs; exact hs.elim
          | succ n ih_20 =>
            intro x1_20 x2_20 x3_20 x4_20 hs_20 hex_20 hret_20 H locs hP hS ls hl
            refine lv_iload hx hb dX9_silentPair_20 (lv_at hl 4 rfl) ?_
            refine lv_aload_n hx hb dX9_silentPair_22 rfl (lv_at hl 0 rfl) ?_
            refine xget (ref := "AbsentPraise$Trials") (T := TX9) (v := .ref (X.2.1 9)) hC hP hin_X9 xo_X9 rfl 0 (by decide) (List.mem_of_getElem? (i := 1) rfl) rfl rfl dX9_silentPair_23 ?_
            refine xget (ref := "AbsentPraise$Hill") (T := TX2) (v := .int (S 9 9)) hC hP hin_X2 (xo_H (by decide)) rfl 9 (by decide) (List.mem_of_getElem? (i := 2) rfl) rfl rfl dX9_silentPair_26 ?_
            refine lv_icmp_ge (tgt := 64) hx hb dX9_silentPair_29 (by decide) (fun c_3 => ?_) (fun c_3 => ?_)
            · have he_4 : f_X9_silentPair_L20 (n + 1) S x1_20 x2_20 x3_20 x4_20 = .inr x2_20 := ((ip c_3 rfl))
              exact hex_20 _ he_4 _ _ hP hS ls (lv_sub hl [0, 1, 2, 3] rfl)
            · refine lv_aload_n hx hb dX9_silentPair_32 rfl (lv_at hl 0 rfl) ?_
              refine lv_iload_n hx hb dX9_silentPair_33 rfl (lv_at hl 3 rfl) ?_
              refine lv_iload hx hb dX9_silentPair_34 (lv_at hl 4 rfl) ?_
              refine xcV_iR (b := 16) (As := [.int x3_20, .int x4_20]) (rest := []) hC hP hS (k_X9_isSilent l X S x3_20 x4_20) (cwV 2 hts gX9_silentPair_X9_isSilent rfl rfl rfl hd_X9_isSilent ⟨Nat.le_of_ble_eq_true rfl, Nat.le_of_ble_eq_true rfl⟩) xo_X9 rfl rfl rfl hl.1 (Nat.le_of_ble_eq_true rfl) dX9_silentPair_36 (fun r_5 hp_r_5 H locs hP hS => ?_)
              obtain ⟨hr_5, hzr_5⟩ := hp_r_5
              refine lv_if_eq (tgt := 58) hx hb dX9_silentPair_39 (by decide) (fun c_6 => ?_) (fun c_6 => ?_)
              · refine lv_iinc (v := (x4_20 + 1)) (lv' := [(4, .int (x4_20 + 1)), (0, .ref (X.2.1 16)), (1, .int x1_20), (2, .int x2_20), (3, .int x3_20)]) hx hb dX9_silentPair_58 hl (k := 4) rfl rfl (by decide) rfl (fun ls hl => ?_)
                refine lv_goto (tgt := 20) hx hb dX9_silentPair_61 (by decide) ?_
                have he_7 : f_X9_silentPair_L20 (n + 1) S x1_20 x2_20 x3_20 x4_20 = f_X9_silentPair_L20 n S x1_20 x2_20 x3_20 (x4_20 + 1) := (by have hr_5 := hr_5.symm; subst hr_5; exact (iN c_3 (ip c_6 rfl)))
                exact ih_20 x1_20 x2_20 x3_20 (x4_20 + 1) (by have hr_5 := hr_5.symm; subst hr_5; exact (sp (sn hs_20 c_3) c_6)) (fun q hq => hex_20 q (he_7.trans hq)) (fun r hq => hret_20 r (he_7.trans hq)) _ _ hP hS ls (lv_sub hl [1, 2, 3, 4, 0] rfl)
              · refine lv_iload_n hx hb dX9_silentPair_42 rfl (lv_at hl 2 rfl) ?_
                refine lv_iload_n hx hb dX9_silentPair_43 rfl (lv_at hl 1 rfl) ?_
                refine lv_icmp_ne (tgt := 55) hx hb dX9_silentPair_44 (by decide) (fun c_8 => ?_) (fun c_8 => ?_)
                · refine lv_iinc (v := (x2_20 + 1)) (lv' := [(2, .int (x2_20 + 1)), (0, .ref (X.2.1 16)), (1, .int x1_20), (3, .int x3_20), (4, .int x4_20)]) hx hb dX9_silentPair_55 hl (k := 2) rfl rfl (by decide) rfl (fun ls hl => ?_)
                  refine lv_iinc (v := (x4_20 + 1)) (lv' := [(4, .int (x4_20 + 1)), (2, .int (x2_20 + 1)), (0, .ref (X.2.1 16)), (1, .int x1_20), (3, .int x3_20)]) hx hb dX9_silentPair_58 hl (k := 4) rfl rfl (by decide) rfl (fun ls hl => ?_)
                  refine lv_goto (tgt := 20) hx hb dX9_silentPair_61 (by decide) ?_
                  have he_9 : f_X9_silentPair_L20 (n + 1) S x1_20 x2_20 x3_20 x4_20 = f_X9_silentPair_L20 n S x1_20 (x2_20 + 1) x3_20 (x4_20 + 1) := (by have hr_5 := hr_5.symm; subst hr_5; exact (iN c_3 (iN c_6 (iN c_8 rfl))))
                  exact ih_20 x1_20 (x2_20 + 1) x3_20 (x4_20 + 1) (by have hr_5 := hr_5.symm; subst hr_5; exact (sn (sn (sn hs_20 c_3) c_6) c_8)) (fun q hq => hex_20 q (he_9.trans hq)) (fun r hq => hret_20 r (he_9.trans hq)) _ _ hP hS ls (lv_sub hl [2, 3, 1, 4, 0] rfl)
                · refine lv_bipush (v := 100) hx hb dX9_silentPair_47 (by decide) ?_
                  refine lv_iload_n hx hb dX9_silentPair_49 rfl (lv_at hl 3 rfl) ?_
                  refine lv_imul hx hb dX9_silentPair_50 ?_
                  refine lv_iload hx hb dX9_silentPair_51 (lv_at hl 4 rfl) ?_
                  refine lv_iadd hx hb dX9_silentPair_53 ?_
                  have he_10 : f_X9_silentPair_L20 (n + 1) S x1_20 x2_20 x3_20 x4_20 = .inl ((100 * x3_20) + x4_20) := (by have hr_5 := hr_5.symm; subst hr_5; exact (iN c_3 (iN c_6 (ip c_8 rfl))))
                  exact hret_20 _ he_10 _ _ hP hS 54 ls dX9_silentPair_54
        refine hLp_20 ((fu (x3_4 + 1) (S 9 9))) x1_4 x2_4 x3_4 (x3_4 + 1) (nl (sn hs_4 c_1)) (fun q_20 hq_20 H locs hP hS ls hl => ?_) (fun r hr_20 H locs hP hS pc_20 ls hd_20 => ?_) _ _ hP hS ls (lv_sub hl [1, 2, 3, 4, 0] rfl)
        · refine lv_iinc (v := (x3_4 + 1)) (lv' := [(3, .int (x3_4 + 1)), (0, .ref (X.2.1 16)), (1, .int x1_4), (2, .int q_20)]) hx hb dX9_silentPair_64 hl (k := 3) rfl rfl (by decide) rfl (fun ls hl => ?_)
          refine lv_goto (tgt := 4) hx hb dX9_silentPair_67 (by decide) ?_
          have he_11 : f_X9_silentPair_L4 (n + 1) S x1_4 x2_4 x3_4 = f_X9_silentPair_L4 n S x1_4 q_20 (x3_4 + 1) := ((iN c_1 (sm_r hq_20 rfl)))
          exact ih_4 x1_4 q_20 (x3_4 + 1) (((nr (sn hs_4 c_1)) q_20 hq_20)) (fun q hq => hex_4 q (he_11.trans hq)) (fun r hq => hret_4 r (he_11.trans hq)) _ _ hP hS ls (lv_sub hl [1, 2, 3, 0] rfl)
        · have he_12 : f_X9_silentPair_L4 (n + 1) S x1_4 x2_4 x3_4 = .inl r := ((iN c_1 (sm_l hr_20 rfl)))
          exact hret_4 r he_12 _ _ hP hS pc_20 ls hd_20
  refine hLp_4 ((fu 0 (S 9 9))) p0 0 0 (nl hs) (fun q_4 hq_4 H locs hP hS ls hl => ?_) (fun r hr_4 H locs hP hS pc_4 ls hd_4 => ?_) _ _ hP hS ls (lv_sub hl [2, 3, 1, 0] rfl)
  · refine lv_iconst (v := (-1)) hx hb dX9_silentPair_70 (by decide) ?_
    exact xret_iR hC hP hS hb hr (((sm_r hq_4 rfl))) dX9_silentPair_71 hlocks
  · exact xret_iR hC hP hS hb hr (((sm_l hr_4 rfl))) hd_4 hlocks
theorem hd_X9_covers : yX9_covers.cls = RX9 ∧ yX9_covers.cls ≠ "java/lang/invoke/MethodHandle" ∧ yX9_covers.cls ≠ "java/lang/invoke/VarHandle" ∧ (parseMethodDescriptor yX9_covers.desc).map (fun d => d.parameters.length) = some 1 := by decide +kernel
set_option maxHeartbeats 4000000 in
set_option maxRecDepth 100000 in
theorem k_X9_covers (l : Launch) (X : xX) (S : xS) (p0 : Int32) (hs : s_X9_covers S p0) : Met l yX9_covers wsX9_covers ({ frames := 1, cells := 0, slots := 0, locals := 21 } : Room) (va_Pc [.ref (X.2.1 16), .int p0] (xI X S)) (va_Qi (fun (r : Int32) (u : xS) => (r = (f_X9_covers S p0) ∧ (r = 0 ∨ r = 1)) ∧ u = S) (xI X) (xA X)) 0 0 (xA X) := by
  refine Met.ofW (cc := cX9_covers) (maxL := 3) (ret := (some .boolean)) (by decide +kernel) rfl ?_
  intro p e s m args below meth c s₁ B hml hv
  obtain ⟨rfl, hP, hK, hN, hJ⟩ := hv
  have hx := B.exec
  have hb := B.bytes
  have hr := B.returns
  have hts := atoms_spec (ws := wsX9_covers) B.pre
  have hown : s.vm.findClass RX9 = some m.cls := findClass_of_methodNamed B.named
  have hlocks := B.notSynchronized
  have hC : xC X p m c cX9_covers 3 s _ wsX9_covers RX9 := ⟨⟨hx, hb, hml, hown, hts⟩, hK, hN, hJ⟩
  have hS : va_S (xA X) s.heap s.heap [] := va_S.rf
  have hin_X2 : ∀ w ∈ u_ws RX2 TX2 10, w ∈ wsX9_covers := by decide +kernel
  have hin_X9 : ∀ w ∈ u_ws RX9 TX9 5, w ∈ wsX9_covers := by decide +kernel
  have hl := lv_entry ([.ref (X.2.1 16), .int p0]) (n := 3) (Nat.le_of_ble_eq_true rfl)
  rw [lg_entry_eq]
  generalize (lg_sl ([.ref (X.2.1 16), .int p0]) ++ List.replicate (3 - (lg_sl ([.ref (X.2.1 16), .int p0])).length) Slot.unset).toArray = ls at hl ⊢
  have hl : lv_has ls 3 [(0, .ref (X.2.1 16)), (1, .int p0)] := hl
  refine lv_iconst (v := 0) hx hb dX9_covers_0 (by decide) ?_
  refine lv_istore_n (lv' := [(2, .int 0), (0, .ref (X.2.1 16)), (1, .int p0)]) hx hb dX9_covers_1 rfl hl (by decide) rfl (fun ls hl => ?_)
  have hLp_2 : ∀ (n : Nat) (x1_2 : Int32) (x2_2 : Int32), s_X9_covers_L2 n S x1_2 x2_2 → (∀ q : Unit, f_X9_covers_L2 n S x1_2 x2_2 = .inr q → (∀ (H : Heap) (locs : List Loc), va_P X.1 vwCl (xW X S) H → va_S (xA X) s.heap H locs → ∀ (ls : Array Slot), lv_has ls 3 [] → W p l e ({ frames := 1, cells := 0, slots := 0, locals := 21 } : Room) s m ([.ref (X.2.1 16), .int p0] : List Value).toArray below meth c H locs 0 0 (MQ below (va_Qi (fun (r : Int32) (u : xS) => (r = (f_X9_covers S p0) ∧ (r = 0 ∨ r = 1)) ∧ u = S) (xI X) (xA X)) ([.ref (X.2.1 16), .int p0] : List Value).toArray s 0 0 (xA X)) (F0 m 45 ls []))) → (∀ r : Int32, (r = 0 ∨ r = 1) → f_X9_covers_L2 n S x1_2 x2_2 = .inl r → ∀ (H : Heap) (locs : List Loc), va_P X.1 vwCl (xW X S) H → va_S (xA X) s.heap H locs → ∀ (pc : Nat) (ls : Array Slot), decode cX9_covers pc = .ok (.ireturn, 1) → W p l e ({ frames := 1, cells := 0, slots := 0, locals := 21 } : Room) s m ([.ref (X.2.1 16), .int p0] : List Value).toArray below meth c H locs 0 0 (MQ below (va_Qi (fun (r : Int32) (u : xS) => (r = (f_X9_covers S p0) ∧ (r = 0 ∨ r = 1)) ∧ u = S) (xI X) (xA X)) ([.ref (X.2.1 16), .int p0] : List Value).toArray s 0 0 (xA X)) (F0 m pc ls [.int r])) → ∀ (H : Heap) (locs : List Loc), va_P X.1 vwCl (xW X S) H → va_S (xA X) s.heap H locs → ∀ (ls : Array Slot), lv_has ls 3 [(0, .ref (X.2.1 16)), (1, .int x1_2), (2, .int x2_2)] → W p l e ({ frames := 1, cells := 0, slots := 0, locals := 21 } : Room) s m ([.ref (X.2.1 16), .int p0] : List Value).toArray below meth c H locs 0 0 (MQ below (va_Qi (fun (r : Int32) (u : xS) => (r = (f_X9_covers S p0) ∧ (r = 0 ∨ r = 1)) ∧ u = S) (xI X) (xA X)) ([.ref (X.2.1 16), .int p0] : List Value).toArray s 0 0 (xA X)) (F0 m 2 ls []) := by
    intro n
    induction n with
    | zero => intro x1_2 x2_2 hs; exact hs.elim
    | succ n ih_2 =>
      intro x1_2 x2_2 hs_2 hex_2 hret_2 H locs hP hS ls hl
      refine lv_iload_n hx hb dX9_covers_2 rfl (lv_at hl 2 rfl) ?_
      refine lv_aload_n hx hb dX9_covers_3 rfl (lv_at hl 0 rfl) ?_
      refine xget (ref := "AbsentPraise$Trials") (T := TX9) (v := .ref (X.2.1 9)) hC hP hin_X9 xo_X9 rfl 0 (by decide) (List.mem_of_getElem? (i := 1) rfl) rfl rfl dX9_covers_4 ?_
      refine xget (ref := "AbsentPraise$Hill") (T := TX2) (v := .int (S 9 5)) hC hP hin_X2 (xo_H (by decide)) rfl 5 (by decide) (List.mem_of_getElem? (i := 2) rfl) rfl rfl dX9_covers_7 ?_
      refine lv_icmp_ge (tgt := 45) hx hb dX9_covers_10 (by decide) (fun c_1 => ?_) (fun c_1 => ?_)
      · have he_2 : f_X9_covers_L2 (n + 1) S x1_2 x2_2 = .inr () := ((ip c_1 rfl))
        exact hex_2 _ he_2 _ _ hP hS ls (lv_sub hl [] rfl)
      · refine lv_iload_n hx hb dX9_covers_13 rfl (lv_at hl 1 rfl) ?_
        refine lv_iload_n hx hb dX9_covers_14 rfl (lv_at hl 2 rfl) ?_
        refine xcSN_iR (As := [.int x1_2, .int x2_2]) (rest := []) hC hP hS (k_X10_has l X S x1_2 x2_2) (va_cnB (host := "AbsentPraise") 2 hts gX9_covers_X10_has_n56 rfl rfl rfl (xn_15 hN) (hts (.initialized RX10) (List.mem_of_getElem? (i := 5) rfl)) hs_X10_has ⟨Nat.le_of_ble_eq_true rfl, Nat.le_of_ble_eq_true rfl⟩) (hts (.static yX10_has) (List.mem_of_getElem? (i := 4) rfl)) rfl rfl hl.1 (Nat.le_of_ble_eq_true rfl) dX9_covers_15 (fun r_3 hp_r_3 H locs hP hS => ?_)
        obtain ⟨hr_3, hzr_3⟩ := hp_r_3
        refine lv_if_ne (tgt := 39) hx hb dX9_covers_18 (by decide) (fun c_4 => ?_) (fun c_4 => ?_)
        · refine lv_iinc (v := (x2_2 + 1)) (lv' := [(2, .int (x2_2 + 1)), (0, .ref (X.2.1 16)), (1, .int x1_2)]) hx hb dX9_covers_39 hl (k := 2) rfl rfl (by decide) rfl (fun ls hl => ?_)
          refine lv_goto (tgt := 2) hx hb dX9_covers_42 (by decide) ?_
          have he_5 : f_X9_covers_L2 (n + 1) S x1_2 x2_2 = f_X9_covers_L2 n S x1_2 (x2_2 + 1) := (by have hr_3 := hr_3.symm; subst hr_3; exact (iN c_1 (iN c_4 rfl)))
          exact ih_2 x1_2 (x2_2 + 1) (by have hr_3 := hr_3.symm; subst hr_3; exact (sn (sn hs_2 c_1) c_4)) (fun q hq => hex_2 q (he_5.trans hq)) (fun r hz hq => hret_2 r hz (he_5.trans hq)) _ _ hP hS ls (lv_sub hl [1, 2, 0] rfl)
        · refine lv_aload_n hx hb dX9_covers_21 rfl (lv_at hl 0 rfl) ?_
          refine xget (ref := "AbsentPraise$Trials") (T := TX9) (v := .ref (X.2.1 9)) hC hP hin_X9 xo_X9 rfl 0 (by decide) (List.mem_of_getElem? (i := 1) rfl) rfl rfl dX9_covers_22 ?_
          refine xget (ref := "AbsentPraise$Hill") (T := TX2) (v := .ref (X.2.1 10)) hC hP hin_X2 (xo_H (by decide)) rfl 0 (by decide) (List.mem_of_getElem? (i := 3) rfl) rfl rfl dX9_covers_25 ?_
          refine lv_iload_n hx hb dX9_covers_28 rfl (lv_at hl 2 rfl) ?_
          refine xcSN_iR (As := [.ref (X.2.1 10), .int x2_2]) (rest := []) hC hP hS (k_X10_at l X S 10 x2_2 rfl) (va_cnB (host := "AbsentPraise") 2 hts gX9_covers_X10_at_n45 rfl rfl rfl (xn_16 hN) (hts (.initialized RX10) (List.mem_of_getElem? (i := 5) rfl)) hs_X10_at ⟨Nat.le_of_ble_eq_true rfl, Nat.le_of_ble_eq_true rfl⟩) (hts (.static yX10_at) (List.mem_of_getElem? (i := 7) rfl)) rfl rfl hl.1 (Nat.le_of_ble_eq_true rfl) dX9_covers_29 (fun r_6 hr_6 H locs hP hS => ?_)
          refine lv_iload_n hx hb dX9_covers_32 rfl (lv_at hl 1 rfl) ?_
          refine lv_iand hx hb dX9_covers_33 ?_
          refine lv_if_ne (tgt := 39) hx hb dX9_covers_34 (by decide) (fun c_7 => ?_) (fun c_7 => ?_)
          · refine lv_iinc (v := (x2_2 + 1)) (lv' := [(2, .int (x2_2 + 1)), (0, .ref (X.2.1 16)), (1, .int x1_2)]) hx hb dX9_covers_39 hl (k := 2) rfl rfl (by decide) rfl (fun ls hl => ?_)
            refine lv_goto (tgt := 2) hx hb dX9_covers_42 (by decide) ?_
            have he_8 : f_X9_covers_L2 (n + 1) S x1_2 x2_2 = f_X9_covers_L2 n S x1_2 (x2_2 + 1) := (by have hr_3 := hr_3.symm; have hr_6 := hr_6.symm; subst hr_3 hr_6; exact (iN c_1 (ip c_4 (iN c_7 rfl))))
            exact ih_2 x1_2 (x2_2 + 1) (by have hr_3 := hr_3.symm; have hr_6 := hr_6.symm; subst hr_3 hr_6; exact (sn (sp (sn hs_2 c_1) c_4) c_7)) (fun q hq => hex_2 q (he_8.trans hq)) (fun r hz hq => hret_2 r hz (he_8.trans hq)) _ _ hP hS ls (lv_sub hl [1, 2, 0] rfl)
          · refine lv_iconst (v := 0) hx hb dX9_covers_37 (by decide) ?_
            have he_9 : f_X9_covers_L2 (n + 1) S x1_2 x2_2 = .inl (0) := (by have hr_3 := hr_3.symm; have hr_6 := hr_6.symm; subst hr_3 hr_6; exact (iN c_1 (ip c_4 (ip c_7 rfl))))
            exact hret_2 _ (.inl rfl) he_9 _ _ hP hS 38 ls dX9_covers_38
  refine hLp_2 ((fu 0 (S 9 5))) p0 0 (nl hs) (fun q_2 hq_2 H locs hP hS ls hl => ?_) (fun r hz_2 hr_2 H locs hP hS pc_2 ls hd_2 => ?_) _ _ hP hS ls (lv_sub hl [1, 2, 0] rfl)
  · refine lv_iconst (v := 1) hx hb dX9_covers_45 (by decide) ?_
    exact xret_zR hC hP hS hb hr (.inr rfl) (((sm_r hq_2 rfl))) dX9_covers_46 hlocks
  · exact xret_zR hC hP hS hb hr hz_2 (((sm_l hr_2 rfl))) hd_2 hlocks
