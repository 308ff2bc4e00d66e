set_option linter.all false
/-! contracts: X9_firstOfRoute, X9_saidTogether, X10_isSmaller, X9_bestLeavers -/
theorem hd_X9_firstOfRoute : yX9_firstOfRoute.cls = RX9 ∧ yX9_firstOfRoute.cls ≠ "java/lang/invoke/MethodHandle" ∧ yX9_firstOfRoute.cls ≠ "java/lang/invoke/VarHandle" ∧ (parseMethodDescriptor yX9_firstOfRoute.desc).map (fun d => d.parameters.length) = some 2 := by decide +kernel
set_option maxHeartbeats 4000000 in
set_option maxRecDepth 100000 in
theorem k_X9_firstOfRoute (l : Launch) (X : xX) (S : xS) (p0 : Int32) (p1 : Int32) (hs : s_X9_firstOfRoute S p0 p1) : Met l yX9_firstOfRoute wsX9_firstOfRoute ({ frames := 4, cells := 0, slots := 0, locals := 95 } : Room) (va_Pc [.ref (X.2.1 16), .int p0, .int p1] (xI X S)) (va_Qi (fun (r : Int32) (u : xS) => r = (f_X9_firstOfRoute S p0 p1).1 ∧ u = (f_X9_firstOfRoute S p0 p1).2) (xI X) (xA X)) 0 0 (xA X) := by
  refine Met.ofW (cc := cX9_firstOfRoute) (maxL := 5) (ret := (some .int)) (by decide +kernel) rfl ?_
  intro p e s m args below meth c s₁ B hml hv
  obtain ⟨rfl, hP, hK, hN, hJ⟩ := hv
  have hx := B.exec
  have hb := B.bytes
  have hr := B.returns
  have hts := atoms_spec (ws := wsX9_firstOfRoute) B.pre
  have hown : s.vm.findClass RX9 = some m.cls := findClass_of_methodNamed B.named
  have hlocks := B.notSynchronized
  have hC : xC X p m c cX9_firstOfRoute 5 s _ wsX9_firstOfRoute RX9 := ⟨⟨hx, hb, hml, hown, hts⟩, hK, hN, hJ⟩
  have hS : va_S (xA X) s.heap s.heap [] := va_S.rf
  have hin_X2 : ∀ w ∈ u_ws RX2 TX2 10, w ∈ wsX9_firstOfRoute := by decide +kernel
  have hin_X7 : ∀ w ∈ u_ws RX7 TX7 6, w ∈ wsX9_firstOfRoute := by decide +kernel
  have hin_X9 : ∀ w ∈ u_ws RX9 TX9 5, w ∈ wsX9_firstOfRoute := by decide +kernel
  have hl := lv_entry ([.ref (X.2.1 16), .int p0, .int p1]) (n := 5) (Nat.le_of_ble_eq_true rfl)
  rw [lg_entry_eq]
  generalize (lg_sl ([.ref (X.2.1 16), .int p0, .int p1]) ++ List.replicate (5 - (lg_sl ([.ref (X.2.1 16), .int p0, .int p1])).length) Slot.unset).toArray = ls at hl ⊢
  have hl : lv_has ls 5 [(0, .ref (X.2.1 16)), (1, .int p0), (2, .int p1)] := hl
  refine lv_aload_n hx hb dX9_firstOfRoute_0 rfl (lv_at hl 0 rfl) ?_
  refine xget (ref := "AbsentPraise$Trials") (T := TX9) (v := .ref (X.2.1 18)) hC hP hin_X9 xo_X9 rfl 4 (by decide) (List.mem_of_getElem? (i := 1) rfl) rfl rfl dX9_firstOfRoute_1 ?_
  refine lv_iconst (v := 0) hx hb dX9_firstOfRoute_4 (by decide) ?_
  have hn_1 : s_J7_fill_53178 S 18 0 := (nl hs)
  refine xcS_vW (As := [.ref (X.2.1 18), .int 0]) (rest := []) hC hP hS (k_J7_fill_53178 l X S 18 0 rfl hn_1) (va_cwS 2 hts gX9_firstOfRoute_J7_fill_53178 rfl rfl rfl hs_J7_fill_53178 ⟨Nat.le_of_ble_eq_true rfl, Nat.le_of_ble_eq_true rfl⟩) rfl rfl hl.1 (Nat.le_of_ble_eq_true rfl) dX9_firstOfRoute_5 (fun S_2 hS_2 H locs hP hS => ?_)
  refine lv_iload_n hx hb dX9_firstOfRoute_8 rfl (lv_at hl 2 rfl) ?_
  refine lv_iconst (v := 1) hx hb dX9_firstOfRoute_9 (by decide) ?_
  refine lv_isub hx hb dX9_firstOfRoute_10 ?_
  refine lv_istore_n (lv' := [(3, .int (p1 - 1)), (0, .ref (X.2.1 16)), (1, .int p0), (2, .int p1)]) hx hb dX9_firstOfRoute_11 rfl hl (by decide) rfl (fun ls hl => ?_)
  have hLp_12 : ∀ (n : Nat) (T_12 : xS) (x1_12 : Int32) (x3_12 : Int32), s_X9_firstOfRoute_L12 n T_12 x1_12 x3_12 → (∀ q : xS, q = f_X9_firstOfRoute_L12 n T_12 x1_12 x3_12 → (∀ (H : Heap) (locs : List Loc), va_P X.1 vwCl (xW X q) H → va_S (xA X) s.heap H locs → ∀ (ls : Array Slot), lv_has ls 5 [(0, .ref (X.2.1 16)), (1, .int x1_12)] → W p l e ({ frames := 4, cells := 0, slots := 0, locals := 95 } : Room) s m ([.ref (X.2.1 16), .int p0, .int p1] : List Value).toArray below meth c H locs 0 0 (MQ below (va_Qi (fun (r : Int32) (u : xS) => r = (f_X9_firstOfRoute S p0 p1).1 ∧ u = (f_X9_firstOfRoute S p0 p1).2) (xI X) (xA X)) ([.ref (X.2.1 16), .int p0, .int p1] : List Value).toArray s 0 0 (xA X)) (F0 m 110 ls []))) → ∀ (H : Heap) (locs : List Loc), va_P X.1 vwCl (xW X T_12) H → va_S (xA X) s.heap H locs → ∀ (ls : Array Slot), lv_has ls 5 [(0, .ref (X.2.1 16)), (1, .int x1_12), (3, .int x3_12)] → W p l e ({ frames := 4, cells := 0, slots := 0, locals := 95 } : Room) s m ([.ref (X.2.1 16), .int p0, .int p1] : List Value).toArray below meth c H locs 0 0 (MQ below (va_Qi (fun (r : Int32) (u : xS) => r = (f_X9_firstOfRoute S p0 p1).1 ∧ u = (f_X9_firstOfRoute S p0 p1).2) (xI X) (xA X)) ([.ref (X.2.1 16), .int p0, .int p1] : List Value).toArray s 0 0 (xA X)) (F0 m 12 ls []) := by
    intro n
    induction n with
    | zero => intro T_12 x1_12 x3_12 hs; exact hs.elim
    | succ n ih_12 =>
      intro T_12 x1_12 x3_12 hs_12 hex_12 H locs hP hS ls hl
      refine lv_iload_n hx hb dX9_firstOfRoute_12 rfl (lv_at hl 2 rfl) ?_
      refine lv_if_lt (tgt := 110) hx hb dX9_firstOfRoute_13 (by decide) (fun c_3 => ?_) (fun c_3 => ?_)
      · have he_4 : f_X9_firstOfRoute_L12 (n + 1) T_12 x1_12 x3_12 = T_12 := ((ip c_3 rfl))
        exact hex_12 _ he_4.symm _ _ hP hS ls (lv_sub hl [0, 1] rfl)
      · refine lv_iconst (v := 0) hx hb dX9_firstOfRoute_16 (by decide) ?_
        refine lv_istore (lv' := [(4, .int 0), (0, .ref (X.2.1 16)), (1, .int x1_12), (3, .int x3_12)]) hx hb dX9_firstOfRoute_17 hl (by decide) rfl (fun ls hl => ?_)
        have hLp_19 : ∀ (n : Nat) (T_19 : xS) (x1_19 : Int32) (x3_19 : Int32) (x4_19 : Int32), s_X9_firstOfRoute_L19 n T_19 x1_19 x3_19 x4_19 → (∀ q : xS, q = f_X9_firstOfRoute_L19 n T_19 x1_19 x3_19 x4_19 → (∀ (H : Heap) (locs : List Loc), va_P X.1 vwCl (xW X q) H → va_S (xA X) s.heap H locs → ∀ (ls : Array Slot), lv_has ls 5 [(0, .ref (X.2.1 16)), (1, .int x1_19), (3, .int x3_19)] → W p l e ({ frames := 4, cells := 0, slots := 0, locals := 95 } : Room) s m ([.ref (X.2.1 16), .int p0, .int p1] : List Value).toArray below meth c H locs 0 0 (MQ below (va_Qi (fun (r : Int32) (u : xS) => r = (f_X9_firstOfRoute S p0 p1).1 ∧ u = (f_X9_firstOfRoute S p0 p1).2) (xI X) (xA X)) ([.ref (X.2.1 16), .int p0, .int p1] : List Value).toArray s 0 0 (xA X)) (F0 m 64 ls []))) → ∀ (H : Heap) (locs : List Loc), va_P X.1 vwCl (xW X T_19) H → va_S (xA X) s.heap H locs → ∀ (ls : Array Slot), lv_has ls 5 [(0, .ref (X.2.1 16)), (1, .int x1_19), (3, .int x3_19), (4, .int x4_19)] → W p l e ({ frames := 4, cells := 0, slots := 0, locals := 95 } : Room) s m ([.ref (X.2.1 16), .int p0, .int p1] : List Value).toArray below meth c H locs 0 0 (MQ below (va_Qi (fun (r : Int32) (u : xS) => r = (f_X9_firstOfRoute S p0 p1).1 ∧ u = (f_X9_firstOfRoute S p0 p1).2) (xI X) (xA X)) ([.ref (X.2.1 16), .int p0, .int p1] : List Value).toArray s 0 0 (xA X)) (F0 m 19 ls []) := by
          intro n
          induction n with
          | zero => intro T_19 x1_19 x3_19 x4_19 hs; exact hs.elim
          | succ n ih_19 =>
            intro T_19 x1_19 x3_19 x4_19 hs_19 hex_19 H locs hP hS ls hl
            refine lv_iload hx hb dX9_firstOfRoute_19 (lv_at hl 3 rfl) ?_
            refine lv_aload_n hx hb dX9_firstOfRoute_21 rfl (lv_at hl 0 rfl) ?_
            refine xget (ref := "AbsentPraise$Trials") (T := TX9) (v := .ref (X.2.1 9)) hC hP hin_X9 xo_X9 rfl 0 (by decide) (List.mem_of_getElem? (i := 2) rfl) rfl rfl dX9_firstOfRoute_22 ?_
            refine xget (ref := "AbsentPraise$Hill") (T := TX2) (v := .int (T_19 9 5)) hC hP hin_X2 (xo_H (by decide)) rfl 5 (by decide) (List.mem_of_getElem? (i := 3) rfl) rfl rfl dX9_firstOfRoute_25 ?_
            refine lv_icmp_ge (tgt := 64) hx hb dX9_firstOfRoute_28 (by decide) (fun c_5 => ?_) (fun c_5 => ?_)
            · have he_6 : f_X9_firstOfRoute_L19 (n + 1) T_19 x1_19 x3_19 x4_19 = T_19 := ((ip c_5 rfl))
              exact hex_19 _ he_6.symm _ _ hP hS ls (lv_sub hl [0, 1, 2] rfl)
            · refine lv_aload_n hx hb dX9_firstOfRoute_31 rfl (lv_at hl 0 rfl) ?_
              refine xget (ref := "AbsentPraise$Trials") (T := TX9) (v := .ref (X.2.1 17)) hC hP hin_X9 xo_X9 rfl 3 (by decide) (List.mem_of_getElem? (i := 4) rfl) rfl rfl dX9_firstOfRoute_32 ?_
              refine lv_iload hx hb dX9_firstOfRoute_35 (lv_at hl 3 rfl) ?_
              refine lv_aload_n hx hb dX9_firstOfRoute_37 rfl (lv_at hl 0 rfl) ?_
              refine lv_iload_n hx hb dX9_firstOfRoute_38 rfl (lv_at hl 1 rfl) ?_
              refine lv_iload hx hb dX9_firstOfRoute_39 (lv_at hl 3 rfl) ?_
              refine lv_iload_n hx hb dX9_firstOfRoute_41 rfl (lv_at hl 2 rfl) ?_
              refine xcV_iR (b := 16) (As := [.int x1_19, .int x4_19, .int x3_19]) (rest := [.int x4_19, .ref (X.2.1 17)]) hC hP hS (k_X9_heardIn l X T_19 x1_19 x4_19 x3_19) (cwV 3 hts gX9_firstOfRoute_X9_heardIn rfl rfl rfl hd_X9_heardIn ⟨Nat.le_of_ble_eq_true rfl, Nat.le_of_ble_eq_true rfl⟩) xo_X9 rfl rfl rfl hl.1 (Nat.le_of_ble_eq_true rfl) dX9_firstOfRoute_42 (fun r_7 hr_7 H locs hP hS => ?_)
              refine lv_aload_n hx hb dX9_firstOfRoute_45 rfl (lv_at hl 0 rfl) ?_
              refine xget (ref := "AbsentPraise$Trials") (T := TX9) (v := .ref (X.2.1 18)) hC hP hin_X9 xo_X9 rfl 4 (by decide) (List.mem_of_getElem? (i := 1) rfl) rfl rfl dX9_firstOfRoute_46 ?_
              refine lv_iload hx hb dX9_firstOfRoute_49 (lv_at hl 3 rfl) ?_
              refine xcSN_iR (As := [.ref (X.2.1 18), .int x4_19]) (rest := [.int r_7, .int x4_19, .ref (X.2.1 17)]) hC hP hS (k_X10_at l X T_19 18 x4_19 rfl) (va_cnB (host := "AbsentPraise") 2 hts gX9_firstOfRoute_X10_at_n45 rfl rfl rfl (xn_16 hN) (hts (.initialized RX10) (List.mem_of_getElem? (i := 31) rfl)) hs_X10_at ⟨Nat.le_of_ble_eq_true rfl, Nat.le_of_ble_eq_true rfl⟩) (hts (.static yX10_at) (List.mem_of_getElem? (i := 30) rfl)) rfl rfl hl.1 (Nat.le_of_ble_eq_true rfl) dX9_firstOfRoute_51 (fun r_8 hr_8 H locs hP hS => ?_)
              refine lv_iadd hx hb dX9_firstOfRoute_54 ?_
              refine xcSN_vW (As := [.ref (X.2.1 17), .int x4_19, .int (r_7 + r_8)]) (rest := []) hC hP hS (k_X10_put l X T_19 17 x4_19 (r_7 + r_8) rfl) (va_cnB (host := "AbsentPraise") 3 hts gX9_firstOfRoute_X10_put_n86 rfl rfl rfl (xn_21 hN) (hts (.initialized RX10) (List.mem_of_getElem? (i := 31) rfl)) hs_X10_put ⟨Nat.le_of_ble_eq_true rfl, Nat.le_of_ble_eq_true rfl⟩) (hts (.static yX10_put) (List.mem_of_getElem? (i := 52) rfl)) rfl rfl hl.1 (Nat.le_of_ble_eq_true rfl) dX9_firstOfRoute_55 (fun S_9 hS_9 H locs hP hS => ?_)
              refine lv_iinc (v := (x4_19 + 1)) (lv' := [(4, .int (x4_19 + 1)), (0, .ref (X.2.1 16)), (1, .int x1_19), (3, .int x3_19)]) hx hb dX9_firstOfRoute_58 hl (k := 3) rfl rfl (by decide) rfl (fun ls hl => ?_)
              refine lv_goto (tgt := 19) hx hb dX9_firstOfRoute_61 (by decide) ?_
              have he_10 : f_X9_firstOfRoute_L19 (n + 1) T_19 x1_19 x3_19 x4_19 = f_X9_firstOfRoute_L19 n S_9 x1_19 x3_19 (x4_19 + 1) := (by have hr_7 := hr_7.symm; have hr_8 := hr_8.symm; have hS_9 := hS_9.symm; subst hr_7 hr_8 hS_9; exact (iN c_5 rfl))
              exact ih_19 S_9 x1_19 x3_19 (x4_19 + 1) (by have hr_7 := hr_7.symm; have hr_8 := hr_8.symm; have hS_9 := hS_9.symm; subst hr_7 hr_8 hS_9; exact (sn hs_19 c_5)) (fun q hq => hex_19 q (hq.trans he_10.symm)) _ _ hP hS ls (lv_sub hl [1, 2, 3, 0] rfl)
        refine hLp_19 ((fu 0 (T_12 9 5))) T_12 x1_12 x3_12 0 (nl (sn hs_12 c_3)) (fun q_19 hq_19 H locs hP hS ls hl => ?_) _ _ hP hS ls (lv_sub hl [1, 2, 3, 0] rfl)
        refine lv_iconst (v := 0) hx hb dX9_firstOfRoute_64 (by decide) ?_
        refine lv_istore (lv' := [(4, .int 0), (0, .ref (X.2.1 16)), (1, .int x1_12), (3, .int x3_12)]) hx hb dX9_firstOfRoute_65 hl (by decide) rfl (fun ls hl => ?_)
        have hLp_67 : ∀ (n : Nat) (T_67 : xS) (x1_67 : Int32) (x3_67 : Int32) (x4_67 : Int32), s_X9_firstOfRoute_L67 n T_67 x1_67 x3_67 x4_67 → (∀ q : xS, q = f_X9_firstOfRoute_L67 n T_67 x1_67 x3_67 x4_67 → (∀ (H : Heap) (locs : List Loc), va_P X.1 vwCl (xW X q) H → va_S (xA X) s.heap H locs → ∀ (ls : Array Slot), lv_has ls 5 [(0, .ref (X.2.1 16)), (1, .int x1_67), (3, .int x3_67)] → W p l e ({ frames := 4, cells := 0, slots := 0, locals := 95 } : Room) s m ([.ref (X.2.1 16), .int p0, .int p1] : List Value).toArray below meth c H locs 0 0 (MQ below (va_Qi (fun (r : Int32) (u : xS) => r = (f_X9_firstOfRoute S p0 p1).1 ∧ u = (f_X9_firstOfRoute S p0 p1).2) (xI X) (xA X)) ([.ref (X.2.1 16), .int p0, .int p1] : List Value).toArray s 0 0 (xA X)) (F0 m 104 ls []))) → ∀ (H : Heap) (locs : List Loc), va_P X.1 vwCl (xW X T_67) H → va_S (xA X) s.heap H locs → ∀ (ls : Array Slot), lv_has ls 5 [(0, .ref (X.2.1 16)), (1, .int x1_67), (3, .int x3_67), (4, .int x4_67)] → W p l e ({ frames := 4, cells := 0, slots := 0, locals := 95 } : Room) s m ([.ref (X.2.1 16), .int p0, .int p1] : List Value).toArray below meth c H locs 0 0 (MQ below (va_Qi (fun (r : Int32) (u : xS) => r = (f_X9_firstOfRoute S p0 p1).1 ∧ u = (f_X9_firstOfRoute S p0 p1).2) (xI X) (xA X)) ([.ref (X.2.1 16), .int p0, .int p1] : List Value).toArray s 0 0 (xA X)) (F0 m 67 ls []) := by
          intro n
          induction n with
          | zero => intro T_67 x1_67 x3_67 x4_67 hs; exact hs.elim
          | succ n ih_67 =>
            intro T_67 x1_67 x3_67 x4_67 hs_67 hex_67 H locs hP hS ls hl
            refine lv_iload hx hb dX9_firstOfRoute_67 (lv_at hl 3 rfl) ?_
            refine lv_aload_n hx hb dX9_firstOfRoute_69 rfl (lv_at hl 0 rfl) ?_
            refine xget (ref := "AbsentPraise$Trials") (T := TX9) (v := .ref (X.2.1 9)) hC hP hin_X9 xo_X9 rfl 0 (by decide) (List.mem_of_getElem? (i := 2) rfl) rfl rfl dX9_firstOfRoute_70 ?_
            refine xget (ref := "AbsentPraise$Hill") (T := TX2) (v := .int (T_67 9 5)) hC hP hin_X2 (xo_H (by decide)) rfl 5 (by decide) (List.mem_of_getElem? (i := 3) rfl) rfl rfl dX9_firstOfRoute_73 ?_
            refine lv_icmp_ge (tgt := 104) hx hb dX9_firstOfRoute_76 (by decide) (fun c_11 => ?_) (fun c_11 => ?_)
            · have he_12 : f_X9_firstOfRoute_L67 (n + 1) T_67 x1_67 x3_67 x4_67 = T_67 := ((ip c_11 rfl))
              exact hex_67 _ he_12.symm _ _ hP hS ls (lv_sub hl [0, 1, 2] rfl)
            · refine lv_aload_n hx hb dX9_firstOfRoute_79 rfl (lv_at hl 0 rfl) ?_
              refine xget (ref := "AbsentPraise$Trials") (T := TX9) (v := .ref (X.2.1 18)) hC hP hin_X9 xo_X9 rfl 4 (by decide) (List.mem_of_getElem? (i := 1) rfl) rfl rfl dX9_firstOfRoute_80 ?_
              refine lv_iload hx hb dX9_firstOfRoute_83 (lv_at hl 3 rfl) ?_
              refine lv_aload_n hx hb dX9_firstOfRoute_85 rfl (lv_at hl 0 rfl) ?_
              refine lv_aload_n hx hb dX9_firstOfRoute_86 rfl (lv_at hl 0 rfl) ?_
              refine lv_iload hx hb dX9_firstOfRoute_87 (lv_at hl 3 rfl) ?_
              have hn_13 : s_X9_bestStep T_67 x4_67 := (nl (sn hs_67 c_11))
              refine xcV_iR (b := 16) (As := [.int x4_67]) (rest := [.ref (X.2.1 16), .int x4_67, .ref (X.2.1 18)]) hC hP hS (k_X9_bestStep l X T_67 x4_67 hn_13) (cwV 1 hts gX9_firstOfRoute_X9_bestStep rfl rfl rfl hd_X9_bestStep ⟨Nat.le_of_ble_eq_true rfl, Nat.le_of_ble_eq_true rfl⟩) xo_X9 rfl rfl rfl hl.1 (Nat.le_of_ble_eq_true rfl) dX9_firstOfRoute_89 (fun r_14 hr_14 H locs hP hS => ?_)
              refine xcV_iR (b := 16) (As := [.int r_14]) (rest := [.int x4_67, .ref (X.2.1 18)]) hC hP hS (k_X9_worthOf l X T_67 r_14) (cwV 1 hts gX9_firstOfRoute_X9_worthOf rfl rfl rfl hd_X9_worthOf ⟨Nat.le_of_ble_eq_true rfl, Nat.le_of_ble_eq_true rfl⟩) xo_X9 rfl rfl rfl hl.1 (Nat.le_of_ble_eq_true rfl) dX9_firstOfRoute_92 (fun r_15 hr_15 H locs hP hS => ?_)
              refine xcSN_vW (As := [.ref (X.2.1 18), .int x4_67, .int r_15]) (rest := []) hC hP hS (k_X10_put l X T_67 18 x4_67 r_15 rfl) (va_cnB (host := "AbsentPraise") 3 hts gX9_firstOfRoute_X10_put_n86 rfl rfl rfl (xn_21 hN) (hts (.initialized RX10) (List.mem_of_getElem? (i := 31) rfl)) hs_X10_put ⟨Nat.le_of_ble_eq_true rfl, Nat.le_of_ble_eq_true rfl⟩) (hts (.static yX10_put) (List.mem_of_getElem? (i := 52) rfl)) rfl rfl hl.1 (Nat.le_of_ble_eq_true rfl) dX9_firstOfRoute_95 (fun S_16 hS_16 H locs hP hS => ?_)
              refine lv_iinc (v := (x4_67 + 1)) (lv' := [(4, .int (x4_67 + 1)), (0, .ref (X.2.1 16)), (1, .int x1_67), (3, .int x3_67)]) hx hb dX9_firstOfRoute_98 hl (k := 3) rfl rfl (by decide) rfl (fun ls hl => ?_)
              refine lv_goto (tgt := 67) hx hb dX9_firstOfRoute_101 (by decide) ?_
              have he_17 : f_X9_firstOfRoute_L67 (n + 1) T_67 x1_67 x3_67 x4_67 = f_X9_firstOfRoute_L67 n S_16 x1_67 x3_67 (x4_67 + 1) := (by have hr_14 := hr_14.symm; have hr_15 := hr_15.symm; have hS_16 := hS_16.symm; subst hr_14 hr_15 hS_16; exact (iN c_11 rfl))
              exact ih_67 S_16 x1_67 x3_67 (x4_67 + 1) (by have hr_14 := hr_14.symm; have hr_15 := hr_15.symm; have hS_16 := hS_16.symm; subst hr_14 hr_15 hS_16; exact (nr (sn hs_67 c_11))) (fun q hq => hex_67 q (hq.trans he_17.symm)) _ _ hP hS ls (lv_sub hl [1, 2, 3, 0] rfl)
        refine hLp_67 ((fu 0 (q_19 9 5))) q_19 x1_12 x3_12 0 (by have hq_19 := hq_19.symm; subst hq_19; exact nl (nr (sn hs_12 c_3))) (fun q_67 hq_67 H locs hP hS ls hl => ?_) _ _ hP hS ls (lv_sub hl [1, 2, 3, 0] rfl)
        refine lv_iinc (v := (x3_12 + (-1))) (lv' := [(3, .int (x3_12 + (-1))), (0, .ref (X.2.1 16)), (1, .int x1_12)]) hx hb dX9_firstOfRoute_104 hl (k := 2) rfl rfl (by decide) rfl (fun ls hl => ?_)
        refine lv_goto (tgt := 12) hx hb dX9_firstOfRoute_107 (by decide) ?_
        have he_18 : f_X9_firstOfRoute_L12 (n + 1) T_12 x1_12 x3_12 = f_X9_firstOfRoute_L12 n q_67 x1_12 (x3_12 + (-1)) := (by have hq_19 := hq_19.symm; have hq_67 := hq_67.symm; subst hq_19 hq_67; exact (iN c_3 rfl))
        exact ih_12 q_67 x1_12 (x3_12 + (-1)) (by have hq_19 := hq_19.symm; have hq_67 := hq_67.symm; subst hq_19 hq_67; exact (nr (nr (sn hs_12 c_3)))) (fun q hq => hex_12 q (hq.trans he_18.symm)) _ _ hP hS ls (lv_sub hl [1, 2, 0] rfl)
  refine hLp_12 ((fd (p1 - 1))) S_2 p0 (p1 - 1) (by have hS_2 := hS_2.symm; subst hS_2; exact nl (nr hs)) (fun q_12 hq_12 H locs hP hS ls hl => ?_) _ _ hP hS ls (lv_sub hl [1, 2, 0] rfl)
  refine lv_aload_n hx hb dX9_firstOfRoute_110 rfl (lv_at hl 0 rfl) ?_
  refine lv_aload_n hx hb dX9_firstOfRoute_111 rfl (lv_at hl 0 rfl) ?_
  refine xget (ref := "AbsentPraise$Trials") (T := TX9) (v := .ref (X.2.1 32)) hC hP hin_X9 xo_X9 rfl 1 (by decide) (List.mem_of_getElem? (i := 5) rfl) rfl rfl dX9_firstOfRoute_112 ?_
  refine xget (ref := "AbsentPraise$Talk") (T := TX7) (v := .ref (X.2.1 33)) hC hP hin_X7 (xo_T (by decide)) rfl 0 (by decide) (List.mem_of_getElem? (i := 6) rfl) rfl rfl dX9_firstOfRoute_115 ?_
  refine lv_iload_n hx hb dX9_firstOfRoute_118 rfl (lv_at hl 1 rfl) ?_
  refine xcSN_iR (As := [.ref (X.2.1 33), .int p0]) (rest := [.ref (X.2.1 16)]) hC hP hS (k_X10_at l X q_12 33 p0 rfl) (va_cnB (host := "AbsentPraise") 2 hts gX9_firstOfRoute_X10_at_n45 rfl rfl rfl (xn_16 hN) (hts (.initialized RX10) (List.mem_of_getElem? (i := 31) rfl)) hs_X10_at ⟨Nat.le_of_ble_eq_true rfl, Nat.le_of_ble_eq_true rfl⟩) (hts (.static yX10_at) (List.mem_of_getElem? (i := 30) rfl)) rfl rfl hl.1 (Nat.le_of_ble_eq_true rfl) dX9_firstOfRoute_119 (fun r_19 hr_19 H locs hP hS => ?_)
  have hn_20 : s_X9_bestStep q_12 r_19 := (by have hS_2 := hS_2.symm; have hq_12 := hq_12.symm; have hr_19 := hr_19.symm; subst hS_2 hq_12 hr_19; exact nl (nr (nr hs)))
  refine xcV_iR (b := 16) (As := [.int r_19]) (rest := []) hC hP hS (k_X9_bestStep l X q_12 r_19 hn_20) (cwV 1 hts gX9_firstOfRoute_X9_bestStep rfl rfl rfl hd_X9_bestStep ⟨Nat.le_of_ble_eq_true rfl, Nat.le_of_ble_eq_true rfl⟩) xo_X9 rfl rfl rfl hl.1 (Nat.le_of_ble_eq_true rfl) dX9_firstOfRoute_122 (fun r_21 hr_21 H locs hP hS => ?_)
  exact xret_iW hC hP hS hb hr ((by have hS_2 := hS_2.symm; have hq_12 := hq_12.symm; have hr_19 := hr_19.symm; have hr_21 := hr_21.symm; subst hS_2 hq_12 hr_19 hr_21; exact rfl)) dX9_firstOfRoute_125 hlocks
theorem hd_X9_saidTogether : yX9_saidTogether.cls = RX9 ∧ yX9_saidTogether.cls ≠ "java/lang/invoke/MethodHandle" ∧ yX9_saidTogether.cls ≠ "java/lang/invoke/VarHandle" ∧ (parseMethodDescriptor yX9_saidTogether.desc).map (fun d => d.parameters.length) = some 2 := by decide +kernel
set_option maxHeartbeats 4000000 in
set_option maxRecDepth 100000 in
theorem k_X9_saidTogether (l : Launch) (X : xX) (S : xS) (p0 : Int32) (p1 : Int32) (hs : s_X9_saidTogether S p0 p1) : Met l yX9_saidTogether wsX9_saidTogether ({ frames := 3, cells := 0, slots := 0, locals := 70 } : Room) (va_Pc [.ref (X.2.1 16), .int p0, .int p1] (xI X S)) (va_Qi (fun (r : Int32) (u : xS) => r = (f_X9_saidTogether S p0 p1) ∧ u = S) (xI X) (xA X)) 0 0 (xA X) := by
  refine Met.ofW (cc := cX9_saidTogether) (maxL := 8) (ret := (some .int)) (by decide +kernel) rfl ?_
  intro p e s m args below meth c s₁ B hml hv
  obtain ⟨rfl, hP, hK, hN, hJ⟩ := hv
  have hx := B.exec
  have hb := B.bytes
  have hr := B.returns
  have hts := atoms_spec (ws := wsX9_saidTogether) B.pre
  have hown : s.vm.findClass RX9 = some m.cls := findClass_of_methodNamed B.named
  have hlocks := B.notSynchronized
  have hC : xC X p m c cX9_saidTogether 8 s _ wsX9_saidTogether RX9 := ⟨⟨hx, hb, hml, hown, hts⟩, hK, hN, hJ⟩
  have hS : va_S (xA X) s.heap s.heap [] := va_S.rf
  have hin_X2 : ∀ w ∈ u_ws RX2 TX2 10, w ∈ wsX9_saidTogether := by decide +kernel
  have hin_X7 : ∀ w ∈ u_ws RX7 TX7 6, w ∈ wsX9_saidTogether := by decide +kernel
  have hin_X9 : ∀ w ∈ u_ws RX9 TX9 5, w ∈ wsX9_saidTogether := by decide +kernel
  have hl := lv_entry ([.ref (X.2.1 16), .int p0, .int p1]) (n := 8) (Nat.le_of_ble_eq_true rfl)
  rw [lg_entry_eq]
  generalize (lg_sl ([.ref (X.2.1 16), .int p0, .int p1]) ++ List.replicate (8 - (lg_sl ([.ref (X.2.1 16), .int p0, .int p1])).length) Slot.unset).toArray = ls at hl ⊢
  have hl : lv_has ls 8 [(0, .ref (X.2.1 16)), (1, .int p0), (2, .int p1)] := hl
  refine lv_iconst (v := 0) hx hb dX9_saidTogether_0 (by decide) ?_
  refine lv_istore_n (lv' := [(3, .int 0), (0, .ref (X.2.1 16)), (1, .int p0), (2, .int p1)]) hx hb dX9_saidTogether_1 rfl hl (by decide) rfl (fun ls hl => ?_)
  refine lv_iconst (v := 0) hx hb dX9_saidTogether_2 (by decide) ?_
  refine lv_istore (lv' := [(4, .int 0), (3, .int 0), (0, .ref (X.2.1 16)), (1, .int p0), (2, .int p1)]) hx hb dX9_saidTogether_3 hl (by decide) rfl (fun ls hl => ?_)
  have hLp_5 : ∀ (n : Nat) (x1_5 : Int32) (x2_5 : Int32) (x3_5 : Int32) (x4_5 : Int32), s_X9_saidTogether_L5 n S x1_5 x2_5 x3_5 x4_5 → (∀ q : Int32, q = f_X9_saidTogether_L5 n S x1_5 x2_5 x3_5 x4_5 → (∀ (H : Heap) (locs : List Loc), va_P X.1 vwCl (xW X S) H → va_S (xA X) s.heap H locs → ∀ (ls : Array Slot), lv_has ls 8 [(3, .int q)] → W p l e ({ frames := 3, cells := 0, slots := 0, locals := 70 } : Room) s m ([.ref (X.2.1 16), .int p0, .int p1] : List Value).toArray below meth c H locs 0 0 (MQ below (va_Qi (fun (r : Int32) (u : xS) => r = (f_X9_saidTogether S p0 p1) ∧ u = S) (xI X) (xA X)) ([.ref (X.2.1 16), .int p0, .int p1] : List Value).toArray s 0 0 (xA X)) (F0 m 132 ls []))) → ∀ (H : Heap) (locs : List Loc), va_P X.1 vwCl (xW X S) H → va_S (xA X) s.heap H locs → ∀ (ls : Array Slot), lv_has ls 8 [(0, .ref (X.2.1 16)), (1, .int x1_5), (2, .int x2_5), (3, .int x3_5), (4, .int x4_5)] → W p l e ({ frames := 3, cells := 0, slots := 0, locals := 70 } : Room) s m ([.ref (X.2.1 16), .int p0, .int p1] : List Value).toArray below meth c H locs 0 0 (MQ below (va_Qi (fun (r : Int32) (u : xS) => r = (f_X9_saidTogether S p0 p1) ∧ u = S) (xI X) (xA X)) ([.ref (X.2.1 16), .int p0, .int p1] : List Value).toArray s 0 0 (xA X)) (F0 m 5 ls []) := by
    intro n
    induction n with
    | zero => intro x1_5 x2_5 x3_5 x4_5 hs; exact hs.elim
    | succ n ih_5 =>
      intro x1_5 x2_5 x3_5 x4_5 hs_5 hex_5 H locs hP hS ls hl
      refine lv_iload hx hb dX9_saidTogether_5 (lv_at hl 4 rfl) ?_
      refine lv_aload_n hx hb dX9_saidTogether_7 rfl (lv_at hl 0 rfl) ?_
      refine xget (ref := "AbsentPraise$Trials") (T := TX9) (v := .ref (X.2.1 9)) hC hP hin_X9 xo_X9 rfl 0 (by decide) (List.mem_of_getElem? (i := 1) rfl) rfl rfl dX9_saidTogether_8 ?_
      refine xget (ref := "AbsentPraise$Hill") (T := TX2) (v := .int (S 9 9)) hC hP hin_X2 (xo_H (by decide)) rfl 9 (by decide) (List.mem_of_getElem? (i := 2) rfl) rfl rfl dX9_saidTogether_11 ?_
      refine lv_icmp_ge (tgt := 132) hx hb dX9_saidTogether_14 (by decide) (fun c_1 => ?_) (fun c_1 => ?_)
      · have he_2 : f_X9_saidTogether_L5 (n + 1) S x1_5 x2_5 x3_5 x4_5 = x3_5 := ((ip c_1 rfl))
        exact hex_5 _ he_2.symm _ _ hP hS ls (lv_sub hl [3] rfl)
      · refine lv_aload_n hx hb dX9_saidTogether_17 rfl (lv_at hl 0 rfl) ?_
        refine xget (ref := "AbsentPraise$Trials") (T := TX9) (v := .ref (X.2.1 15)) hC hP hin_X9 xo_X9 rfl 2 (by decide) (List.mem_of_getElem? (i := 3) rfl) rfl rfl dX9_saidTogether_18 ?_
        refine lv_iload hx hb dX9_saidTogether_21 (lv_at hl 4 rfl) ?_
        refine lv_aload_n hx hb dX9_saidTogether_23 rfl (lv_at hl 0 rfl) ?_
        refine xget (ref := "AbsentPraise$Trials") (T := TX9) (v := .ref (X.2.1 32)) hC hP hin_X9 xo_X9 rfl 1 (by decide) (List.mem_of_getElem? (i := 4) rfl) rfl rfl dX9_saidTogether_24 ?_
        refine xget (ref := "AbsentPraise$Talk") (T := TX7) (v := .int (S 32 5)) hC hP hin_X7 (xo_T (by decide)) rfl 5 (by decide) (List.mem_of_getElem? (i := 5) rfl) rfl rfl dX9_saidTogether_27 ?_
        refine xcV_iR (b := 15) (As := [.int x4_5, .int (S 32 5)]) (rest := []) hC hP hS (k_X4_spokenOfBy l X S x4_5 (S 32 5)) (cwV 2 hts gX9_saidTogether_X4_spokenOfBy rfl rfl rfl hd_X4_spokenOfBy ⟨Nat.le_of_ble_eq_true rfl, Nat.le_of_ble_eq_true rfl⟩) xo_X4 rfl rfl rfl hl.1 (Nat.le_of_ble_eq_true rfl) dX9_saidTogether_30 (fun r_3 hr_3 H locs hP hS => ?_)
        refine lv_istore (lv' := [(5, .int r_3), (0, .ref (X.2.1 16)), (1, .int x1_5), (2, .int x2_5), (3, .int x3_5), (4, .int x4_5)]) hx hb dX9_saidTogether_33 hl (by decide) rfl (fun ls hl => ?_)
        refine lv_iload hx hb dX9_saidTogether_35 (lv_at hl 0 rfl) ?_
        refine lv_iload hx hb dX9_saidTogether_37 (lv_at hl 5 rfl) ?_
        refine lv_icmp_eq (tgt := 126) hx hb dX9_saidTogether_39 (by decide) (fun c_4 => ?_) (fun c_4 => ?_)
        · refine lv_iinc (v := (x4_5 + 1)) (lv' := [(4, .int (x4_5 + 1)), (5, .int r_3), (0, .ref (X.2.1 16)), (1, .int x1_5), (2, .int x2_5), (3, .int x3_5)]) hx hb dX9_saidTogether_126 hl (k := 5) rfl rfl (by decide) rfl (fun ls hl => ?_)
          refine lv_goto (tgt := 5) hx hb dX9_saidTogether_129 (by decide) ?_
          have he_5 : f_X9_saidTogether_L5 (n + 1) S x1_5 x2_5 x3_5 x4_5 = f_X9_saidTogether_L5 n S x1_5 x2_5 x3_5 (x4_5 + 1) := (by have hr_3 := hr_3.symm; subst hr_3; exact (iN c_1 (ip c_4 rfl)))
          exact ih_5 x1_5 x2_5 x3_5 (x4_5 + 1) (by have hr_3 := hr_3.symm; subst hr_3; exact (sp (sn hs_5 c_1) c_4)) (fun q hq => hex_5 q (hq.trans he_5.symm)) _ _ hP hS ls (lv_sub hl [2, 3, 4, 5, 0] rfl)
        · refine lv_iload_n hx hb dX9_saidTogether_42 rfl (lv_at hl 2 rfl) ?_
          refine lv_iload hx hb dX9_saidTogether_43 (lv_at hl 5 rfl) ?_
          refine xcSN_iR (As := [.int x1_5, .int x4_5]) (rest := []) hC hP hS (k_X10_has l X S x1_5 x4_5) (va_cnB (host := "AbsentPraise") 2 hts gX9_saidTogether_X10_has_n56 rfl rfl rfl (xn_15 hN) (hts (.initialized RX10) (List.mem_of_getElem? (i := 20) rfl)) hs_X10_has ⟨Nat.le_of_ble_eq_true rfl, Nat.le_of_ble_eq_true rfl⟩) (hts (.static yX10_has) (List.mem_of_getElem? (i := 19) rfl)) rfl rfl hl.1 (Nat.le_of_ble_eq_true rfl) dX9_saidTogether_45 (fun r_6 hp_r_6 H locs hP hS => ?_)
          obtain ⟨hr_6, hzr_6⟩ := hp_r_6
          refine lv_if_eq (tgt := 55) hx hb dX9_saidTogether_48 (by decide) (fun c_7 => ?_) (fun c_7 => ?_)
          · refine lv_aload_n hx hb dX9_saidTogether_55 rfl (lv_at hl 1 rfl) ?_
            refine xget (ref := "AbsentPraise$Trials") (T := TX9) (v := .ref (X.2.1 32)) hC hP hin_X9 xo_X9 rfl 1 (by decide) (List.mem_of_getElem? (i := 4) rfl) rfl rfl dX9_saidTogether_56 ?_
            refine xget (ref := "AbsentPraise$Talk") (T := TX7) (v := .ref (X.2.1 33)) hC hP hin_X7 (xo_T (by decide)) rfl 0 (by decide) (List.mem_of_getElem? (i := 6) rfl) rfl rfl dX9_saidTogether_59 ?_
            refine lv_iload hx hb dX9_saidTogether_62 (lv_at hl 5 rfl) ?_
            refine xcSN_iR (As := [.ref (X.2.1 33), .int x4_5]) (rest := []) hC hP hS (k_X10_at l X S 33 x4_5 rfl) (va_cnB (host := "AbsentPraise") 2 hts gX9_saidTogether_X10_at_n45 rfl rfl rfl (xn_16 hN) (hts (.initialized RX10) (List.mem_of_getElem? (i := 20) rfl)) hs_X10_at ⟨Nat.le_of_ble_eq_true rfl, Nat.le_of_ble_eq_true rfl⟩) (hts (.static yX10_at) (List.mem_of_getElem? (i := 22) rfl)) rfl rfl hl.1 (Nat.le_of_ble_eq_true rfl) dX9_saidTogether_64 (fun r_8 hr_8 H locs hP hS => ?_)
            refine lv_istore (lv' := [(6, .int r_8), (5, .int r_3), (0, .ref (X.2.1 16)), (1, .int x1_5), (2, .int x2_5), (3, .int x3_5), (4, .int x4_5)]) hx hb dX9_saidTogether_67 hl (by decide) rfl (fun ls hl => ?_)
            refine lv_iload_n hx hb dX9_saidTogether_69 rfl (lv_at hl 3 rfl) ?_
            refine lv_iload hx hb dX9_saidTogether_70 (lv_at hl 1 rfl) ?_
            refine xcSN_iR (As := [.int x1_5, .int r_3]) (rest := []) hC hP hS (k_X10_has l X S x1_5 r_3) (va_cnB (host := "AbsentPraise") 2 hts gX9_saidTogether_X10_has_n56 rfl rfl rfl (xn_15 hN) (hts (.initialized RX10) (List.mem_of_getElem? (i := 20) rfl)) hs_X10_has ⟨Nat.le_of_ble_eq_true rfl, Nat.le_of_ble_eq_true rfl⟩) (hts (.static yX10_has) (List.mem_of_getElem? (i := 19) rfl)) rfl rfl hl.1 (Nat.le_of_ble_eq_true rfl) dX9_saidTogether_72 (fun r_9 hp_r_9 H locs hP hS => ?_)
            obtain ⟨hr_9, hzr_9⟩ := hp_r_9
            refine lv_if_eq (tgt := 82) hx hb dX9_saidTogether_75 (by decide) (fun c_10 => ?_) (fun c_10 => ?_)
            · refine lv_aload_n hx hb dX9_saidTogether_82 rfl (lv_at hl 2 rfl) ?_
              refine xget (ref := "AbsentPraise$Trials") (T := TX9) (v := .ref (X.2.1 32)) hC hP hin_X9 xo_X9 rfl 1 (by decide) (List.mem_of_getElem? (i := 4) rfl) rfl rfl dX9_saidTogether_83 ?_
              refine xget (ref := "AbsentPraise$Talk") (T := TX7) (v := .ref (X.2.1 33)) hC hP hin_X7 (xo_T (by decide)) rfl 0 (by decide) (List.mem_of_getElem? (i := 6) rfl) rfl rfl dX9_saidTogether_86 ?_
              refine lv_iload hx hb dX9_saidTogether_89 (lv_at hl 1 rfl) ?_
              refine xcSN_iR (As := [.ref (X.2.1 33), .int r_3]) (rest := []) hC hP hS (k_X10_at l X S 33 r_3 rfl) (va_cnB (host := "AbsentPraise") 2 hts gX9_saidTogether_X10_at_n45 rfl rfl rfl (xn_16 hN) (hts (.initialized RX10) (List.mem_of_getElem? (i := 20) rfl)) hs_X10_at ⟨Nat.le_of_ble_eq_true rfl, Nat.le_of_ble_eq_true rfl⟩) (hts (.static yX10_at) (List.mem_of_getElem? (i := 22) rfl)) rfl rfl hl.1 (Nat.le_of_ble_eq_true rfl) dX9_saidTogether_91 (fun r_11 hr_11 H locs hP hS => ?_)
              refine lv_istore (lv' := [(7, .int r_11), (6, .int r_8), (5, .int r_3), (0, .ref (X.2.1 16)), (1, .int x1_5), (2, .int x2_5), (3, .int x3_5), (4, .int x4_5)]) hx hb dX9_saidTogether_94 hl (by decide) rfl (fun ls hl => ?_)
              refine lv_iload_n hx hb dX9_saidTogether_96 rfl (lv_at hl 6 rfl) ?_
              refine lv_aload_n hx hb dX9_saidTogether_97 rfl (lv_at hl 3 rfl) ?_
              refine xget (ref := "AbsentPraise$Trials") (T := TX9) (v := .ref (X.2.1 15)) hC hP hin_X9 xo_X9 rfl 2 (by decide) (List.mem_of_getElem? (i := 3) rfl) rfl rfl dX9_saidTogether_98 ?_
              refine lv_iload hx hb dX9_saidTogether_101 (lv_at hl 7 rfl) ?_
              refine lv_iload hx hb dX9_saidTogether_103 (lv_at hl 1 rfl) ?_
              refine lv_iload hx hb dX9_saidTogether_105 (lv_at hl 2 rfl) ?_
              refine lv_iload hx hb dX9_saidTogether_107 (lv_at hl 0 rfl) ?_
              refine lv_aload_n hx hb dX9_saidTogether_109 rfl (lv_at hl 3 rfl) ?_
              refine xget (ref := "AbsentPraise$Trials") (T := TX9) (v := .ref (X.2.1 32)) hC hP hin_X9 xo_X9 rfl 1 (by decide) (List.mem_of_getElem? (i := 4) rfl) rfl rfl dX9_saidTogether_110 ?_
              refine xget (ref := "AbsentPraise$Talk") (T := TX7) (v := .int (S 32 4)) hC hP hin_X7 (xo_T (by decide)) rfl 4 (by decide) (List.mem_of_getElem? (i := 7) rfl) rfl rfl dX9_saidTogether_113 ?_
              refine lv_iload hx hb dX9_saidTogether_116 (lv_at hl 2 rfl) ?_
              refine xcSN_iR (As := [.int (S 32 4), .int r_3]) (rest := [.int r_11, .int r_3, .int r_8, .int x4_5, .ref (X.2.1 15), .int x3_5]) hC hP hS (k_X10_has l X S (S 32 4) r_3) (va_cnB (host := "AbsentPraise") 2 hts gX9_saidTogether_X10_has_n56 rfl rfl rfl (xn_15 hN) (hts (.initialized RX10) (List.mem_of_getElem? (i := 20) rfl)) hs_X10_has ⟨Nat.le_of_ble_eq_true rfl, Nat.le_of_ble_eq_true rfl⟩) (hts (.static yX10_has) (List.mem_of_getElem? (i := 19) rfl)) rfl rfl hl.1 (Nat.le_of_ble_eq_true rfl) dX9_saidTogether_118 (fun r_12 hp_r_12 H locs hP hS => ?_)
              obtain ⟨hr_12, hzr_12⟩ := hp_r_12
              refine xcV_iR (b := 15) (As := [.int x4_5, .int r_8, .int r_3, .int r_11, .int r_12]) (rest := [.int x3_5]) hC hP hS (k_X4_says l X S x4_5 r_8 r_3 r_11 r_12) (cwV 5 hts gX9_saidTogether_X4_says rfl rfl rfl hd_X4_says ⟨Nat.le_of_ble_eq_true rfl, Nat.le_of_ble_eq_true rfl⟩) xo_X4 rfl rfl rfl hl.1 (Nat.le_of_ble_eq_true rfl) dX9_saidTogether_121 (fun r_13 hr_13 H locs hP hS => ?_)
              refine lv_iadd hx hb dX9_saidTogether_124 ?_
              refine lv_istore_n (lv' := [(3, .int (x3_5 + r_13)), (7, .int r_11), (6, .int r_8), (5, .int r_3), (0, .ref (X.2.1 16)), (1, .int x1_5), (2, .int x2_5), (4, .int x4_5)]) hx hb dX9_saidTogether_125 rfl hl (by decide) rfl (fun ls hl => ?_)
              refine lv_iinc (v := (x4_5 + 1)) (lv' := [(4, .int (x4_5 + 1)), (3, .int (x3_5 + r_13)), (7, .int r_11), (6, .int r_8), (5, .int r_3), (0, .ref (X.2.1 16)), (1, .int x1_5), (2, .int x2_5)]) hx hb dX9_saidTogether_126 hl (k := 7) rfl rfl (by decide) rfl (fun ls hl => ?_)
              refine lv_goto (tgt := 5) hx hb dX9_saidTogether_129 (by decide) ?_
              have he_14 : f_X9_saidTogether_L5 (n + 1) S x1_5 x2_5 x3_5 x4_5 = f_X9_saidTogether_L5 n S x1_5 x2_5 (x3_5 + r_13) (x4_5 + 1) := (by have hr_3 := hr_3.symm; have hr_6 := hr_6.symm; have hr_8 := hr_8.symm; have hr_9 := hr_9.symm; have hr_11 := hr_11.symm; have hr_12 := hr_12.symm; have hr_13 := hr_13.symm; subst hr_3 hr_6 hr_8 hr_9 hr_11 hr_12 hr_13; exact (iN c_1 (iN c_4 (ip c_7 (ip c_10 rfl)))))
              exact ih_5 x1_5 x2_5 (x3_5 + r_13) (x4_5 + 1) (by have hr_3 := hr_3.symm; have hr_6 := hr_6.symm; have hr_8 := hr_8.symm; have hr_9 := hr_9.symm; have hr_11 := hr_11.symm; have hr_12 := hr_12.symm; have hr_13 := hr_13.symm; subst hr_3 hr_6 hr_8 hr_9 hr_11 hr_12 hr_13; exact (sp (sp (sn (sn hs_5 c_1) c_4) c_7) c_10)) (fun q hq => hex_5 q (hq.trans he_14.symm)) _ _ hP hS ls (lv_sub hl [5, 6, 7, 1, 0] rfl)
            · refine lv_iload_n hx hb dX9_saidTogether_78 rfl (lv_at hl 4 rfl) ?_
              refine lv_goto (tgt := 94) hx hb dX9_saidTogether_79 (by decide) ?_
              refine lv_istore (lv' := [(7, .int x2_5), (6, .int r_8), (5, .int r_3), (0, .ref (X.2.1 16)), (1, .int x1_5), (2, .int x2_5), (3, .int x3_5), (4, .int x4_5)]) hx hb dX9_saidTogether_94 hl (by decide) rfl (fun ls hl => ?_)
              refine lv_iload_n hx hb dX9_saidTogether_96 rfl (lv_at hl 6 rfl) ?_
              refine lv_aload_n hx hb dX9_saidTogether_97 rfl (lv_at hl 3 rfl) ?_
              refine xget (ref := "AbsentPraise$Trials") (T := TX9) (v := .ref (X.2.1 15)) hC hP hin_X9 xo_X9 rfl 2 (by decide) (List.mem_of_getElem? (i := 3) rfl) rfl rfl dX9_saidTogether_98 ?_
              refine lv_iload hx hb dX9_saidTogether_101 (lv_at hl 7 rfl) ?_
              refine lv_iload hx hb dX9_saidTogether_103 (lv_at hl 1 rfl) ?_
              refine lv_iload hx hb dX9_saidTogether_105 (lv_at hl 2 rfl) ?_
              refine lv_iload hx hb dX9_saidTogether_107 (lv_at hl 0 rfl) ?_
              refine lv_aload_n hx hb dX9_saidTogether_109 rfl (lv_at hl 3 rfl) ?_
              refine xget (ref := "AbsentPraise$Trials") (T := TX9) (v := .ref (X.2.1 32)) hC hP hin_X9 xo_X9 rfl 1 (by decide) (List.mem_of_getElem? (i := 4) rfl) rfl rfl dX9_saidTogether_110 ?_
              refine xget (ref := "AbsentPraise$Talk") (T := TX7) (v := .int (S 32 4)) hC hP hin_X7 (xo_T (by decide)) rfl 4 (by decide) (List.mem_of_getElem? (i := 7) rfl) rfl rfl dX9_saidTogether_113 ?_
              refine lv_iload hx hb dX9_saidTogether_116 (lv_at hl 2 rfl) ?_
              refine xcSN_iR (As := [.int (S 32 4), .int r_3]) (rest := [.int x2_5, .int r_3, .int r_8, .int x4_5, .ref (X.2.1 15), .int x3_5]) hC hP hS (k_X10_has l X S (S 32 4) r_3) (va_cnB (host := "AbsentPraise") 2 hts gX9_saidTogether_X10_has_n56 rfl rfl rfl (xn_15 hN) (hts (.initialized RX10) (List.mem_of_getElem? (i := 20) rfl)) hs_X10_has ⟨Nat.le_of_ble_eq_true rfl, Nat.le_of_ble_eq_true rfl⟩) (hts (.static yX10_has) (List.mem_of_getElem? (i := 19) rfl)) rfl rfl hl.1 (Nat.le_of_ble_eq_true rfl) dX9_saidTogether_118 (fun r_15 hp_r_15 H locs hP hS => ?_)
              obtain ⟨hr_15, hzr_15⟩ := hp_r_15
              refine xcV_iR (b := 15) (As := [.int x4_5, .int r_8, .int r_3, .int x2_5, .int r_15]) (rest := [.int x3_5]) hC hP hS (k_X4_says l X S x4_5 r_8 r_3 x2_5 r_15) (cwV 5 hts gX9_saidTogether_X4_says rfl rfl rfl hd_X4_says ⟨Nat.le_of_ble_eq_true rfl, Nat.le_of_ble_eq_true rfl⟩) xo_X4 rfl rfl rfl hl.1 (Nat.le_of_ble_eq_true rfl) dX9_saidTogether_121 (fun r_16 hr_16 H locs hP hS => ?_)
              refine lv_iadd hx hb dX9_saidTogether_124 ?_
              refine lv_istore_n (lv' := [(3, .int (x3_5 + r_16)), (7, .int x2_5), (6, .int r_8), (5, .int r_3), (0, .ref (X.2.1 16)), (1, .int x1_5), (2, .int x2_5), (4, .int x4_5)]) hx hb dX9_saidTogether_125 rfl hl (by decide) rfl (fun ls hl => ?_)
              refine lv_iinc (v := (x4_5 + 1)) (lv' := [(4, .int (x4_5 + 1)), (3, .int (x3_5 + r_16)), (7, .int x2_5), (6, .int r_8), (5, .int r_3), (0, .ref (X.2.1 16)), (1, .int x1_5), (2, .int x2_5)]) hx hb dX9_saidTogether_126 hl (k := 7) rfl rfl (by decide) rfl (fun ls hl => ?_)
              refine lv_goto (tgt := 5) hx hb dX9_saidTogether_129 (by decide) ?_
              have he_17 : f_X9_saidTogether_L5 (n + 1) S x1_5 x2_5 x3_5 x4_5 = f_X9_saidTogether_L5 n S x1_5 x2_5 (x3_5 + r_16) (x4_5 + 1) := (by have hr_3 := hr_3.symm; have hr_6 := hr_6.symm; have hr_8 := hr_8.symm; have hr_9 := hr_9.symm; have hr_15 := hr_15.symm; have hr_16 := hr_16.symm; subst hr_3 hr_6 hr_8 hr_9 hr_15 hr_16; exact (iN c_1 (iN c_4 (ip c_7 (iN c_10 rfl)))))
              exact ih_5 x1_5 x2_5 (x3_5 + r_16) (x4_5 + 1) (by have hr_3 := hr_3.symm; have hr_6 := hr_6.symm; have hr_8 := hr_8.symm; have hr_9 := hr_9.symm; have hr_15 := hr_15.symm; have hr_16 := hr_16.symm; subst hr_3 hr_6 hr_8 hr_9 hr_15 hr_16; exact (sn (sp (sn (sn hs_5 c_1) c_4) c_7) c_10)) (fun q hq => hex_5 q (hq.trans he_17.symm)) _ _ hP hS ls (lv_sub hl [5, 6, 7, 1, 0] rfl)
          · refine lv_iload_n hx hb dX9_saidTogether_51 rfl (lv_at hl 3 rfl) ?_
            refine lv_goto (tgt := 67) hx hb dX9_saidTogether_52 (by decide) ?_
            refine lv_istore (lv' := [(6, .int x2_5), (5, .int r_3), (0, .ref (X.2.1 16)), (1, .int x1_5), (2, .int x2_5), (3, .int x3_5), (4, .int x4_5)]) hx hb dX9_saidTogether_67 hl (by decide) rfl (fun ls hl => ?_)
            refine lv_iload_n hx hb dX9_saidTogether_69 rfl (lv_at hl 3 rfl) ?_
            refine lv_iload hx hb dX9_saidTogether_70 (lv_at hl 1 rfl) ?_
            refine xcSN_iR (As := [.int x1_5, .int r_3]) (rest := []) hC hP hS (k_X10_has l X S x1_5 r_3) (va_cnB (host := "AbsentPraise") 2 hts gX9_saidTogether_X10_has_n56 rfl rfl rfl (xn_15 hN) (hts (.initialized RX10) (List.mem_of_getElem? (i := 20) rfl)) hs_X10_has ⟨Nat.le_of_ble_eq_true rfl, Nat.le_of_ble_eq_true rfl⟩) (hts (.static yX10_has) (List.mem_of_getElem? (i := 19) rfl)) rfl rfl hl.1 (Nat.le_of_ble_eq_true rfl) dX9_saidTogether_72 (fun r_18 hp_r_18 H locs hP hS => ?_)
            obtain ⟨hr_18, hzr_18⟩ := hp_r_18
            refine lv_if_eq (tgt := 82) hx hb dX9_saidTogether_75 (by decide) (fun c_19 => ?_) (fun c_19 => ?_)
            · refine lv_aload_n hx hb dX9_saidTogether_82 rfl (lv_at hl 2 rfl) ?_
              refine xget (ref := "AbsentPraise$Trials") (T := TX9) (v := .ref (X.2.1 32)) hC hP hin_X9 xo_X9 rfl 1 (by decide) (List.mem_of_getElem? (i := 4) rfl) rfl rfl dX9_saidTogether_83 ?_
              refine xget (ref := "AbsentPraise$Talk") (T := TX7) (v := .ref (X.2.1 33)) hC hP hin_X7 (xo_T (by decide)) rfl 0 (by decide) (List.mem_of_getElem? (i := 6) rfl) rfl rfl dX9_saidTogether_86 ?_
              refine lv_iload hx hb dX9_saidTogether_89 (lv_at hl 1 rfl) ?_
              refine xcSN_iR (As := [.ref (X.2.1 33), .int r_3]) (rest := []) hC hP hS (k_X10_at l X S 33 r_3 rfl) (va_cnB (host := "AbsentPraise") 2 hts gX9_saidTogether_X10_at_n45 rfl rfl rfl (xn_16 hN) (hts (.initialized RX10) (List.mem_of_getElem? (i := 20) rfl)) hs_X10_at ⟨Nat.le_of_ble_eq_true rfl, Nat.le_of_ble_eq_true rfl⟩) (hts (.static yX10_at) (List.mem_of_getElem? (i := 22) rfl)) rfl rfl hl.1 (Nat.le_of_ble_eq_true rfl) dX9_saidTogether_91 (fun r_20 hr_20 H locs hP hS => ?_)
              refine lv_istore (lv' := [(7, .int r_20), (6, .int x2_5), (5, .int r_3), (0, .ref (X.2.1 16)), (1, .int x1_5), (2, .int x2_5), (3, .int x3_5), (4, .int x4_5)]) hx hb dX9_saidTogether_94 hl (by decide) rfl (fun ls hl => ?_)
              refine lv_iload_n hx hb dX9_saidTogether_96 rfl (lv_at hl 6 rfl) ?_
              refine lv_aload_n hx hb dX9_saidTogether_97 rfl (lv_at hl 3 rfl) ?_
              refine xget (ref := "AbsentPraise$Trials") (T := TX9) (v := .ref (X.2.1 15)) hC hP hin_X9 xo_X9 rfl 2 (by decide) (List.mem_of_getElem? (i := 3) rfl) rfl rfl dX9_saidTogether_98 ?_
              refine lv_iload hx hb dX9_saidTogether_101 (lv_at hl 7 rfl) ?_
              refine lv_iload hx hb dX9_saidTogether_103 (lv_at hl 1 rfl) ?_
              refine lv_iload hx hb dX9_saidTogether_105 (lv_at hl 2 rfl) ?_
              refine lv_iload hx hb dX9_saidTogether_107 (lv_at hl 0 rfl) ?_
              refine lv_aload_n hx hb dX9_saidTogether_109 rfl (lv_at hl 3 rfl) ?_
              refine xget (ref := "AbsentPraise$Trials") (T := TX9) (v := .ref (X.2.1 32)) hC hP hin_X9 xo_X9 rfl 1 (by decide) (List.mem_of_getElem? (i := 4) rfl) rfl rfl dX9_saidTogether_110 ?_
              refine xget (ref := "AbsentPraise$Talk") (T := TX7) (v := .int (S 32 4)) hC hP hin_X7 (xo_T (by decide)) rfl 4 (by decide) (List.mem_of_getElem? (i := 7) rfl) rfl rfl dX9_saidTogether_113 ?_
              refine lv_iload hx hb dX9_saidTogether_116 (lv_at hl 2 rfl) ?_
              refine xcSN_iR (As := [.int (S 32 4), .int r_3]) (rest := [.int r_20, .int r_3, .int x2_5, .int x4_5, .ref (X.2.1 15), .int x3_5]) hC hP hS (k_X10_has l X S (S 32 4) r_3) (va_cnB (host := "AbsentPraise") 2 hts gX9_saidTogether_X10_has_n56 rfl rfl rfl (xn_15 hN) (hts (.initialized RX10) (List.mem_of_getElem? (i := 20) rfl)) hs_X10_has ⟨Nat.le_of_ble_eq_true rfl, Nat.le_of_ble_eq_true rfl⟩) (hts (.static yX10_has) (List.mem_of_getElem? (i := 19) rfl)) rfl rfl hl.1 (Nat.le_of_ble_eq_true rfl) dX9_saidTogether_118 (fun r_21 hp_r_21 H locs hP hS => ?_)
              obtain ⟨hr_21, hzr_21⟩ := hp_r_21
              refine xcV_iR (b := 15) (As := [.int x4_5, .int x2_5, .int r_3, .int r_20, .int r_21]) (rest := [.int x3_5]) hC hP hS (k_X4_says l X S x4_5 x2_5 r_3 r_20 r_21) (cwV 5 hts gX9_saidTogether_X4_says rfl rfl rfl hd_X4_says ⟨Nat.le_of_ble_eq_true rfl, Nat.le_of_ble_eq_true rfl⟩) xo_X4 rfl rfl rfl hl.1 (Nat.le_of_ble_eq_true rfl) dX9_saidTogether_121 (fun r_22 hr_22 H locs hP hS => ?_)
              refine lv_iadd hx hb dX9_saidTogether_124 ?_
              refine lv_istore_n (lv' := [(3, .int (x3_5 + r_22)), (7, .int r_20), (6, .int x2_5), (5, .int r_3), (0, .ref (X.2.1 16)), (1, .int x1_5), (2, .int x2_5), (4, .int x4_5)]) hx hb dX9_saidTogether_125 rfl hl (by decide) rfl (fun ls hl => ?_)
              refine lv_iinc (v := (x4_5 + 1)) (lv' := [(4, .int (x4_5 + 1)), (3, .int (x3_5 + r_22)), (7, .int r_20), (6, .int x2_5), (5, .int r_3), (0, .ref (X.2.1 16)), (1, .int x1_5), (2, .int x2_5)]) hx hb dX9_saidTogether_126 hl (k := 7) rfl rfl (by decide) rfl (fun ls hl => ?_)
              refine lv_goto (tgt := 5) hx hb dX9_saidTogether_129 (by decide) ?_
              have he_23 : f_X9_saidTogether_L5 (n + 1) S x1_5 x2_5 x3_5 x4_5 = f_X9_saidTogether_L5 n S x1_5 x2_5 (x3_5 + r_22) (x4_5 + 1) := (by have hr_3 := hr_3.symm; have hr_6 := hr_6.symm; have hr_18 := hr_18.symm; have hr_20 := hr_20.symm; have hr_21 := hr_21.symm; have hr_22 := hr_22.symm; subst hr_3 hr_6 hr_18 hr_20 hr_21 hr_22; exact (iN c_1 (iN c_4 (iN c_7 (ip c_19 rfl)))))
              exact ih_5 x1_5 x2_5 (x3_5 + r_22) (x4_5 + 1) (by have hr_3 := hr_3.symm; have hr_6 := hr_6.symm; have hr_18 := hr_18.symm; have hr_20 := hr_20.symm; have hr_21 := hr_21.symm; have hr_22 := hr_22.symm; subst hr_3 hr_6 hr_18 hr_20 hr_21 hr_22; exact (sp (sn (sn (sn hs_5 c_1) c_4) c_7) c_19)) (fun q hq => hex_5 q (hq.trans he_23.symm)) _ _ hP hS ls (lv_sub hl [5, 6, 7, 1, 0] rfl)
            · refine lv_iload_n hx hb dX9_saidTogether_78 rfl (lv_at hl 4 rfl) ?_
              refine lv_goto (tgt := 94) hx hb dX9_saidTogether_79 (by decide) ?_
              refine lv_istore (lv' := [(7, .int x2_5), (6, .int x2_5), (5, .int r_3), (0, .ref (X.2.1 16)), (1, .int x1_5), (2, .int x2_5), (3, .int x3_5), (4, .int x4_5)]) hx hb dX9_saidTogether_94 hl (by decide) rfl (fun ls hl => ?_)
              refine lv_iload_n hx hb dX9_saidTogether_96 rfl (lv_at hl 6 rfl) ?_
              refine lv_aload_n hx hb dX9_saidTogether_97 rfl (lv_at hl 3 rfl) ?_
              refine xget (ref := "AbsentPraise$Trials") (T := TX9) (v := .ref (X.2.1 15)) hC hP hin_X9 xo_X9 rfl 2 (by decide) (List.mem_of_getElem? (i := 3) rfl) rfl rfl dX9_saidTogether_98 ?_
              refine lv_iload hx hb dX9_saidTogether_101 (lv_at hl 7 rfl) ?_
              refine lv_iload hx hb dX9_saidTogether_103 (lv_at hl 1 rfl) ?_
              refine lv_iload hx hb dX9_saidTogether_105 (lv_at hl 2 rfl) ?_
              refine lv_iload hx hb dX9_saidTogether_107 (lv_at hl 0 rfl) ?_
              refine lv_aload_n hx hb dX9_saidTogether_109 rfl (lv_at hl 3 rfl) ?_
              refine xget (ref := "AbsentPraise$Trials") (T := TX9) (v := .ref (X.2.1 32)) hC hP hin_X9 xo_X9 rfl 1 (by decide) (List.mem_of_getElem? (i := 4) rfl) rfl rfl dX9_saidTogether_110 ?_
              refine xget (ref := "AbsentPraise$Talk") (T := TX7) (v := .int (S 32 4)) hC hP hin_X7 (xo_T (by decide)) rfl 4 (by decide) (List.mem_of_getElem? (i := 7) rfl) rfl rfl dX9_saidTogether_113 ?_
              refine lv_iload hx hb dX9_saidTogether_116 (lv_at hl 2 rfl) ?_
              refine xcSN_iR (As := [.int (S 32 4), .int r_3]) (rest := [.int x2_5, .int r_3, .int x2_5, .int x4_5, .ref (X.2.1 15), .int x3_5]) hC hP hS (k_X10_has l X S (S 32 4) r_3) (va_cnB (host := "AbsentPraise") 2 hts gX9_saidTogether_X10_has_n56 rfl rfl rfl (xn_15 hN) (hts (.initialized RX10) (List.mem_of_getElem? (i := 20) rfl)) hs_X10_has ⟨Nat.le_of_ble_eq_true rfl, Nat.le_of_ble_eq_true rfl⟩) (hts (.static yX10_has) (List.mem_of_getElem? (i := 19) rfl)) rfl rfl hl.1 (Nat.le_of_ble_eq_true rfl) dX9_saidTogether_118 (fun r_24 hp_r_24 H locs hP hS => ?_)
              obtain ⟨hr_24, hzr_24⟩ := hp_r_24
              refine xcV_iR (b := 15) (As := [.int x4_5, .int x2_5, .int r_3, .int x2_5, .int r_24]) (rest := [.int x3_5]) hC hP hS (k_X4_says l X S x4_5 x2_5 r_3 x2_5 r_24) (cwV 5 hts gX9_saidTogether_X4_says rfl rfl rfl hd_X4_says ⟨Nat.le_of_ble_eq_true rfl, Nat.le_of_ble_eq_true rfl⟩) xo_X4 rfl rfl rfl hl.1 (Nat.le_of_ble_eq_true rfl) dX9_saidTogether_121 (fun r_25 hr_25 H locs hP hS => ?_)
              refine lv_iadd hx hb dX9_saidTogether_124 ?_
              refine lv_istore_n (lv' := [(3, .int (x3_5 + r_25)), (7, .int x2_5), (6, .int x2_5), (5, .int r_3), (0, .ref (X.2.1 16)), (1, .int x1_5), (2, .int x2_5), (4, .int x4_5)]) hx hb dX9_saidTogether_125 rfl hl (by decide) rfl (fun ls hl => ?_)
              refine lv_iinc (v := (x4_5 + 1)) (lv' := [(4, .int (x4_5 + 1)), (3, .int (x3_5 + r_25)), (7, .int x2_5), (6, .int x2_5), (5, .int r_3), (0, .ref (X.2.1 16)), (1, .int x1_5), (2, .int x2_5)]) hx hb dX9_saidTogether_126 hl (k := 7) rfl rfl (by decide) rfl (fun ls hl => ?_)
              refine lv_goto (tgt := 5) hx hb dX9_saidTogether_129 (by decide) ?_
              have he_26 : f_X9_saidTogether_L5 (n + 1) S x1_5 x2_5 x3_5 x4_5 = f_X9_saidTogether_L5 n S x1_5 x2_5 (x3_5 + r_25) (x4_5 + 1) := (by have hr_3 := hr_3.symm; have hr_6 := hr_6.symm; have hr_18 := hr_18.symm; have hr_24 := hr_24.symm; have hr_25 := hr_25.symm; subst hr_3 hr_6 hr_18 hr_24 hr_25; exact (iN c_1 (iN c_4 (iN c_7 (iN c_19 rfl)))))
              exact ih_5 x1_5 x2_5 (x3_5 + r_25) (x4_5 + 1) (by have hr_3 := hr_3.symm; have hr_6 := hr_6.symm; have hr_18 := hr_18.symm; have hr_24 := hr_24.symm; have hr_25 := hr_25.symm; subst hr_3 hr_6 hr_18 hr_24 hr_25; exact (sn (sn (sn (sn hs_5 c_1) c_4) c_7) c_19)) (fun q hq => hex_5 q (hq.trans he_26.symm)) _ _ hP hS ls (lv_sub hl [5, 6, 7, 1, 0] rfl)
  refine hLp_5 ((fu 0 (S 9 9))) p0 p1 0 0 (nl hs) (fun q_5 hq_5 H locs hP hS ls hl => ?_) _ _ hP hS ls (lv_sub hl [2, 3, 4, 1, 0] rfl)
  refine lv_iload_n hx hb dX9_saidTogether_132 rfl (lv_at hl 0 rfl) ?_
  exact xret_iR hC hP hS hb hr ((by have hq_5 := hq_5.symm; subst hq_5; exact rfl)) dX9_saidTogether_133 hlocks
theorem hs_X10_isSmaller : yX10_isSmaller.cls ≠ "java/lang/invoke/MethodHandle" ∧ yX10_isSmaller.cls ≠ "java/lang/invoke/VarHandle" ∧ (parseMethodDescriptor yX10_isSmaller.desc).map (fun d => d.parameters.length) = some 2 := by decide +kernel
set_option maxHeartbeats 4000000 in
set_option maxRecDepth 100000 in
theorem k_X10_isSmaller (l : Launch) (X : xX) (S : xS) (p0 : Int32) (p1 : Int32) : Met l yX10_isSmaller wsX10_isSmaller ({ frames := 1, cells := 0, slots := 0, locals := 20 } : Room) (va_Pc [.int p0, .int p1] (xI X S)) (va_Qi (fun (r : Int32) (u : xS) => (r = (f_X10_isSmaller S p0 p1) ∧ (r = 0 ∨ r = 1)) ∧ u = S) (xI X) (xA X)) 0 0 (xA X) := by
  refine Met.ofW (cc := cX10_isSmaller) (maxL := 3) (ret := (some .boolean)) (by decide +kernel) rfl ?_
  intro p e s m args below meth c s₁ B hml hv
  obtain ⟨rfl, hP, hK, hN, hJ⟩ := hv
  have hx := B.exec
  have hb := B.bytes
  have hr := B.returns
  have hts := atoms_spec (ws := wsX10_isSmaller) B.pre
  have hown : s.vm.findClass RX10 = some m.cls := findClass_of_methodNamed B.named
  have hlocks := B.notSynchronized
  have hC : xC X p m c cX10_isSmaller 3 s _ wsX10_isSmaller RX10 := ⟨⟨hx, hb, hml, hown, hts⟩, hK, hN, hJ⟩
  have hS : va_S (xA X) s.heap s.heap [] := va_S.rf
  have hl := lv_entry ([.int p0, .int p1]) (n := 3) (Nat.le_of_ble_eq_true rfl)
  rw [lg_entry_eq]
  generalize (lg_sl ([.int p0, .int p1]) ++ List.replicate (3 - (lg_sl ([.int p0, .int p1])).length) Slot.unset).toArray = ls at hl ⊢
  have hl : lv_has ls 3 [(0, .int p0), (1, .int p1)] := hl
  refine lv_iload_n hx hb dX10_isSmaller_0 rfl (lv_at hl 0 rfl) ?_
  refine xcS_iR (As := [.int p0]) (rest := []) hC hP hS (k_J6_bitCount_0f7a4 l X S p0) (va_cwS 1 hts gX10_isSmaller_J6_bitCount_0f7a4 rfl rfl rfl hs_J6_bitCount_0f7a4 ⟨Nat.le_of_ble_eq_true rfl, Nat.le_of_ble_eq_true rfl⟩) rfl rfl hl.1 (Nat.le_of_ble_eq_true rfl) dX10_isSmaller_1 (fun r_1 hr_1 H locs hP hS => ?_)
  refine lv_iload_n hx hb dX10_isSmaller_4 rfl (lv_at hl 1 rfl) ?_
  refine xcS_iR (As := [.int p1]) (rest := [.int r_1]) hC hP hS (k_J6_bitCount_0f7a4 l X S p1) (va_cwS 1 hts gX10_isSmaller_J6_bitCount_0f7a4 rfl rfl rfl hs_J6_bitCount_0f7a4 ⟨Nat.le_of_ble_eq_true rfl, Nat.le_of_ble_eq_true rfl⟩) rfl rfl hl.1 (Nat.le_of_ble_eq_true rfl) dX10_isSmaller_5 (fun r_2 hr_2 H locs hP hS => ?_)
  refine lv_isub hx hb dX10_isSmaller_8 ?_
  refine lv_istore_n (lv' := [(2, .int (r_1 - r_2)), (0, .int p0), (1, .int p1)]) hx hb dX10_isSmaller_9 rfl hl (by decide) rfl (fun ls hl => ?_)
  refine lv_iload_n hx hb dX10_isSmaller_10 rfl (lv_at hl 0 rfl) ?_
  refine lv_if_lt (tgt := 23) hx hb dX10_isSmaller_11 (by decide) (fun c_3 => ?_) (fun c_3 => ?_)
  · refine lv_iconst (v := 1) hx hb dX10_isSmaller_23 (by decide) ?_
    refine lv_goto (tgt := 28) hx hb dX10_isSmaller_24 (by decide) ?_
    exact xret_zR hC hP hS hb hr (.inr rfl) ((by have hr_1 := hr_1.symm; have hr_2 := hr_2.symm; subst hr_1 hr_2; exact (ip c_3 rfl))) dX10_isSmaller_28 hlocks
  · refine lv_iload_n hx hb dX10_isSmaller_14 rfl (lv_at hl 0 rfl) ?_
    refine lv_if_ne (tgt := 27) hx hb dX10_isSmaller_15 (by decide) (fun c_4 => ?_) (fun c_4 => ?_)
    · refine lv_iconst (v := 0) hx hb dX10_isSmaller_27 (by decide) ?_
      exact xret_zR hC hP hS hb hr (.inl rfl) ((by have hr_1 := hr_1.symm; have hr_2 := hr_2.symm; subst hr_1 hr_2; exact (iN c_3 (iN c_4 rfl)))) dX10_isSmaller_28 hlocks
    · refine lv_iload_n hx hb dX10_isSmaller_18 rfl (lv_at hl 1 rfl) ?_
      refine lv_iload_n hx hb dX10_isSmaller_19 rfl (lv_at hl 2 rfl) ?_
      refine lv_icmp_ge (tgt := 27) hx hb dX10_isSmaller_20 (by decide) (fun c_5 => ?_) (fun c_5 => ?_)
      · refine lv_iconst (v := 0) hx hb dX10_isSmaller_27 (by decide) ?_
        exact xret_zR hC hP hS hb hr (.inl rfl) ((by have hr_1 := hr_1.symm; have hr_2 := hr_2.symm; subst hr_1 hr_2; exact (iN c_3 (ip c_4 (ip c_5 rfl))))) dX10_isSmaller_28 hlocks
      · refine lv_iconst (v := 1) hx hb dX10_isSmaller_23 (by decide) ?_
        refine lv_goto (tgt := 28) hx hb dX10_isSmaller_24 (by decide) ?_
        exact xret_zR hC hP hS hb hr (.inr rfl) ((by have hr_1 := hr_1.symm; have hr_2 := hr_2.symm; subst hr_1 hr_2; exact (iN c_3 (ip c_4 (iN c_5 rfl))))) dX10_isSmaller_28 hlocks
theorem hd_X9_bestLeavers : yX9_bestLeavers.cls = RX9 ∧ yX9_bestLeavers.cls ≠ "java/lang/invoke/MethodHandle" ∧ yX9_bestLeavers.cls ≠ "java/lang/invoke/VarHandle" ∧ (parseMethodDescriptor yX9_bestLeavers.desc).map (fun d => d.parameters.length) = some 1 := by decide +kernel
set_option maxHeartbeats 4000000 in
set_option maxRecDepth 100000 in
theorem k_X9_bestLeavers (l : Launch) (X : xX) (S : xS) (p0 : Int32) (hs : s_X9_bestLeavers S p0) : Met l yX9_bestLeavers wsX9_bestLeavers ({ frames := 4, cells := 0, slots := 0, locals := 97 } : Room) (va_Pc [.ref (X.2.1 16), .int p0] (xI X S)) (va_Qi (fun (r : Int32) (u : xS) => r = (f_X9_bestLeavers S p0) ∧ u = S) (xI X) (xA X)) 0 0 (xA X) := by
  refine Met.ofW (cc := cX9_bestLeavers) (maxL := 6) (ret := (some .int)) (by decide +kernel) rfl ?_
  intro p e s m args below meth c s₁ B hml hv
  obtain ⟨rfl, hP, hK, hN, hJ⟩ := hv
  have hx := B.exec
  have hb := B.bytes
  have hr := B.returns
  have hts := atoms_spec (ws := wsX9_bestLeavers) B.pre
  have hown : s.vm.findClass RX9 = some m.cls := findClass_of_methodNamed B.named
  have hlocks := B.notSynchronized
  have hC : xC X p m c cX9_bestLeavers 6 s _ wsX9_bestLeavers RX9 := ⟨⟨hx, hb, hml, hown, hts⟩, hK, hN, hJ⟩
  have hS : va_S (xA X) s.heap s.heap [] := va_S.rf
  have hin_X2 : ∀ w ∈ u_ws RX2 TX2 10, w ∈ wsX9_bestLeavers := by decide +kernel
  have hin_X9 : ∀ w ∈ u_ws RX9 TX9 5, w ∈ wsX9_bestLeavers := by decide +kernel
  have hl := lv_entry ([.ref (X.2.1 16), .int p0]) (n := 6) (Nat.le_of_ble_eq_true rfl)
  rw [lg_entry_eq]
  generalize (lg_sl ([.ref (X.2.1 16), .int p0]) ++ List.replicate (6 - (lg_sl ([.ref (X.2.1 16), .int p0])).length) Slot.unset).toArray = ls at hl ⊢
  have hl : lv_has ls 6 [(0, .ref (X.2.1 16)), (1, .int p0)] := hl
  refine lv_iconst (v := 0) hx hb dX9_bestLeavers_0 (by decide) ?_
  refine lv_istore_n (lv' := [(2, .int 0), (0, .ref (X.2.1 16)), (1, .int p0)]) hx hb dX9_bestLeavers_1 rfl hl (by decide) rfl (fun ls hl => ?_)
  refine lv_aload_n hx hb dX9_bestLeavers_2 rfl (lv_at hl 1 rfl) ?_
  refine lv_iconst (v := 0) hx hb dX9_bestLeavers_3 (by decide) ?_
  refine lv_iload_n hx hb dX9_bestLeavers_4 rfl (lv_at hl 2 rfl) ?_
  have hn_1 : s_X9_saidTogether S 0 p0 := (nl hs)
  refine xcV_iR (b := 16) (As := [.int 0, .int p0]) (rest := []) hC hP hS (k_X9_saidTogether l X S 0 p0 hn_1) (cwV 2 hts gX9_bestLeavers_X9_saidTogether rfl rfl rfl hd_X9_saidTogether ⟨Nat.le_of_ble_eq_true rfl, Nat.le_of_ble_eq_true rfl⟩) xo_X9 rfl rfl rfl hl.1 (Nat.le_of_ble_eq_true rfl) dX9_bestLeavers_5 (fun r_2 hr_2 H locs hP hS => ?_)
  refine lv_istore_n (lv' := [(3, .int r_2), (2, .int 0), (0, .ref (X.2.1 16)), (1, .int p0)]) hx hb dX9_bestLeavers_8 rfl hl (by decide) rfl (fun ls hl => ?_)
  refine lv_iconst (v := 1) hx hb dX9_bestLeavers_9 (by decide) ?_
  refine lv_istore (lv' := [(4, .int 1), (3, .int r_2), (2, .int 0), (0, .ref (X.2.1 16)), (1, .int p0)]) hx hb dX9_bestLeavers_10 hl (by decide) rfl (fun ls hl => ?_)
  have hLp_12 : ∀ (n : Nat) (x1_12 : Int32) (x2_12 : Int32) (x3_12 : Int32) (x4_12 : Int32), s_X9_bestLeavers_L12 n S x1_12 x2_12 x3_12 x4_12 → (∀ q : Int32, q = f_X9_bestLeavers_L12 n S x1_12 x2_12 x3_12 x4_12 → (∀ (H : Heap) (locs : List Loc), va_P X.1 vwCl (xW X S) H → va_S (xA X) s.heap H locs → ∀ (ls : Array Slot), lv_has ls 6 [(2, .int q)] → W p l e ({ frames := 4, cells := 0, slots := 0, locals := 97 } : Room) s m ([.ref (X.2.1 16), .int p0] : List Value).toArray below meth c H locs 0 0 (MQ below (va_Qi (fun (r : Int32) (u : xS) => r = (f_X9_bestLeavers S p0) ∧ u = S) (xI X) (xA X)) ([.ref (X.2.1 16), .int p0] : List Value).toArray s 0 0 (xA X)) (F0 m 69 ls []))) → ∀ (H : Heap) (locs : List Loc), va_P X.1 vwCl (xW X S) H → va_S (xA X) s.heap H locs → ∀ (ls : Array Slot), lv_has ls 6 [(0, .ref (X.2.1 16)), (1, .int x1_12), (2, .int x2_12), (3, .int x3_12), (4, .int x4_12)] → W p l e ({ frames := 4, cells := 0, slots := 0, locals := 97 } : Room) s m ([.ref (X.2.1 16), .int p0] : List Value).toArray below meth c H locs 0 0 (MQ below (va_Qi (fun (r : Int32) (u : xS) => r = (f_X9_bestLeavers S p0) ∧ u = S) (xI X) (xA X)) ([.ref (X.2.1 16), .int p0] : List Value).toArray s 0 0 (xA X)) (F0 m 12 ls []) := by
    intro n
    induction n with
    | zero => intro x1_12 x2_12 x3_12 x4_12 hs; exact hs.elim
    | succ n ih_12 =>
      intro x1_12 x2_12 x3_12 x4_12 hs_12 hex_12 H locs hP hS ls hl
      refine lv_iload hx hb dX9_bestLeavers_12 (lv_at hl 4 rfl) ?_
      refine lv_aload_n hx hb dX9_bestLeavers_14 rfl (lv_at hl 0 rfl) ?_
      refine xget (ref := "AbsentPraise$Trials") (T := TX9) (v := .ref (X.2.1 9)) hC hP hin_X9 xo_X9 rfl 0 (by decide) (List.mem_of_getElem? (i := 1) rfl) rfl rfl dX9_bestLeavers_15 ?_
      refine xget (ref := "AbsentPraise$Hill") (T := TX2) (v := .int (S 9 9)) hC hP hin_X2 (xo_H (by decide)) rfl 9 (by decide) (List.mem_of_getElem? (i := 2) rfl) rfl rfl dX9_bestLeavers_18 ?_
      refine xcSN_iR (As := [.int (S 9 9)]) (rest := [.int x4_12]) hC hP hS (k_X10_bit l X S (S 9 9)) (va_cnB (host := "AbsentPraise") 1 hts gX9_bestLeavers_X10_bit_n106 rfl rfl rfl (xn_14 hN) (hts (.initialized RX10) (List.mem_of_getElem? (i := 25) rfl)) hs_X10_bit ⟨Nat.le_of_ble_eq_true rfl, Nat.le_of_ble_eq_true rfl⟩) (hts (.static yX10_bit) (List.mem_of_getElem? (i := 45) rfl)) rfl rfl hl.1 (Nat.le_of_ble_eq_true rfl) dX9_bestLeavers_21 (fun r_3 hr_3 H locs hP hS => ?_)
      refine lv_icmp_ge (tgt := 69) hx hb dX9_bestLeavers_24 (by decide) (fun c_4 => ?_) (fun c_4 => ?_)
      · have he_5 : f_X9_bestLeavers_L12 (n + 1) S x1_12 x2_12 x3_12 x4_12 = x2_12 := (by have hr_3 := hr_3.symm; subst hr_3; exact (ip c_4 rfl))
        exact hex_12 _ he_5.symm _ _ hP hS ls (lv_sub hl [2] rfl)
      · refine lv_aload_n hx hb dX9_bestLeavers_27 rfl (lv_at hl 0 rfl) ?_
        refine lv_iload hx hb dX9_bestLeavers_28 (lv_at hl 4 rfl) ?_
        refine lv_iload_n hx hb dX9_bestLeavers_30 rfl (lv_at hl 1 rfl) ?_
        have hn_6 : s_X9_saidTogether S x4_12 x1_12 := (by have hr_3 := hr_3.symm; subst hr_3; exact nl (sn hs_12 c_4))
        refine xcV_iR (b := 16) (As := [.int x4_12, .int x1_12]) (rest := []) hC hP hS (k_X9_saidTogether l X S x4_12 x1_12 hn_6) (cwV 2 hts gX9_bestLeavers_X9_saidTogether rfl rfl rfl hd_X9_saidTogether ⟨Nat.le_of_ble_eq_true rfl, Nat.le_of_ble_eq_true rfl⟩) xo_X9 rfl rfl rfl hl.1 (Nat.le_of_ble_eq_true rfl) dX9_bestLeavers_31 (fun r_7 hr_7 H locs hP hS => ?_)
        refine lv_istore (lv' := [(5, .int r_7), (0, .ref (X.2.1 16)), (1, .int x1_12), (2, .int x2_12), (3, .int x3_12), (4, .int x4_12)]) hx hb dX9_bestLeavers_34 hl (by decide) rfl (fun ls hl => ?_)
        refine lv_iload hx hb dX9_bestLeavers_36 (lv_at hl 0 rfl) ?_
        refine lv_iload_n hx hb dX9_bestLeavers_38 rfl (lv_at hl 4 rfl) ?_
        refine lv_icmp_gt (tgt := 57) hx hb dX9_bestLeavers_39 (by decide) (fun c_8 => ?_) (fun c_8 => ?_)
        · refine lv_iload hx hb dX9_bestLeavers_57 (lv_at hl 0 rfl) ?_
          refine lv_istore_n (lv' := [(3, .int r_7), (5, .int r_7), (0, .ref (X.2.1 16)), (1, .int x1_12), (2, .int x2_12), (4, .int x4_12)]) hx hb dX9_bestLeavers_59 rfl hl (by decide) rfl (fun ls hl => ?_)
          refine lv_iload hx hb dX9_bestLeavers_60 (lv_at hl 5 rfl) ?_
          refine lv_istore_n (lv' := [(2, .int x4_12), (3, .int r_7), (5, .int r_7), (0, .ref (X.2.1 16)), (1, .int x1_12), (4, .int x4_12)]) hx hb dX9_bestLeavers_62 rfl hl (by decide) rfl (fun ls hl => ?_)
          refine lv_iinc (v := (x4_12 + 1)) (lv' := [(4, .int (x4_12 + 1)), (2, .int x4_12), (3, .int r_7), (5, .int r_7), (0, .ref (X.2.1 16)), (1, .int x1_12)]) hx hb dX9_bestLeavers_63 hl (k := 5) rfl rfl (by decide) rfl (fun ls hl => ?_)
          refine lv_goto (tgt := 12) hx hb dX9_bestLeavers_66 (by decide) ?_
          have he_9 : f_X9_bestLeavers_L12 (n + 1) S x1_12 x2_12 x3_12 x4_12 = f_X9_bestLeavers_L12 n S x1_12 x4_12 r_7 (x4_12 + 1) := (by have hr_3 := hr_3.symm; have hr_7 := hr_7.symm; subst hr_3 hr_7; exact (iN c_4 (ip c_8 rfl)))
          exact ih_12 x1_12 x4_12 r_7 (x4_12 + 1) (by have hr_3 := hr_3.symm; have hr_7 := hr_7.symm; subst hr_3 hr_7; exact (sp (nr (sn hs_12 c_4)) c_8)) (fun q hq => hex_12 q (hq.trans he_9.symm)) _ _ hP hS ls (lv_sub hl [4, 5, 1, 2, 0] rfl)
        · refine lv_iload hx hb dX9_bestLeavers_42 (lv_at hl 0 rfl) ?_
          refine lv_iload_n hx hb dX9_bestLeavers_44 rfl (lv_at hl 4 rfl) ?_
          refine lv_icmp_ne (tgt := 63) hx hb dX9_bestLeavers_45 (by decide) (fun c_10 => ?_) (fun c_10 => ?_)
          · refine lv_iinc (v := (x4_12 + 1)) (lv' := [(4, .int (x4_12 + 1)), (5, .int r_7), (0, .ref (X.2.1 16)), (1, .int x1_12), (2, .int x2_12), (3, .int x3_12)]) hx hb dX9_bestLeavers_63 hl (k := 5) rfl rfl (by decide) rfl (fun ls hl => ?_)
            refine lv_goto (tgt := 12) hx hb dX9_bestLeavers_66 (by decide) ?_
            have he_11 : f_X9_bestLeavers_L12 (n + 1) S x1_12 x2_12 x3_12 x4_12 = f_X9_bestLeavers_L12 n S x1_12 x2_12 x3_12 (x4_12 + 1) := (by have hr_3 := hr_3.symm; have hr_7 := hr_7.symm; subst hr_3 hr_7; exact (iN c_4 (iN c_8 (iN c_10 rfl))))
            exact ih_12 x1_12 x2_12 x3_12 (x4_12 + 1) (by have hr_3 := hr_3.symm; have hr_7 := hr_7.symm; subst hr_3 hr_7; exact (sn (sn (nr (sn hs_12 c_4)) c_8) c_10)) (fun q hq => hex_12 q (hq.trans he_11.symm)) _ _ hP hS ls (lv_sub hl [2, 3, 4, 5, 0] rfl)
          · refine lv_iload hx hb dX9_bestLeavers_48 (lv_at hl 5 rfl) ?_
            refine lv_iload_n hx hb dX9_bestLeavers_50 rfl (lv_at hl 3 rfl) ?_
            refine xcSN_iR (As := [.int x4_12, .int x2_12]) (rest := []) hC hP hS (k_X10_isSmaller l X S x4_12 x2_12) (va_cnB (host := "AbsentPraise") 2 hts gX9_bestLeavers_X10_isSmaller_n109 rfl rfl rfl (xn_17 hN) (hts (.initialized RX10) (List.mem_of_getElem? (i := 25) rfl)) hs_X10_isSmaller ⟨Nat.le_of_ble_eq_true rfl, Nat.le_of_ble_eq_true rfl⟩) (hts (.static yX10_isSmaller) (List.mem_of_getElem? (i := 47) rfl)) rfl rfl hl.1 (Nat.le_of_ble_eq_true rfl) dX9_bestLeavers_51 (fun r_12 hp_r_12 H locs hP hS => ?_)
            obtain ⟨hr_12, hzr_12⟩ := hp_r_12
            refine lv_if_eq (tgt := 63) hx hb dX9_bestLeavers_54 (by decide) (fun c_13 => ?_) (fun c_13 => ?_)
            · refine lv_iinc (v := (x4_12 + 1)) (lv' := [(4, .int (x4_12 + 1)), (5, .int r_7), (0, .ref (X.2.1 16)), (1, .int x1_12), (2, .int x2_12), (3, .int x3_12)]) hx hb dX9_bestLeavers_63 hl (k := 5) rfl rfl (by decide) rfl (fun ls hl => ?_)
              refine lv_goto (tgt := 12) hx hb dX9_bestLeavers_66 (by decide) ?_
              have he_14 : f_X9_bestLeavers_L12 (n + 1) S x1_12 x2_12 x3_12 x4_12 = f_X9_bestLeavers_L12 n S x1_12 x2_12 x3_12 (x4_12 + 1) := (by have hr_3 := hr_3.symm; have hr_7 := hr_7.symm; have hr_12 := hr_12.symm; subst hr_3 hr_7 hr_12; exact (iN c_4 (iN c_8 (ip c_10 (ip c_13 rfl)))))
              exact ih_12 x1_12 x2_12 x3_12 (x4_12 + 1) (by have hr_3 := hr_3.symm; have hr_7 := hr_7.symm; have hr_12 := hr_12.symm; subst hr_3 hr_7 hr_12; exact (sp (sp (sn (nr (sn hs_12 c_4)) c_8) c_10) c_13)) (fun q hq => hex_12 q (hq.trans he_14.symm)) _ _ hP hS ls (lv_sub hl [2, 3, 4, 5, 0] rfl)
            · refine lv_iload hx hb dX9_bestLeavers_57 (lv_at hl 0 rfl) ?_
              refine lv_istore_n (lv' := [(3, .int r_7), (5, .int r_7), (0, .ref (X.2.1 16)), (1, .int x1_12), (2, .int x2_12), (4, .int x4_12)]) hx hb dX9_bestLeavers_59 rfl hl (by decide) rfl (fun ls hl => ?_)
              refine lv_iload hx hb dX9_bestLeavers_60 (lv_at hl 5 rfl) ?_
              refine lv_istore_n (lv' := [(2, .int x4_12), (3, .int r_7), (5, .int r_7), (0, .ref (X.2.1 16)), (1, .int x1_12), (4, .int x4_12)]) hx hb dX9_bestLeavers_62 rfl hl (by decide) rfl (fun ls hl => ?_)
              refine lv_iinc (v := (x4_12 + 1)) (lv' := [(4, .int (x4_12 + 1)), (2, .int x4_12), (3, .int r_7), (5, .int r_7), (0, .ref (X.2.1 16)), (1, .int x1_12)]) hx hb dX9_bestLeavers_63 hl (k := 5) rfl rfl (by decide) rfl (fun ls hl => ?_)
              refine lv_goto (tgt := 12) hx hb dX9_bestLeavers_66 (by decide) ?_
              have he_15 : f_X9_bestLeavers_L12 (n + 1) S x1_12 x2_12 x3_12 x4_12 = f_X9_bestLeavers_L12 n S x1_12 x4_12 r_7 (x4_12 + 1) := (by have hr_3 := hr_3.symm; have hr_7 := hr_7.symm; have hr_12 := hr_12.symm; subst hr_3 hr_7 hr_12; exact (iN c_4 (iN c_8 (ip c_10 (iN c_13 rfl)))))
              exact ih_12 x1_12 x4_12 r_7 (x4_12 + 1) (by have hr_3 := hr_3.symm; have hr_7 := hr_7.symm; have hr_12 := hr_12.symm; subst hr_3 hr_7 hr_12; exact (sn (sp (sn (nr (sn hs_12 c_4)) c_8) c_10) c_13)) (fun q hq => hex_12 q (hq.trans he_15.symm)) _ _ hP hS ls (lv_sub hl [4, 5, 1, 2, 0] rfl)
  refine hLp_12 ((fuel_X9_bestLeavers_12)) p0 0 r_2 1 (by have hr_2 := hr_2.symm; subst hr_2; exact nl (nr hs)) (fun q_12 hq_12 H locs hP hS ls hl => ?_) _ _ hP hS ls (lv_sub hl [3, 4, 2, 1, 0] rfl)
  refine lv_iload_n hx hb dX9_bestLeavers_69 rfl (lv_at hl 0 rfl) ?_
  exact xret_iR hC hP hS hb hr ((by have hr_2 := hr_2.symm; have hq_12 := hq_12.symm; subst hr_2 hq_12; exact rfl)) dX9_bestLeavers_70 hlocks
