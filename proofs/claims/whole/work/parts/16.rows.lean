/-! contracts: X9_saidTogether, X10_isSmaller, X9_bestLeavers, X9_saidOf, X9_praised, X9_isSilent, X9_silentPairs, X9_silentPair -/
theorem hd_X9_saidTogether : yX9_saidTogether.cls = RX9 ∧ yX9_saidTogether.cls ≠ "java/lang/invoke/MethodHandle" ∧ yX9_saidTogether.cls ≠ "java/lang/invoke/VarHandle" ∧ (parseMethodDescriptor yX9_saidTogether.desc).map (fun d => d.parameters.length) = some 2 := by decide +kernel
set_option maxHeartbeats 4000000 in
set_option maxRecDepth 100000 in
theorem k_X9_saidTogether (l : Launch) (X : xX) (S : xS) (p0 : Int32) (p1 : Int32) (hs : s_X9_saidTogether S p0 p1) : Met l yX9_saidTogether wsX9_saidTogether ({ frames := 3, cells := 0, slots := 0, locals := 70 } : Room) (va_Pc [.ref (X.2.1 16), .int p0, .int p1] (xI X S)) (va_Qi (fun (r : Int32) (u : xS) => r = (f_X9_saidTogether S p0 p1) ∧ u = S) (xI X) (xA X)) 0 0 (xA X) := by
  refine Met.ofW (cc := cX9_saidTogether) (maxL := 8) (ret := (some .int)) (by decide) rfl ?_
  intro p e s m args below meth c s₁ B hml hv
  obtain ⟨rfl, hP, hK, hN, hJ⟩ := hv
  have hx := B.exec
  have hb := B.bytes
  have hr := B.returns
  have hts := atoms_spec (ws := wsX9_saidTogether) B.pre
  have hown : s.vm.findClass RX9 = some m.cls := findClass_of_methodNamed B.named
  have hlocks := B.notSynchronized
  have hC : xC X p m c cX9_saidTogether 8 s _ wsX9_saidTogether RX9 := ⟨⟨hx, hb, hml, hown, hts⟩, hK, hN, hJ⟩
  have hS : va_S (xA X) s.heap s.heap [] := va_S.rf
  have hin_X2 : ∀ w ∈ u_ws RX2 TX2 11, w ∈ wsX9_saidTogether := by decide +kernel
  have hin_X7 : ∀ w ∈ u_ws RX7 TX7 6, w ∈ wsX9_saidTogether := by decide +kernel
  have hin_X9 : ∀ w ∈ u_ws RX9 TX9 5, w ∈ wsX9_saidTogether := by decide +kernel
  have hl := lv_entry ([.ref (X.2.1 16), .int p0, .int p1]) (n := 8) (Nat.le_of_ble_eq_true rfl)
  rw [lg_entry_eq]
  generalize (lg_sl ([.ref (X.2.1 16), .int p0, .int p1]) ++ List.replicate (8 - (lg_sl ([.ref (X.2.1 16), .int p0, .int p1])).length) Slot.unset).toArray = ls at hl ⊢
  have hl : lv_has ls 8 [(0, .ref (X.2.1 16)), (1, .int p0), (2, .int p1)] := hl
  refine lv_iconst (v := 0) hx hb dX9_saidTogether_0 (by decide) ?_
  refine lv_istore_n (lv' := [(3, .int 0), (0, .ref (X.2.1 16)), (1, .int p0), (2, .int p1)]) hx hb dX9_saidTogether_1 rfl hl (by decide) rfl (fun ls hl => ?_)
  refine lv_iconst (v := 0) hx hb dX9_saidTogether_2 (by decide) ?_
  refine lv_istore (lv' := [(4, .int 0), (3, .int 0), (0, .ref (X.2.1 16)), (1, .int p0), (2, .int p1)]) hx hb dX9_saidTogether_3 hl (by decide) rfl (fun ls hl => ?_)
  have hLp_5 : ∀ (n : Nat) (x1_5 : Int32) (x2_5 : Int32) (x3_5 : Int32) (x4_5 : Int32), s_X9_saidTogether_L5 n S x1_5 x2_5 x3_5 x4_5 → (∀ q : Int32, q = f_X9_saidTogether_L5 n S x1_5 x2_5 x3_5 x4_5 → (∀ (H : Heap) (locs : List Loc), va_P X.1 vwCl (xW X S) H → va_S (xA X) s.heap H locs → ∀ (ls : Array Slot), lv_has ls 8 [(3, .int q)] → W p l e ({ frames := 3, cells := 0, slots := 0, locals := 70 } : Room) s m ([.ref (X.2.1 16), .int p0, .int p1] : List Value).toArray below meth c H locs 0 0 (MQ below (va_Qi (fun (r : Int32) (u : xS) => r = (f_X9_saidTogether S p0 p1) ∧ u = S) (xI X) (xA X)) ([.ref (X.2.1 16), .int p0, .int p1] : List Value).toArray s 0 0 (xA X)) (F0 m 132 ls []))) → ∀ (H : Heap) (locs : List Loc), va_P X.1 vwCl (xW X S) H → va_S (xA X) s.heap H locs → ∀ (ls : Array Slot), lv_has ls 8 [(0, .ref (X.2.1 16)), (1, .int x1_5), (2, .int x2_5), (3, .int x3_5), (4, .int x4_5)] → W p l e ({ frames := 3, cells := 0, slots := 0, locals := 70 } : Room) s m ([.ref (X.2.1 16), .int p0, .int p1] : List Value).toArray below meth c H locs 0 0 (MQ below (va_Qi (fun (r : Int32) (u : xS) => r = (f_X9_saidTogether S p0 p1) ∧ u = S) (xI X) (xA X)) ([.ref (X.2.1 16), .int p0, .int p1] : List Value).toArray s 0 0 (xA X)) (F0 m 5 ls []) := by
    intro n
    induction n with
    | zero => intro x1_5 x2_5 x3_5 x4_5 hs; exact hs.elim
    | succ n ih_5 =>
      intro x1_5 x2_5 x3_5 x4_5 hs_5 hex_5 H locs hP hS ls hl
      refine lv_iload hx hb dX9_saidTogether_5 (lv_at hl 4 rfl) ?_
      refine lv_aload_n hx hb dX9_saidTogether_7 rfl (lv_at hl 0 rfl) ?_
      refine xget (ref := "AbsentPraise$Trials") (T := TX9) (v := .ref (X.2.1 9)) hC hP hin_X9 xo_X9 rfl 0 (by decide) (List.mem_of_getElem? (i := 1) rfl) rfl rfl dX9_saidTogether_8 ?_
      refine xget (ref := "AbsentPraise$Hill") (T := TX2) (v := .int (S 9 9)) hC hP hin_X2 (xo_H (by decide)) rfl 9 (by decide) (List.mem_of_getElem? (i := 2) rfl) rfl rfl dX9_saidTogether_11 ?_
      refine lv_icmp_ge (tgt := 132) hx hb dX9_saidTogether_14 (by decide) (fun c_1 => ?_) (fun c_1 => ?_)
      · have he_2 : f_X9_saidTogether_L5 (n + 1) S x1_5 x2_5 x3_5 x4_5 = x3_5 := ((ip c_1 rfl))
        exact hex_5 _ he_2.symm _ _ hP hS ls (lv_sub hl [3] rfl)
      · refine lv_aload_n hx hb dX9_saidTogether_17 rfl (lv_at hl 0 rfl) ?_
        refine xget (ref := "AbsentPraise$Trials") (T := TX9) (v := .ref (X.2.1 15)) hC hP hin_X9 xo_X9 rfl 2 (by decide) (List.mem_of_getElem? (i := 3) rfl) rfl rfl dX9_saidTogether_18 ?_
        refine lv_iload hx hb dX9_saidTogether_21 (lv_at hl 4 rfl) ?_
        refine lv_aload_n hx hb dX9_saidTogether_23 rfl (lv_at hl 0 rfl) ?_
        refine xget (ref := "AbsentPraise$Trials") (T := TX9) (v := .ref (X.2.1 32)) hC hP hin_X9 xo_X9 rfl 1 (by decide) (List.mem_of_getElem? (i := 4) rfl) rfl rfl dX9_saidTogether_24 ?_
        refine xget (ref := "AbsentPraise$Talk") (T := TX7) (v := .int (S 32 5)) hC hP hin_X7 (xo_T (by decide)) rfl 5 (by decide) (List.mem_of_getElem? (i := 5) rfl) rfl rfl dX9_saidTogether_27 ?_
        refine xcV_iR (b := 15) (As := [.int x4_5, .int (S 32 5)]) (rest := []) hC hP hS (k_X4_spokenOfBy l X S x4_5 (S 32 5)) (cwV 2 hts gX9_saidTogether_X4_spokenOfBy rfl rfl rfl hd_X4_spokenOfBy ⟨Nat.le_of_ble_eq_true rfl, Nat.le_of_ble_eq_true rfl⟩) xo_X4 rfl rfl rfl hl.1 (Nat.le_of_ble_eq_true rfl) dX9_saidTogether_30 (fun r_3 hr_3 H locs hP hS => ?_)
        refine lv_istore (lv' := [(5, .int r_3), (0, .ref (X.2.1 16)), (1, .int x1_5), (2, .int x2_5), (3, .int x3_5), (4, .int x4_5)]) hx hb dX9_saidTogether_33 hl (by decide) rfl (fun ls hl => ?_)
        refine lv_iload hx hb dX9_saidTogether_35 (lv_at hl 0 rfl) ?_
        refine lv_iload hx hb dX9_saidTogether_37 (lv_at hl 5 rfl) ?_
        refine lv_icmp_eq (tgt := 126) hx hb dX9_saidTogether_39 (by decide) (fun c_4 => ?_) (fun c_4 => ?_)
        · refine lv_iinc (v := (x4_5 + 1)) (lv' := [(4, .int (x4_5 + 1)), (5, .int r_3), (0, .ref (X.2.1 16)), (1, .int x1_5), (2, .int x2_5), (3, .int x3_5)]) hx hb dX9_saidTogether_126 hl (k := 5) rfl rfl (by decide) rfl (fun ls hl => ?_)
          refine lv_goto (tgt := 5) hx hb dX9_saidTogether_129 (by decide) ?_
          have he_5 : f_X9_saidTogether_L5 (n + 1) S x1_5 x2_5 x3_5 x4_5 = f_X9_saidTogether_L5 n S x1_5 x2_5 x3_5 (x4_5 + 1) := (by subst hr_3; exact (iN c_1 (ip c_4 rfl)))
          exact ih_5 x1_5 x2_5 x3_5 (x4_5 + 1) (by subst hr_3; exact (sp (sn hs_5 c_1) c_4)) (fun q hq => hex_5 q (hq.trans he_5.symm)) _ _ hP hS ls (lv_sub hl [2, 3, 4, 5, 0] rfl)
        · refine lv_iload_n hx hb dX9_saidTogether_42 rfl (lv_at hl 2 rfl) ?_
          refine lv_iload hx hb dX9_saidTogether_43 (lv_at hl 5 rfl) ?_
          refine xcSN_iR (As := [.int x1_5, .int x4_5]) (rest := []) hC hP hS (k_X10_has l X S x1_5 x4_5) (va_cnB (host := "AbsentPraise") 2 hts gX9_saidTogether_X10_has_n56 rfl rfl rfl (hN 15 _ rfl) (hts (.initialized RX10) (List.mem_of_getElem? (i := 20) rfl)) hs_X10_has ⟨Nat.le_of_ble_eq_true rfl, Nat.le_of_ble_eq_true rfl⟩) (hts (.static yX10_has) (List.mem_of_getElem? (i := 19) rfl)) rfl rfl hl.1 (Nat.le_of_ble_eq_true rfl) dX9_saidTogether_45 (fun r_6 hp_r_6 H locs hP hS => ?_)
          obtain ⟨hr_6, hzr_6⟩ := hp_r_6
          refine lv_if_eq (tgt := 55) hx hb dX9_saidTogether_48 (by decide) (fun c_7 => ?_) (fun c_7 => ?_)
          · refine lv_aload_n hx hb dX9_saidTogether_55 rfl (lv_at hl 1 rfl) ?_
            refine xget (ref := "AbsentPraise$Trials") (T := TX9) (v := .ref (X.2.1 32)) hC hP hin_X9 xo_X9 rfl 1 (by decide) (List.mem_of_getElem? (i := 4) rfl) rfl rfl dX9_saidTogether_56 ?_
            refine xget (ref := "AbsentPraise$Talk") (T := TX7) (v := .ref (X.2.1 33)) hC hP hin_X7 (xo_T (by decide)) rfl 0 (by decide) (List.mem_of_getElem? (i := 6) rfl) rfl rfl dX9_saidTogether_59 ?_
            refine lv_iload hx hb dX9_saidTogether_62 (lv_at hl 5 rfl) ?_
            refine xcSN_iR (As := [.ref (X.2.1 33), .int x4_5]) (rest := []) hC hP hS (k_X10_at l X S 33 x4_5 rfl) (va_cnB (host := "AbsentPraise") 2 hts gX9_saidTogether_X10_at_n45 rfl rfl rfl (hN 16 _ rfl) (hts (.initialized RX10) (List.mem_of_getElem? (i := 20) rfl)) hs_X10_at ⟨Nat.le_of_ble_eq_true rfl, Nat.le_of_ble_eq_true rfl⟩) (hts (.static yX10_at) (List.mem_of_getElem? (i := 22) rfl)) rfl rfl hl.1 (Nat.le_of_ble_eq_true rfl) dX9_saidTogether_64 (fun r_8 hr_8 H locs hP hS => ?_)
            refine lv_istore (lv' := [(6, .int r_8), (5, .int r_3), (0, .ref (X.2.1 16)), (1, .int x1_5), (2, .int x2_5), (3, .int x3_5), (4, .int x4_5)]) hx hb dX9_saidTogether_67 hl (by decide) rfl (fun ls hl => ?_)
            refine lv_iload_n hx hb dX9_saidTogether_69 rfl (lv_at hl 3 rfl) ?_
            refine lv_iload hx hb dX9_saidTogether_70 (lv_at hl 1 rfl) ?_
            refine xcSN_iR (As := [.int x1_5, .int r_3]) (rest := []) hC hP hS (k_X10_has l X S x1_5 r_3) (va_cnB (host := "AbsentPraise") 2 hts gX9_saidTogether_X10_has_n56 rfl rfl rfl (hN 15 _ rfl) (hts (.initialized RX10) (List.mem_of_getElem? (i := 20) rfl)) hs_X10_has ⟨Nat.le_of_ble_eq_true rfl, Nat.le_of_ble_eq_true rfl⟩) (hts (.static yX10_has) (List.mem_of_getElem? (i := 19) rfl)) rfl rfl hl.1 (Nat.le_of_ble_eq_true rfl) dX9_saidTogether_72 (fun r_9 hp_r_9 H locs hP hS => ?_)
            obtain ⟨hr_9, hzr_9⟩ := hp_r_9
            refine lv_if_eq (tgt := 82) hx hb dX9_saidTogether_75 (by decide) (fun c_10 => ?_) (fun c_10 => ?_)
            · refine lv_aload_n hx hb dX9_saidTogether_82 rfl (lv_at hl 2 rfl) ?_
              refine xget (ref := "AbsentPraise$Trials") (T := TX9) (v := .ref (X.2.1 32)) hC hP hin_X9 xo_X9 rfl 1 (by decide) (List.mem_of_getElem? (i := 4) rfl) rfl rfl dX9_saidTogether_83 ?_
              refine xget (ref := "AbsentPraise$Talk") (T := TX7) (v := .ref (X.2.1 33)) hC hP hin_X7 (xo_T (by decide)) rfl 0 (by decide) (List.mem_of_getElem? (i := 6) rfl) rfl rfl dX9_saidTogether_86 ?_
              refine lv_iload hx hb dX9_saidTogether_89 (lv_at hl 1 rfl) ?_
              refine xcSN_iR (As := [.ref (X.2.1 33), .int r_3]) (rest := []) hC hP hS (k_X10_at l X S 33 r_3 rfl) (va_cnB (host := "AbsentPraise") 2 hts gX9_saidTogether_X10_at_n45 rfl rfl rfl (hN 16 _ rfl) (hts (.initialized RX10) (List.mem_of_getElem? (i := 20) rfl)) hs_X10_at ⟨Nat.le_of_ble_eq_true rfl, Nat.le_of_ble_eq_true rfl⟩) (hts (.static yX10_at) (List.mem_of_getElem? (i := 22) rfl)) rfl rfl hl.1 (Nat.le_of_ble_eq_true rfl) dX9_saidTogether_91 (fun r_11 hr_11 H locs hP hS => ?_)
              refine lv_istore (lv' := [(7, .int r_11), (6, .int r_8), (5, .int r_3), (0, .ref (X.2.1 16)), (1, .int x1_5), (2, .int x2_5), (3, .int x3_5), (4, .int x4_5)]) hx hb dX9_saidTogether_94 hl (by decide) rfl (fun ls hl => ?_)
              refine lv_iload_n hx hb dX9_saidTogether_96 rfl (lv_at hl 6 rfl) ?_
              refine lv_aload_n hx hb dX9_saidTogether_97 rfl (lv_at hl 3 rfl) ?_
              refine xget (ref := "AbsentPraise$Trials") (T := TX9) (v := .ref (X.2.1 15)) hC hP hin_X9 xo_X9 rfl 2 (by decide) (List.mem_of_getElem? (i := 3) rfl) rfl rfl dX9_saidTogether_98 ?_
              refine lv_iload hx hb dX9_saidTogether_101 (lv_at hl 7 rfl) ?_
              refine lv_iload hx hb dX9_saidTogether_103 (lv_at hl 1 rfl) ?_
              refine lv_iload hx hb dX9_saidTogether_105 (lv_at hl 2 rfl) ?_
              refine lv_iload hx hb dX9_saidTogether_107 (lv_at hl 0 rfl) ?_
              refine lv_aload_n hx hb dX9_saidTogether_109 rfl (lv_at hl 3 rfl) ?_
              refine xget (ref := "AbsentPraise$Trials") (T := TX9) (v := .ref (X.2.1 32)) hC hP hin_X9 xo_X9 rfl 1 (by decide) (List.mem_of_getElem? (i := 4) rfl) rfl rfl dX9_saidTogether_110 ?_
              refine xget (ref := "AbsentPraise$Talk") (T := TX7) (v := .int (S 32 4)) hC hP hin_X7 (xo_T (by decide)) rfl 4 (by decide) (List.mem_of_getElem? (i := 7) rfl) rfl rfl dX9_saidTogether_113 ?_
              refine lv_iload hx hb dX9_saidTogether_116 (lv_at hl 2 rfl) ?_
              refine xcSN_iR (As := [.int (S 32 4), .int r_3]) (rest := [.int r_11, .int r_3, .int r_8, .int x4_5, .ref (X.2.1 15), .int x3_5]) hC hP hS (k_X10_has l X S (S 32 4) r_3) (va_cnB (host := "AbsentPraise") 2 hts gX9_saidTogether_X10_has_n56 rfl rfl rfl (hN 15 _ rfl) (hts (.initialized RX10) (List.mem_of_getElem? (i := 20) rfl)) hs_X10_has ⟨Nat.le_of_ble_eq_true rfl, Nat.le_of_ble_eq_true rfl⟩) (hts (.static yX10_has) (List.mem_of_getElem? (i := 19) rfl)) rfl rfl hl.1 (Nat.le_of_ble_eq_true rfl) dX9_saidTogether_118 (fun r_12 hp_r_12 H locs hP hS => ?_)
              obtain ⟨hr_12, hzr_12⟩ := hp_r_12
              refine xcV_iR (b := 15) (As := [.int x4_5, .int r_8, .int r_3, .int r_11, .int r_12]) (rest := [.int x3_5]) hC hP hS (k_X4_says l X S x4_5 r_8 r_3 r_11 r_12) (cwV 5 hts gX9_saidTogether_X4_says rfl rfl rfl hd_X4_says ⟨Nat.le_of_ble_eq_true rfl, Nat.le_of_ble_eq_true rfl⟩) xo_X4 rfl rfl rfl hl.1 (Nat.le_of_ble_eq_true rfl) dX9_saidTogether_121 (fun r_13 hr_13 H locs hP hS => ?_)
              refine lv_iadd hx hb dX9_saidTogether_124 ?_
              refine lv_istore_n (lv' := [(3, .int (x3_5 + r_13)), (7, .int r_11), (6, .int r_8), (5, .int r_3), (0, .ref (X.2.1 16)), (1, .int x1_5), (2, .int x2_5), (4, .int x4_5)]) hx hb dX9_saidTogether_125 rfl hl (by decide) rfl (fun ls hl => ?_)
              refine lv_iinc (v := (x4_5 + 1)) (lv' := [(4, .int (x4_5 + 1)), (3, .int (x3_5 + r_13)), (7, .int r_11), (6, .int r_8), (5, .int r_3), (0, .ref (X.2.1 16)), (1, .int x1_5), (2, .int x2_5)]) hx hb dX9_saidTogether_126 hl (k := 7) rfl rfl (by decide) rfl (fun ls hl => ?_)
              refine lv_goto (tgt := 5) hx hb dX9_saidTogether_129 (by decide) ?_
              have he_14 : f_X9_saidTogether_L5 (n + 1) S x1_5 x2_5 x3_5 x4_5 = f_X9_saidTogether_L5 n S x1_5 x2_5 (x3_5 + r_13) (x4_5 + 1) := (by subst hr_3 hr_6 hr_8 hr_9 hr_11 hr_12 hr_13; exact (iN c_1 (iN c_4 (ip c_7 (ip c_10 rfl)))))
              exact ih_5 x1_5 x2_5 (x3_5 + r_13) (x4_5 + 1) (by subst hr_3 hr_6 hr_8 hr_9 hr_11 hr_12 hr_13; exact (sp (sp (sn (sn hs_5 c_1) c_4) c_7) c_10)) (fun q hq => hex_5 q (hq.trans he_14.symm)) _ _ hP hS ls (lv_sub hl [5, 6, 7, 1, 0] rfl)
            · refine lv_iload_n hx hb dX9_saidTogether_78 rfl (lv_at hl 4 rfl) ?_
              refine lv_goto (tgt := 94) hx hb dX9_saidTogether_79 (by decide) ?_
              refine lv_istore (lv' := [(7, .int x2_5), (6, .int r_8), (5, .int r_3), (0, .ref (X.2.1 16)), (1, .int x1_5), (2, .int x2_5), (3, .int x3_5), (4, .int x4_5)]) hx hb dX9_saidTogether_94 hl (by decide) rfl (fun ls hl => ?_)
              refine lv_iload_n hx hb dX9_saidTogether_96 rfl (lv_at hl 6 rfl) ?_
              refine lv_aload_n hx hb dX9_saidTogether_97 rfl (lv_at hl 3 rfl) ?_
              refine xget (ref := "AbsentPraise$Trials") (T := TX9) (v := .ref (X.2.1 15)) hC hP hin_X9 xo_X9 rfl 2 (by decide) (List.mem_of_getElem? (i := 3) rfl) rfl rfl dX9_saidTogether_98 ?_
              refine lv_iload hx hb dX9_saidTogether_101 (lv_at hl 7 rfl) ?_
              refine lv_iload hx hb dX9_saidTogether_103 (lv_at hl 1 rfl) ?_
              refine lv_iload hx hb dX9_saidTogether_105 (lv_at hl 2 rfl) ?_
              refine lv_iload hx hb dX9_saidTogether_107 (lv_at hl 0 rfl) ?_
              refine lv_aload_n hx hb dX9_saidTogether_109 rfl (lv_at hl 3 rfl) ?_
              refine xget (ref := "AbsentPraise$Trials") (T := TX9) (v := .ref (X.2.1 32)) hC hP hin_X9 xo_X9 rfl 1 (by decide) (List.mem_of_getElem? (i := 4) rfl) rfl rfl dX9_saidTogether_110 ?_
              refine xget (ref := "AbsentPraise$Talk") (T := TX7) (v := .int (S 32 4)) hC hP hin_X7 (xo_T (by decide)) rfl 4 (by decide) (List.mem_of_getElem? (i := 7) rfl) rfl rfl dX9_saidTogether_113 ?_
              refine lv_iload hx hb dX9_saidTogether_116 (lv_at hl 2 rfl) ?_
              refine xcSN_iR (As := [.int (S 32 4), .int r_3]) (rest := [.int x2_5, .int r_3, .int r_8, .int x4_5, .ref (X.2.1 15), .int x3_5]) hC hP hS (k_X10_has l X S (S 32 4) r_3) (va_cnB (host := "AbsentPraise") 2 hts gX9_saidTogether_X10_has_n56 rfl rfl rfl (hN 15 _ rfl) (hts (.initialized RX10) (List.mem_of_getElem? (i := 20) rfl)) hs_X10_has ⟨Nat.le_of_ble_eq_true rfl, Nat.le_of_ble_eq_true rfl⟩) (hts (.static yX10_has) (List.mem_of_getElem? (i := 19) rfl)) rfl rfl hl.1 (Nat.le_of_ble_eq_true rfl) dX9_saidTogether_118 (fun r_15 hp_r_15 H locs hP hS => ?_)
              obtain ⟨hr_15, hzr_15⟩ := hp_r_15
              refine xcV_iR (b := 15) (As := [.int x4_5, .int r_8, .int r_3, .int x2_5, .int r_15]) (rest := [.int x3_5]) hC hP hS (k_X4_says l X S x4_5 r_8 r_3 x2_5 r_15) (cwV 5 hts gX9_saidTogether_X4_says rfl rfl rfl hd_X4_says ⟨Nat.le_of_ble_eq_true rfl, Nat.le_of_ble_eq_true rfl⟩) xo_X4 rfl rfl rfl hl.1 (Nat.le_of_ble_eq_true rfl) dX9_saidTogether_121 (fun r_16 hr_16 H locs hP hS => ?_)
              refine lv_iadd hx hb dX9_saidTogether_124 ?_
              refine lv_istore_n (lv' := [(3, .int (x3_5 + r_16)), (7, .int x2_5), (6, .int r_8), (5, .int r_3), (0, .ref (X.2.1 16)), (1, .int x1_5), (2, .int x2_5), (4, .int x4_5)]) hx hb dX9_saidTogether_125 rfl hl (by decide) rfl (fun ls hl => ?_)
              refine lv_iinc (v := (x4_5 + 1)) (lv' := [(4, .int (x4_5 + 1)), (3, .int (x3_5 + r_16)), (7, .int x2_5), (6, .int r_8), (5, .int r_3), (0, .ref (X.2.1 16)), (1, .int x1_5), (2, .int x2_5)]) hx hb dX9_saidTogether_126 hl (k := 7) rfl rfl (by decide) rfl (fun ls hl => ?_)
              refine lv_goto (tgt := 5) hx hb dX9_saidTogether_129 (by decide) ?_
              have he_17 : f_X9_saidTogether_L5 (n + 1) S x1_5 x2_5 x3_5 x4_5 = f_X9_saidTogether_L5 n S x1_5 x2_5 (x3_5 + r_16) (x4_5 + 1) := (by subst hr_3 hr_6 hr_8 hr_9 hr_15 hr_16; exact (iN c_1 (iN c_4 (ip c_7 (iN c_10 rfl)))))
              exact ih_5 x1_5 x2_5 (x3_5 + r_16) (x4_5 + 1) (by subst hr_3 hr_6 hr_8 hr_9 hr_15 hr_16; exact (sn (sp (sn (sn hs_5 c_1) c_4) c_7) c_10)) (fun q hq => hex_5 q (hq.trans he_17.symm)) _ _ hP hS ls (lv_sub hl [5, 6, 7, 1, 0] rfl)
          · refine lv_iload_n hx hb dX9_saidTogether_51 rfl (lv_at hl 3 rfl) ?_
            refine lv_goto (tgt := 67) hx hb dX9_saidTogether_52 (by decide) ?_
            refine lv_istore (lv' := [(6, .int x2_5), (5, .int r_3), (0, .ref (X.2.1 16)), (1, .int x1_5), (2, .int x2_5), (3, .int x3_5), (4, .int x4_5)]) hx hb dX9_saidTogether_67 hl (by decide) rfl (fun ls hl => ?_)
            refine lv_iload_n hx hb dX9_saidTogether_69 rfl (lv_at hl 3 rfl) ?_
            refine lv_iload hx hb dX9_saidTogether_70 (lv_at hl 1 rfl) ?_
            refine xcSN_iR (As := [.int x1_5, .int r_3]) (rest := []) hC hP hS (k_X10_has l X S x1_5 r_3) (va_cnB (host := "AbsentPraise") 2 hts gX9_saidTogether_X10_has_n56 rfl rfl rfl (hN 15 _ rfl) (hts (.initialized RX10) (List.mem_of_getElem? (i := 20) rfl)) hs_X10_has ⟨Nat.le_of_ble_eq_true rfl, Nat.le_of_ble_eq_true rfl⟩) (hts (.static yX10_has) (List.mem_of_getElem? (i := 19) rfl)) rfl rfl hl.1 (Nat.le_of_ble_eq_true rfl) dX9_saidTogether_72 (fun r_18 hp_r_18 H locs hP hS => ?_)
            obtain ⟨hr_18, hzr_18⟩ := hp_r_18
            refine lv_if_eq (tgt := 82) hx hb dX9_saidTogether_75 (by decide) (fun c_19 => ?_) (fun c_19 => ?_)
            · refine lv_aload_n hx hb dX9_saidTogether_82 rfl (lv_at hl 2 rfl) ?_
              refine xget (ref := "AbsentPraise$Trials") (T := TX9) (v := .ref (X.2.1 32)) hC hP hin_X9 xo_X9 rfl 1 (by decide) (List.mem_of_getElem? (i := 4) rfl) rfl rfl dX9_saidTogether_83 ?_
              refine xget (ref := "AbsentPraise$Talk") (T := TX7) (v := .ref (X.2.1 33)) hC hP hin_X7 (xo_T (by decide)) rfl 0 (by decide) (List.mem_of_getElem? (i := 6) rfl) rfl rfl dX9_saidTogether_86 ?_
              refine lv_iload hx hb dX9_saidTogether_89 (lv_at hl 1 rfl) ?_
              refine xcSN_iR (As := [.ref (X.2.1 33), .int r_3]) (rest := []) hC hP hS (k_X10_at l X S 33 r_3 rfl) (va_cnB (host := "AbsentPraise") 2 hts gX9_saidTogether_X10_at_n45 rfl rfl rfl (hN 16 _ rfl) (hts (.initialized RX10) (List.mem_of_getElem? (i := 20) rfl)) hs_X10_at ⟨Nat.le_of_ble_eq_true rfl, Nat.le_of_ble_eq_true rfl⟩) (hts (.static yX10_at) (List.mem_of_getElem? (i := 22) rfl)) rfl rfl hl.1 (Nat.le_of_ble_eq_true rfl) dX9_saidTogether_91 (fun r_20 hr_20 H locs hP hS => ?_)
              refine lv_istore (lv' := [(7, .int r_20), (6, .int x2_5), (5, .int r_3), (0, .ref (X.2.1 16)), (1, .int x1_5), (2, .int x2_5), (3, .int x3_5), (4, .int x4_5)]) hx hb dX9_saidTogether_94 hl (by decide) rfl (fun ls hl => ?_)
              refine lv_iload_n hx hb dX9_saidTogether_96 rfl (lv_at hl 6 rfl) ?_
              refine lv_aload_n hx hb dX9_saidTogether_97 rfl (lv_at hl 3 rfl) ?_
              refine xget (ref := "AbsentPraise$Trials") (T := TX9) (v := .ref (X.2.1 15)) hC hP hin_X9 xo_X9 rfl 2 (by decide) (List.mem_of_getElem? (i := 3) rfl) rfl rfl dX9_saidTogether_98 ?_
              refine lv_iload hx hb dX9_saidTogether_101 (lv_at hl 7 rfl) ?_
              refine lv_iload hx hb dX9_saidTogether_103 (lv_at hl 1 rfl) ?_
              refine lv_iload hx hb dX9_saidTogether_105 (lv_at hl 2 rfl) ?_
              refine lv_iload hx hb dX9_saidTogether_107 (lv_at hl 0 rfl) ?_
              refine lv_aload_n hx hb dX9_saidTogether_109 rfl (lv_at hl 3 rfl) ?_
              refine xget (ref := "AbsentPraise$Trials") (T := TX9) (v := .ref (X.2.1 32)) hC hP hin_X9 xo_X9 rfl 1 (by decide) (List.mem_of_getElem? (i := 4) rfl) rfl rfl dX9_saidTogether_110 ?_
              refine xget (ref := "AbsentPraise$Talk") (T := TX7) (v := .int (S 32 4)) hC hP hin_X7 (xo_T (by decide)) rfl 4 (by decide) (List.mem_of_getElem? (i := 7) rfl) rfl rfl dX9_saidTogether_113 ?_
              refine lv_iload hx hb dX9_saidTogether_116 (lv_at hl 2 rfl) ?_
              refine xcSN_iR (As := [.int (S 32 4), .int r_3]) (rest := [.int r_20, .int r_3, .int x2_5, .int x4_5, .ref (X.2.1 15), .int x3_5]) hC hP hS (k_X10_has l X S (S 32 4) r_3) (va_cnB (host := "AbsentPraise") 2 hts gX9_saidTogether_X10_has_n56 rfl rfl rfl (hN 15 _ rfl) (hts (.initialized RX10) (List.mem_of_getElem? (i := 20) rfl)) hs_X10_has ⟨Nat.le_of_ble_eq_true rfl, Nat.le_of_ble_eq_true rfl⟩) (hts (.static yX10_has) (List.mem_of_getElem? (i := 19) rfl)) rfl rfl hl.1 (Nat.le_of_ble_eq_true rfl) dX9_saidTogether_118 (fun r_21 hp_r_21 H locs hP hS => ?_)
              obtain ⟨hr_21, hzr_21⟩ := hp_r_21
              refine xcV_iR (b := 15) (As := [.int x4_5, .int x2_5, .int r_3, .int r_20, .int r_21]) (rest := [.int x3_5]) hC hP hS (k_X4_says l X S x4_5 x2_5 r_3 r_20 r_21) (cwV 5 hts gX9_saidTogether_X4_says rfl rfl rfl hd_X4_says ⟨Nat.le_of_ble_eq_true rfl, Nat.le_of_ble_eq_true rfl⟩) xo_X4 rfl rfl rfl hl.1 (Nat.le_of_ble_eq_true rfl) dX9_saidTogether_121 (fun r_22 hr_22 H locs hP hS => ?_)
              refine lv_iadd hx hb dX9_saidTogether_124 ?_
              refine lv_istore_n (lv' := [(3, .int (x3_5 + r_22)), (7, .int r_20), (6, .int x2_5), (5, .int r_3), (0, .ref (X.2.1 16)), (1, .int x1_5), (2, .int x2_5), (4, .int x4_5)]) hx hb dX9_saidTogether_125 rfl hl (by decide) rfl (fun ls hl => ?_)
              refine lv_iinc (v := (x4_5 + 1)) (lv' := [(4, .int (x4_5 + 1)), (3, .int (x3_5 + r_22)), (7, .int r_20), (6, .int x2_5), (5, .int r_3), (0, .ref (X.2.1 16)), (1, .int x1_5), (2, .int x2_5)]) hx hb dX9_saidTogether_126 hl (k := 7) rfl rfl (by decide) rfl (fun ls hl => ?_)
              refine lv_goto (tgt := 5) hx hb dX9_saidTogether_129 (by decide) ?_
              have he_23 : f_X9_saidTogether_L5 (n + 1) S x1_5 x2_5 x3_5 x4_5 = f_X9_saidTogether_L5 n S x1_5 x2_5 (x3_5 + r_22) (x4_5 + 1) := (by subst hr_3 hr_6 hr_18 hr_20 hr_21 hr_22; exact (iN c_1 (iN c_4 (iN c_7 (ip c_19 rfl)))))
              exact ih_5 x1_5 x2_5 (x3_5 + r_22) (x4_5 + 1) (by subst hr_3 hr_6 hr_18 hr_20 hr_21 hr_22; exact (sp (sn (sn (sn hs_5 c_1) c_4) c_7) c_19)) (fun q hq => hex_5 q (hq.trans he_23.symm)) _ _ hP hS ls (lv_sub hl [5, 6, 7, 1, 0] rfl)
            · refine lv_iload_n hx hb dX9_saidTogether_78 rfl (lv_at hl 4 rfl) ?_
              refine lv_goto (tgt := 94) hx hb dX9_saidTogether_79 (by decide) ?_
              refine lv_istore (lv' := [(7, .int x2_5), (6, .int x2_5), (5, .int r_3), (0, .ref (X.2.1 16)), (1, .int x1_5), (2, .int x2_5), (3, .int x3_5), (4, .int x4_5)]) hx hb dX9_saidTogether_94 hl (by decide) rfl (fun ls hl => ?_)
              refine lv_iload_n hx hb dX9_saidTogether_96 rfl (lv_at hl 6 rfl) ?_
              refine lv_aload_n hx hb dX9_saidTogether_97 rfl (lv_at hl 3 rfl) ?_
              refine xget (ref := "AbsentPraise$Trials") (T := TX9) (v := .ref (X.2.1 15)) hC hP hin_X9 xo_X9 rfl 2 (by decide) (List.mem_of_getElem? (i := 3) rfl) rfl rfl dX9_saidTogether_98 ?_
              refine lv_iload hx hb dX9_saidTogether_101 (lv_at hl 7 rfl) ?_
              refine lv_iload hx hb dX9_saidTogether_103 (lv_at hl 1 rfl) ?_
              refine lv_iload hx hb dX9_saidTogether_105 (lv_at hl 2 rfl) ?_
              refine lv_iload hx hb dX9_saidTogether_107 (lv_at hl 0 rfl) ?_
              refine lv_aload_n hx hb dX9_saidTogether_109 rfl (lv_at hl 3 rfl) ?_
              refine xget (ref := "AbsentPraise$Trials") (T := TX9) (v := .ref (X.2.1 32)) hC hP hin_X9 xo_X9 rfl 1 (by decide) (List.mem_of_getElem? (i := 4) rfl) rfl rfl dX9_saidTogether_110 ?_
              refine xget (ref := "AbsentPraise$Talk") (T := TX7) (v := .int (S 32 4)) hC hP hin_X7 (xo_T (by decide)) rfl 4 (by decide) (List.mem_of_getElem? (i := 7) rfl) rfl rfl dX9_saidTogether_113 ?_
              refine lv_iload hx hb dX9_saidTogether_116 (lv_at hl 2 rfl) ?_
              refine xcSN_iR (As := [.int (S 32 4), .int r_3]) (rest := [.int x2_5, .int r_3, .int x2_5, .int x4_5, .ref (X.2.1 15), .int x3_5]) hC hP hS (k_X10_has l X S (S 32 4) r_3) (va_cnB (host := "AbsentPraise") 2 hts gX9_saidTogether_X10_has_n56 rfl rfl rfl (hN 15 _ rfl) (hts (.initialized RX10) (List.mem_of_getElem? (i := 20) rfl)) hs_X10_has ⟨Nat.le_of_ble_eq_true rfl, Nat.le_of_ble_eq_true rfl⟩) (hts (.static yX10_has) (List.mem_of_getElem? (i := 19) rfl)) rfl rfl hl.1 (Nat.le_of_ble_eq_true rfl) dX9_saidTogether_118 (fun r_24 hp_r_24 H locs hP hS => ?_)
              obtain ⟨hr_24, hzr_24⟩ := hp_r_24
              refine xcV_iR (b := 15) (As := [.int x4_5, .int x2_5, .int r_3, .int x2_5, .int r_24]) (rest := [.int x3_5]) hC hP hS (k_X4_says l X S x4_5 x2_5 r_3 x2_5 r_24) (cwV 5 hts gX9_saidTogether_X4_says rfl rfl rfl hd_X4_says ⟨Nat.le_of_ble_eq_true rfl, Nat.le_of_ble_eq_true rfl⟩) xo_X4 rfl rfl rfl hl.1 (Nat.le_of_ble_eq_true rfl) dX9_saidTogether_121 (fun r_25 hr_25 H locs hP hS => ?_)
              refine lv_iadd hx hb dX9_saidTogether_124 ?_
              refine lv_istore_n (lv' := [(3, .int (x3_5 + r_25)), (7, .int x2_5), (6, .int x2_5), (5, .int r_3), (0, .ref (X.2.1 16)), (1, .int x1_5), (2, .int x2_5), (4, .int x4_5)]) hx hb dX9_saidTogether_125 rfl hl (by decide) rfl (fun ls hl => ?_)
              refine lv_iinc (v := (x4_5 + 1)) (lv' := [(4, .int (x4_5 + 1)), (3, .int (x3_5 + r_25)), (7, .int x2_5), (6, .int x2_5), (5, .int r_3), (0, .ref (X.2.1 16)), (1, .int x1_5), (2, .int x2_5)]) hx hb dX9_saidTogether_126 hl (k := 7) rfl rfl (by decide) rfl (fun ls hl => ?_)
              refine lv_goto (tgt := 5) hx hb dX9_saidTogether_129 (by decide) ?_
              have he_26 : f_X9_saidTogether_L5 (n + 1) S x1_5 x2_5 x3_5 x4_5 = f_X9_saidTogether_L5 n S x1_5 x2_5 (x3_5 + r_25) (x4_5 + 1) := (by subst hr_3 hr_6 hr_18 hr_24 hr_25; exact (iN c_1 (iN c_4 (iN c_7 (iN c_19 rfl)))))
              exact ih_5 x1_5 x2_5 (x3_5 + r_25) (x4_5 + 1) (by subst hr_3 hr_6 hr_18 hr_24 hr_25; exact (sn (sn (sn (sn hs_5 c_1) c_4) c_7) c_19)) (fun q hq => hex_5 q (hq.trans he_26.symm)) _ _ hP hS ls (lv_sub hl [5, 6, 7, 1, 0] rfl)
  refine hLp_5 ((fu 0 (S 9 9))) p0 p1 0 0 (nl hs) (fun q_5 hq_5 H locs hP hS ls hl => ?_) _ _ hP hS ls (lv_sub hl [2, 3, 4, 1, 0] rfl)
  refine lv_iload_n hx hb dX9_saidTogether_132 rfl (lv_at hl 0 rfl) ?_
  exact xret_iR hC hP hS hb hr ((by subst hq_5; exact rfl)) dX9_saidTogether_133 hlocks
theorem hs_X10_isSmaller : yX10_isSmaller.cls ≠ "java/lang/invoke/MethodHandle" ∧ yX10_isSmaller.cls ≠ "java/lang/invoke/VarHandle" ∧ (parseMethodDescriptor yX10_isSmaller.desc).map (fun d => d.parameters.length) = some 2 := by decide +kernel
set_option maxHeartbeats 4000000 in
set_option maxRecDepth 100000 in
theorem k_X10_isSmaller (l : Launch) (X : xX) (S : xS) (p0 : Int32) (p1 : Int32) : Met l yX10_isSmaller wsX10_isSmaller ({ frames := 1, cells := 0, slots := 0, locals := 20 } : Room) (va_Pc [.int p0, .int p1] (xI X S)) (va_Qi (fun (r : Int32) (u : xS) => (r = (f_X10_isSmaller S p0 p1) ∧ (r = 0 ∨ r = 1)) ∧ u = S) (xI X) (xA X)) 0 0 (xA X) := by
  refine Met.ofW (cc := cX10_isSmaller) (maxL := 3) (ret := (some .boolean)) (by decide) rfl ?_
  intro p e s m args below meth c s₁ B hml hv
  obtain ⟨rfl, hP, hK, hN, hJ⟩ := hv
  have hx := B.exec
  have hb := B.bytes
  have hr := B.returns
  have hts := atoms_spec (ws := wsX10_isSmaller) B.pre
  have hown : s.vm.findClass RX10 = some m.cls := findClass_of_methodNamed B.named
  have hlocks := B.notSynchronized
  have hC : xC X p m c cX10_isSmaller 3 s _ wsX10_isSmaller RX10 := ⟨⟨hx, hb, hml, hown, hts⟩, hK, hN, hJ⟩
  have hS : va_S (xA X) s.heap s.heap [] := va_S.rf
  have hl := lv_entry ([.int p0, .int p1]) (n := 3) (Nat.le_of_ble_eq_true rfl)
  rw [lg_entry_eq]
  generalize (lg_sl ([.int p0, .int p1]) ++ List.replicate (3 - (lg_sl ([.int p0, .int p1])).length) Slot.unset).toArray = ls at hl ⊢
  have hl : lv_has ls 3 [(0, .int p0), (1, .int p1)] := hl
  refine lv_iload_n hx hb dX10_isSmaller_0 rfl (lv_at hl 0 rfl) ?_
  refine xcS_iR (As := [.int p0]) (rest := []) hC hP hS (k_J6_bitCount_0f7a4 l X S p0) (va_cwS 1 hts gX10_isSmaller_J6_bitCount_0f7a4 rfl rfl rfl hs_J6_bitCount_0f7a4 ⟨Nat.le_of_ble_eq_true rfl, Nat.le_of_ble_eq_true rfl⟩) rfl rfl hl.1 (Nat.le_of_ble_eq_true rfl) dX10_isSmaller_1 (fun r_1 hr_1 H locs hP hS => ?_)
  refine lv_iload_n hx hb dX10_isSmaller_4 rfl (lv_at hl 1 rfl) ?_
  refine xcS_iR (As := [.int p1]) (rest := [.int r_1]) hC hP hS (k_J6_bitCount_0f7a4 l X S p1) (va_cwS 1 hts gX10_isSmaller_J6_bitCount_0f7a4 rfl rfl rfl hs_J6_bitCount_0f7a4 ⟨Nat.le_of_ble_eq_true rfl, Nat.le_of_ble_eq_true rfl⟩) rfl rfl hl.1 (Nat.le_of_ble_eq_true rfl) dX10_isSmaller_5 (fun r_2 hr_2 H locs hP hS => ?_)
  refine lv_isub hx hb dX10_isSmaller_8 ?_
  refine lv_istore_n (lv' := [(2, .int (r_1 - r_2)), (0, .int p0), (1, .int p1)]) hx hb dX10_isSmaller_9 rfl hl (by decide) rfl (fun ls hl => ?_)
  refine lv_iload_n hx hb dX10_isSmaller_10 rfl (lv_at hl 0 rfl) ?_
  refine lv_if_lt (tgt := 23) hx hb dX10_isSmaller_11 (by decide) (fun c_3 => ?_) (fun c_3 => ?_)
  · refine lv_iconst (v := 1) hx hb dX10_isSmaller_23 (by decide) ?_
    refine lv_goto (tgt := 28) hx hb dX10_isSmaller_24 (by decide) ?_
    exact xret_zR hC hP hS hb hr (.inr rfl) ((by subst hr_1 hr_2; exact (ip c_3 rfl))) dX10_isSmaller_28 hlocks
  · refine lv_iload_n hx hb dX10_isSmaller_14 rfl (lv_at hl 0 rfl) ?_
    refine lv_if_ne (tgt := 27) hx hb dX10_isSmaller_15 (by decide) (fun c_4 => ?_) (fun c_4 => ?_)
    · refine lv_iconst (v := 0) hx hb dX10_isSmaller_27 (by decide) ?_
      exact xret_zR hC hP hS hb hr (.inl rfl) ((by subst hr_1 hr_2; exact (iN c_3 (iN c_4 rfl)))) dX10_isSmaller_28 hlocks
    · refine lv_iload_n hx hb dX10_isSmaller_18 rfl (lv_at hl 1 rfl) ?_
      refine lv_iload_n hx hb dX10_isSmaller_19 rfl (lv_at hl 2 rfl) ?_
      refine lv_icmp_ge (tgt := 27) hx hb dX10_isSmaller_20 (by decide) (fun c_5 => ?_) (fun c_5 => ?_)
      · refine lv_iconst (v := 0) hx hb dX10_isSmaller_27 (by decide) ?_
        exact xret_zR hC hP hS hb hr (.inl rfl) ((by subst hr_1 hr_2; exact (iN c_3 (ip c_4 (ip c_5 rfl))))) dX10_isSmaller_28 hlocks
      · refine lv_iconst (v := 1) hx hb dX10_isSmaller_23 (by decide) ?_
        refine lv_goto (tgt := 28) hx hb dX10_isSmaller_24 (by decide) ?_
        exact xret_zR hC hP hS hb hr (.inr rfl) ((by subst hr_1 hr_2; exact (iN c_3 (ip c_4 (iN c_5 rfl))))) dX10_isSmaller_28 hlocks
theorem hd_X9_bestLeavers : yX9_bestLeavers.cls = RX9 ∧ yX9_bestLeavers.cls ≠ "java/lang/invoke/MethodHandle" ∧ yX9_bestLeavers.cls ≠ "java/lang/invoke/VarHandle" ∧ (parseMethodDescriptor yX9_bestLeavers.desc).map (fun d => d.parameters.length) = some 1 := by decide +kernel
set_option maxHeartbeats 4000000 in
set_option maxRecDepth 100000 in
theorem k_X9_bestLeavers (l : Launch) (X : xX) (S : xS) (p0 : Int32) (hs : s_X9_bestLeavers S p0) : Met l yX9_bestLeavers wsX9_bestLeavers ({ frames := 4, cells := 0, slots := 0, locals := 97 } : Room) (va_Pc [.ref (X.2.1 16), .int p0] (xI X S)) (va_Qi (fun (r : Int32) (u : xS) => r = (f_X9_bestLeavers S p0) ∧ u = S) (xI X) (xA X)) 0 0 (xA X) := by
  refine Met.ofW (cc := cX9_bestLeavers) (maxL := 6) (ret := (some .int)) (by decide) rfl ?_
  intro p e s m args below meth c s₁ B hml hv
  obtain ⟨rfl, hP, hK, hN, hJ⟩ := hv
  have hx := B.exec
  have hb := B.bytes
  have hr := B.returns
  have hts := atoms_spec (ws := wsX9_bestLeavers) B.pre
  have hown : s.vm.findClass RX9 = some m.cls := findClass_of_methodNamed B.named
  have hlocks := B.notSynchronized
  have hC : xC X p m c cX9_bestLeavers 6 s _ wsX9_bestLeavers RX9 := ⟨⟨hx, hb, hml, hown, hts⟩, hK, hN, hJ⟩
  have hS : va_S (xA X) s.heap s.heap [] := va_S.rf
  have hin_X2 : ∀ w ∈ u_ws RX2 TX2 11, w ∈ wsX9_bestLeavers := by decide +kernel
  have hin_X9 : ∀ w ∈ u_ws RX9 TX9 5, w ∈ wsX9_bestLeavers := by decide +kernel
  have hl := lv_entry ([.ref (X.2.1 16), .int p0]) (n := 6) (Nat.le_of_ble_eq_true rfl)
  rw [lg_entry_eq]
  generalize (lg_sl ([.ref (X.2.1 16), .int p0]) ++ List.replicate (6 - (lg_sl ([.ref (X.2.1 16), .int p0])).length) Slot.unset).toArray = ls at hl ⊢
  have hl : lv_has ls 6 [(0, .ref (X.2.1 16)), (1, .int p0)] := hl
  refine lv_iconst (v := 0) hx hb dX9_bestLeavers_0 (by decide) ?_
  refine lv_istore_n (lv' := [(2, .int 0), (0, .ref (X.2.1 16)), (1, .int p0)]) hx hb dX9_bestLeavers_1 rfl hl (by decide) rfl (fun ls hl => ?_)
  refine lv_aload_n hx hb dX9_bestLeavers_2 rfl (lv_at hl 1 rfl) ?_
  refine lv_iconst (v := 0) hx hb dX9_bestLeavers_3 (by decide) ?_
  refine lv_iload_n hx hb dX9_bestLeavers_4 rfl (lv_at hl 2 rfl) ?_
  have hn_1 : s_X9_saidTogether S 0 p0 := (nl hs)
  refine xcV_iR (b := 16) (As := [.int 0, .int p0]) (rest := []) hC hP hS (k_X9_saidTogether l X S 0 p0 hn_1) (cwV 2 hts gX9_bestLeavers_X9_saidTogether rfl rfl rfl hd_X9_saidTogether ⟨Nat.le_of_ble_eq_true rfl, Nat.le_of_ble_eq_true rfl⟩) xo_X9 rfl rfl rfl hl.1 (Nat.le_of_ble_eq_true rfl) dX9_bestLeavers_5 (fun r_2 hr_2 H locs hP hS => ?_)
  refine lv_istore_n (lv' := [(3, .int r_2), (2, .int 0), (0, .ref (X.2.1 16)), (1, .int p0)]) hx hb dX9_bestLeavers_8 rfl hl (by decide) rfl (fun ls hl => ?_)
  refine lv_iconst (v := 1) hx hb dX9_bestLeavers_9 (by decide) ?_
  refine lv_istore (lv' := [(4, .int 1), (3, .int r_2), (2, .int 0), (0, .ref (X.2.1 16)), (1, .int p0)]) hx hb dX9_bestLeavers_10 hl (by decide) rfl (fun ls hl => ?_)
  have hLp_12 : ∀ (n : Nat) (x1_12 : Int32) (x2_12 : Int32) (x3_12 : Int32) (x4_12 : Int32), s_X9_bestLeavers_L12 n S x1_12 x2_12 x3_12 x4_12 → (∀ q : Int32, q = f_X9_bestLeavers_L12 n S x1_12 x2_12 x3_12 x4_12 → (∀ (H : Heap) (locs : List Loc), va_P X.1 vwCl (xW X S) H → va_S (xA X) s.heap H locs → ∀ (ls : Array Slot), lv_has ls 6 [(2, .int q)] → W p l e ({ frames := 4, cells := 0, slots := 0, locals := 97 } : Room) s m ([.ref (X.2.1 16), .int p0] : List Value).toArray below meth c H locs 0 0 (MQ below (va_Qi (fun (r : Int32) (u : xS) => r = (f_X9_bestLeavers S p0) ∧ u = S) (xI X) (xA X)) ([.ref (X.2.1 16), .int p0] : List Value).toArray s 0 0 (xA X)) (F0 m 69 ls []))) → ∀ (H : Heap) (locs : List Loc), va_P X.1 vwCl (xW X S) H → va_S (xA X) s.heap H locs → ∀ (ls : Array Slot), lv_has ls 6 [(0, .ref (X.2.1 16)), (1, .int x1_12), (2, .int x2_12), (3, .int x3_12), (4, .int x4_12)] → W p l e ({ frames := 4, cells := 0, slots := 0, locals := 97 } : Room) s m ([.ref (X.2.1 16), .int p0] : List Value).toArray below meth c H locs 0 0 (MQ below (va_Qi (fun (r : Int32) (u : xS) => r = (f_X9_bestLeavers S p0) ∧ u = S) (xI X) (xA X)) ([.ref (X.2.1 16), .int p0] : List Value).toArray s 0 0 (xA X)) (F0 m 12 ls []) := by
    intro n
    induction n with
    | zero => intro x1_12 x2_12 x3_12 x4_12 hs; exact hs.elim
    | succ n ih_12 =>
      intro x1_12 x2_12 x3_12 x4_12 hs_12 hex_12 H locs hP hS ls hl
      refine lv_iload hx hb dX9_bestLeavers_12 (lv_at hl 4 rfl) ?_
      refine lv_aload_n hx hb dX9_bestLeavers_14 rfl (lv_at hl 0 rfl) ?_
      refine xget (ref := "AbsentPraise$Trials") (T := TX9) (v := .ref (X.2.1 9)) hC hP hin_X9 xo_X9 rfl 0 (by decide) (List.mem_of_getElem? (i := 1) rfl) rfl rfl dX9_bestLeavers_15 ?_
      refine xget (ref := "AbsentPraise$Hill") (T := TX2) (v := .int (S 9 9)) hC hP hin_X2 (xo_H (by decide)) rfl 9 (by decide) (List.mem_of_getElem? (i := 2) rfl) rfl rfl dX9_bestLeavers_18 ?_
      refine xcSN_iR (As := [.int (S 9 9)]) (rest := [.int x4_12]) hC hP hS (k_X10_bit l X S (S 9 9)) (va_cnB (host := "AbsentPraise") 1 hts gX9_bestLeavers_X10_bit_n106 rfl rfl rfl (hN 14 _ rfl) (hts (.initialized RX10) (List.mem_of_getElem? (i := 25) rfl)) hs_X10_bit ⟨Nat.le_of_ble_eq_true rfl, Nat.le_of_ble_eq_true rfl⟩) (hts (.static yX10_bit) (List.mem_of_getElem? (i := 45) rfl)) rfl rfl hl.1 (Nat.le_of_ble_eq_true rfl) dX9_bestLeavers_21 (fun r_3 hr_3 H locs hP hS => ?_)
      refine lv_icmp_ge (tgt := 69) hx hb dX9_bestLeavers_24 (by decide) (fun c_4 => ?_) (fun c_4 => ?_)
      · have he_5 : f_X9_bestLeavers_L12 (n + 1) S x1_12 x2_12 x3_12 x4_12 = x2_12 := (by subst hr_3; exact (ip c_4 rfl))
        exact hex_12 _ he_5.symm _ _ hP hS ls (lv_sub hl [2] rfl)
      · refine lv_aload_n hx hb dX9_bestLeavers_27 rfl (lv_at hl 0 rfl) ?_
        refine lv_iload hx hb dX9_bestLeavers_28 (lv_at hl 4 rfl) ?_
        refine lv_iload_n hx hb dX9_bestLeavers_30 rfl (lv_at hl 1 rfl) ?_
        have hn_6 : s_X9_saidTogether S x4_12 x1_12 := (by subst hr_3; exact nl (sn hs_12 c_4))
        refine xcV_iR (b := 16) (As := [.int x4_12, .int x1_12]) (rest := []) hC hP hS (k_X9_saidTogether l X S x4_12 x1_12 hn_6) (cwV 2 hts gX9_bestLeavers_X9_saidTogether rfl rfl rfl hd_X9_saidTogether ⟨Nat.le_of_ble_eq_true rfl, Nat.le_of_ble_eq_true rfl⟩) xo_X9 rfl rfl rfl hl.1 (Nat.le_of_ble_eq_true rfl) dX9_bestLeavers_31 (fun r_7 hr_7 H locs hP hS => ?_)
        refine lv_istore (lv' := [(5, .int r_7), (0, .ref (X.2.1 16)), (1, .int x1_12), (2, .int x2_12), (3, .int x3_12), (4, .int x4_12)]) hx hb dX9_bestLeavers_34 hl (by decide) rfl (fun ls hl => ?_)
        refine lv_iload hx hb dX9_bestLeavers_36 (lv_at hl 0 rfl) ?_
        refine lv_iload_n hx hb dX9_bestLeavers_38 rfl (lv_at hl 4 rfl) ?_
        refine lv_icmp_gt (tgt := 57) hx hb dX9_bestLeavers_39 (by decide) (fun c_8 => ?_) (fun c_8 => ?_)
        · refine lv_iload hx hb dX9_bestLeavers_57 (lv_at hl 0 rfl) ?_
          refine lv_istore_n (lv' := [(3, .int r_7), (5, .int r_7), (0, .ref (X.2.1 16)), (1, .int x1_12), (2, .int x2_12), (4, .int x4_12)]) hx hb dX9_bestLeavers_59 rfl hl (by decide) rfl (fun ls hl => ?_)
          refine lv_iload hx hb dX9_bestLeavers_60 (lv_at hl 5 rfl) ?_
          refine lv_istore_n (lv' := [(2, .int x4_12), (3, .int r_7), (5, .int r_7), (0, .ref (X.2.1 16)), (1, .int x1_12), (4, .int x4_12)]) hx hb dX9_bestLeavers_62 rfl hl (by decide) rfl (fun ls hl => ?_)
          refine lv_iinc (v := (x4_12 + 1)) (lv' := [(4, .int (x4_12 + 1)), (2, .int x4_12), (3, .int r_7), (5, .int r_7), (0, .ref (X.2.1 16)), (1, .int x1_12)]) hx hb dX9_bestLeavers_63 hl (k := 5) rfl rfl (by decide) rfl (fun ls hl => ?_)
          refine lv_goto (tgt := 12) hx hb dX9_bestLeavers_66 (by decide) ?_
          have he_9 : f_X9_bestLeavers_L12 (n + 1) S x1_12 x2_12 x3_12 x4_12 = f_X9_bestLeavers_L12 n S x1_12 x4_12 r_7 (x4_12 + 1) := (by subst hr_3 hr_7; exact (iN c_4 (ip c_8 rfl)))
          exact ih_12 x1_12 x4_12 r_7 (x4_12 + 1) (by subst hr_3 hr_7; exact (sp (nr (sn hs_12 c_4)) c_8)) (fun q hq => hex_12 q (hq.trans he_9.symm)) _ _ hP hS ls (lv_sub hl [4, 5, 1, 2, 0] rfl)
        · refine lv_iload hx hb dX9_bestLeavers_42 (lv_at hl 0 rfl) ?_
          refine lv_iload_n hx hb dX9_bestLeavers_44 rfl (lv_at hl 4 rfl) ?_
          refine lv_icmp_ne (tgt := 63) hx hb dX9_bestLeavers_45 (by decide) (fun c_10 => ?_) (fun c_10 => ?_)
          · refine lv_iinc (v := (x4_12 + 1)) (lv' := [(4, .int (x4_12 + 1)), (5, .int r_7), (0, .ref (X.2.1 16)), (1, .int x1_12), (2, .int x2_12), (3, .int x3_12)]) hx hb dX9_bestLeavers_63 hl (k := 5) rfl rfl (by decide) rfl (fun ls hl => ?_)
            refine lv_goto (tgt := 12) hx hb dX9_bestLeavers_66 (by decide) ?_
            have he_11 : f_X9_bestLeavers_L12 (n + 1) S x1_12 x2_12 x3_12 x4_12 = f_X9_bestLeavers_L12 n S x1_12 x2_12 x3_12 (x4_12 + 1) := (by subst hr_3 hr_7; exact (iN c_4 (iN c_8 (iN c_10 rfl))))
            exact ih_12 x1_12 x2_12 x3_12 (x4_12 + 1) (by subst hr_3 hr_7; exact (sn (sn (nr (sn hs_12 c_4)) c_8) c_10)) (fun q hq => hex_12 q (hq.trans he_11.symm)) _ _ hP hS ls (lv_sub hl [2, 3, 4, 5, 0] rfl)
          · refine lv_iload hx hb dX9_bestLeavers_48 (lv_at hl 5 rfl) ?_
            refine lv_iload_n hx hb dX9_bestLeavers_50 rfl (lv_at hl 3 rfl) ?_
            refine xcSN_iR (As := [.int x4_12, .int x2_12]) (rest := []) hC hP hS (k_X10_isSmaller l X S x4_12 x2_12) (va_cnB (host := "AbsentPraise") 2 hts gX9_bestLeavers_X10_isSmaller_n109 rfl rfl rfl (hN 17 _ rfl) (hts (.initialized RX10) (List.mem_of_getElem? (i := 25) rfl)) hs_X10_isSmaller ⟨Nat.le_of_ble_eq_true rfl, Nat.le_of_ble_eq_true rfl⟩) (hts (.static yX10_isSmaller) (List.mem_of_getElem? (i := 47) rfl)) rfl rfl hl.1 (Nat.le_of_ble_eq_true rfl) dX9_bestLeavers_51 (fun r_12 hp_r_12 H locs hP hS => ?_)
            obtain ⟨hr_12, hzr_12⟩ := hp_r_12
            refine lv_if_eq (tgt := 63) hx hb dX9_bestLeavers_54 (by decide) (fun c_13 => ?_) (fun c_13 => ?_)
            · refine lv_iinc (v := (x4_12 + 1)) (lv' := [(4, .int (x4_12 + 1)), (5, .int r_7), (0, .ref (X.2.1 16)), (1, .int x1_12), (2, .int x2_12), (3, .int x3_12)]) hx hb dX9_bestLeavers_63 hl (k := 5) rfl rfl (by decide) rfl (fun ls hl => ?_)
              refine lv_goto (tgt := 12) hx hb dX9_bestLeavers_66 (by decide) ?_
              have he_14 : f_X9_bestLeavers_L12 (n + 1) S x1_12 x2_12 x3_12 x4_12 = f_X9_bestLeavers_L12 n S x1_12 x2_12 x3_12 (x4_12 + 1) := (by subst hr_3 hr_7 hr_12; exact (iN c_4 (iN c_8 (ip c_10 (ip c_13 rfl)))))
              exact ih_12 x1_12 x2_12 x3_12 (x4_12 + 1) (by subst hr_3 hr_7 hr_12; exact (sp (sp (sn (nr (sn hs_12 c_4)) c_8) c_10) c_13)) (fun q hq => hex_12 q (hq.trans he_14.symm)) _ _ hP hS ls (lv_sub hl [2, 3, 4, 5, 0] rfl)
            · refine lv_iload hx hb dX9_bestLeavers_57 (lv_at hl 0 rfl) ?_
              refine lv_istore_n (lv' := [(3, .int r_7), (5, .int r_7), (0, .ref (X.2.1 16)), (1, .int x1_12), (2, .int x2_12), (4, .int x4_12)]) hx hb dX9_bestLeavers_59 rfl hl (by decide) rfl (fun ls hl => ?_)
              refine lv_iload hx hb dX9_bestLeavers_60 (lv_at hl 5 rfl) ?_
              refine lv_istore_n (lv' := [(2, .int x4_12), (3, .int r_7), (5, .int r_7), (0, .ref (X.2.1 16)), (1, .int x1_12), (4, .int x4_12)]) hx hb dX9_bestLeavers_62 rfl hl (by decide) rfl (fun ls hl => ?_)
              refine lv_iinc (v := (x4_12 + 1)) (lv' := [(4, .int (x4_12 + 1)), (2, .int x4_12), (3, .int r_7), (5, .int r_7), (0, .ref (X.2.1 16)), (1, .int x1_12)]) hx hb dX9_bestLeavers_63 hl (k := 5) rfl rfl (by decide) rfl (fun ls hl => ?_)
              refine lv_goto (tgt := 12) hx hb dX9_bestLeavers_66 (by decide) ?_
              have he_15 : f_X9_bestLeavers_L12 (n + 1) S x1_12 x2_12 x3_12 x4_12 = f_X9_bestLeavers_L12 n S x1_12 x4_12 r_7 (x4_12 + 1) := (by subst hr_3 hr_7 hr_12; exact (iN c_4 (iN c_8 (ip c_10 (iN c_13 rfl)))))
              exact ih_12 x1_12 x4_12 r_7 (x4_12 + 1) (by subst hr_3 hr_7 hr_12; exact (sn (sp (sn (nr (sn hs_12 c_4)) c_8) c_10) c_13)) (fun q hq => hex_12 q (hq.trans he_15.symm)) _ _ hP hS ls (lv_sub hl [4, 5, 1, 2, 0] rfl)
  refine hLp_12 ((fuel_X9_bestLeavers_12)) p0 0 r_2 1 (by subst hr_2; exact nl (nr hs)) (fun q_12 hq_12 H locs hP hS ls hl => ?_) _ _ hP hS ls (lv_sub hl [3, 4, 2, 1, 0] rfl)
  refine lv_iload_n hx hb dX9_bestLeavers_69 rfl (lv_at hl 0 rfl) ?_
  exact xret_iR hC hP hS hb hr ((by subst hr_2 hq_12; exact rfl)) dX9_bestLeavers_70 hlocks
theorem hd_X9_saidOf : yX9_saidOf.cls = RX9 ∧ yX9_saidOf.cls ≠ "java/lang/invoke/MethodHandle" ∧ yX9_saidOf.cls ≠ "java/lang/invoke/VarHandle" ∧ (parseMethodDescriptor yX9_saidOf.desc).map (fun d => d.parameters.length) = some 1 := by decide +kernel
set_option maxHeartbeats 4000000 in
set_option maxRecDepth 100000 in
theorem k_X9_saidOf (l : Launch) (X : xX) (S : xS) (p0 : Int32) (hs : s_X9_saidOf S p0) : Met l yX9_saidOf wsX9_saidOf ({ frames := 4, cells := 0, slots := 0, locals := 92 } : Room) (va_Pc [.ref (X.2.1 16), .int p0] (xI X S)) (va_Qi (fun (r : Int32) (u : xS) => r = (f_X9_saidOf S p0) ∧ u = S) (xI X) (xA X)) 0 0 (xA X) := by
  refine Met.ofW (cc := cX9_saidOf) (maxL := 4) (ret := (some .int)) (by decide) rfl ?_
  intro p e s m args below meth c s₁ B hml hv
  obtain ⟨rfl, hP, hK, hN, hJ⟩ := hv
  have hx := B.exec
  have hb := B.bytes
  have hr := B.returns
  have hts := atoms_spec (ws := wsX9_saidOf) B.pre
  have hown : s.vm.findClass RX9 = some m.cls := findClass_of_methodNamed B.named
  have hlocks := B.notSynchronized
  have hC : xC X p m c cX9_saidOf 4 s _ wsX9_saidOf RX9 := ⟨⟨hx, hb, hml, hown, hts⟩, hK, hN, hJ⟩
  have hS : va_S (xA X) s.heap s.heap [] := va_S.rf
  have hin_X2 : ∀ w ∈ u_ws RX2 TX2 11, w ∈ wsX9_saidOf := by decide +kernel
  have hin_X9 : ∀ w ∈ u_ws RX9 TX9 5, w ∈ wsX9_saidOf := by decide +kernel
  have hl := lv_entry ([.ref (X.2.1 16), .int p0]) (n := 4) (Nat.le_of_ble_eq_true rfl)
  rw [lg_entry_eq]
  generalize (lg_sl ([.ref (X.2.1 16), .int p0]) ++ List.replicate (4 - (lg_sl ([.ref (X.2.1 16), .int p0])).length) Slot.unset).toArray = ls at hl ⊢
  have hl : lv_has ls 4 [(0, .ref (X.2.1 16)), (1, .int p0)] := hl
  refine lv_iconst (v := 0) hx hb dX9_saidOf_0 (by decide) ?_
  refine lv_istore_n (lv' := [(2, .int 0), (0, .ref (X.2.1 16)), (1, .int p0)]) hx hb dX9_saidOf_1 rfl hl (by decide) rfl (fun ls hl => ?_)
  refine lv_iconst (v := 0) hx hb dX9_saidOf_2 (by decide) ?_
  refine lv_istore_n (lv' := [(3, .int 0), (2, .int 0), (0, .ref (X.2.1 16)), (1, .int p0)]) hx hb dX9_saidOf_3 rfl hl (by decide) rfl (fun ls hl => ?_)
  have hLp_4 : ∀ (n : Nat) (x1_4 : Int32) (x2_4 : Int32) (x3_4 : Int32), s_X9_saidOf_L4 n S x1_4 x2_4 x3_4 → (∀ q : Int32, q = f_X9_saidOf_L4 n S x1_4 x2_4 x3_4 → (∀ (H : Heap) (locs : List Loc), va_P X.1 vwCl (xW X S) H → va_S (xA X) s.heap H locs → ∀ (ls : Array Slot), lv_has ls 4 [(2, .int q)] → W p l e ({ frames := 4, cells := 0, slots := 0, locals := 92 } : Room) s m ([.ref (X.2.1 16), .int p0] : List Value).toArray below meth c H locs 0 0 (MQ below (va_Qi (fun (r : Int32) (u : xS) => r = (f_X9_saidOf S p0) ∧ u = S) (xI X) (xA X)) ([.ref (X.2.1 16), .int p0] : List Value).toArray s 0 0 (xA X)) (F0 m 38 ls []))) → ∀ (H : Heap) (locs : List Loc), va_P X.1 vwCl (xW X S) H → va_S (xA X) s.heap H locs → ∀ (ls : Array Slot), lv_has ls 4 [(0, .ref (X.2.1 16)), (1, .int x1_4), (2, .int x2_4), (3, .int x3_4)] → W p l e ({ frames := 4, cells := 0, slots := 0, locals := 92 } : Room) s m ([.ref (X.2.1 16), .int p0] : List Value).toArray below meth c H locs 0 0 (MQ below (va_Qi (fun (r : Int32) (u : xS) => r = (f_X9_saidOf S p0) ∧ u = S) (xI X) (xA X)) ([.ref (X.2.1 16), .int p0] : List Value).toArray s 0 0 (xA X)) (F0 m 4 ls []) := by
    intro n
    induction n with
    | zero => intro x1_4 x2_4 x3_4 hs; exact hs.elim
    | succ n ih_4 =>
      intro x1_4 x2_4 x3_4 hs_4 hex_4 H locs hP hS ls hl
      refine lv_iload_n hx hb dX9_saidOf_4 rfl (lv_at hl 3 rfl) ?_
      refine lv_aload_n hx hb dX9_saidOf_5 rfl (lv_at hl 0 rfl) ?_
      refine xget (ref := "AbsentPraise$Trials") (T := TX9) (v := .ref (X.2.1 9)) hC hP hin_X9 xo_X9 rfl 0 (by decide) (List.mem_of_getElem? (i := 1) rfl) rfl rfl dX9_saidOf_6 ?_
      refine xget (ref := "AbsentPraise$Hill") (T := TX2) (v := .int (S 9 9)) hC hP hin_X2 (xo_H (by decide)) rfl 9 (by decide) (List.mem_of_getElem? (i := 2) rfl) rfl rfl dX9_saidOf_9 ?_
      refine lv_icmp_ge (tgt := 38) hx hb dX9_saidOf_12 (by decide) (fun c_1 => ?_) (fun c_1 => ?_)
      · have he_2 : f_X9_saidOf_L4 (n + 1) S x1_4 x2_4 x3_4 = x2_4 := ((ip c_1 rfl))
        exact hex_4 _ he_2.symm _ _ hP hS ls (lv_sub hl [2] rfl)
      · refine lv_iload_n hx hb dX9_saidOf_15 rfl (lv_at hl 3 rfl) ?_
        refine lv_iload_n hx hb dX9_saidOf_16 rfl (lv_at hl 1 rfl) ?_
        refine lv_icmp_eq (tgt := 32) hx hb dX9_saidOf_17 (by decide) (fun c_3 => ?_) (fun c_3 => ?_)
        · refine lv_iinc (v := (x3_4 + 1)) (lv' := [(3, .int (x3_4 + 1)), (0, .ref (X.2.1 16)), (1, .int x1_4), (2, .int x2_4)]) hx hb dX9_saidOf_32 hl (k := 3) rfl rfl (by decide) rfl (fun ls hl => ?_)
          refine lv_goto (tgt := 4) hx hb dX9_saidOf_35 (by decide) ?_
          have he_4 : f_X9_saidOf_L4 (n + 1) S x1_4 x2_4 x3_4 = f_X9_saidOf_L4 n S x1_4 x2_4 (x3_4 + 1) := ((iN c_1 (ip c_3 rfl)))
          exact ih_4 x1_4 x2_4 (x3_4 + 1) ((sp (sn hs_4 c_1) c_3)) (fun q hq => hex_4 q (hq.trans he_4.symm)) _ _ hP hS ls (lv_sub hl [1, 2, 3, 0] rfl)
        · refine lv_iload_n hx hb dX9_saidOf_20 rfl (lv_at hl 2 rfl) ?_
          refine lv_aload_n hx hb dX9_saidOf_21 rfl (lv_at hl 0 rfl) ?_
          refine xget (ref := "AbsentPraise$Trials") (T := TX9) (v := .ref (X.2.1 15)) hC hP hin_X9 xo_X9 rfl 2 (by decide) (List.mem_of_getElem? (i := 3) rfl) rfl rfl dX9_saidOf_22 ?_
          refine lv_iload_n hx hb dX9_saidOf_25 rfl (lv_at hl 3 rfl) ?_
          refine lv_iload_n hx hb dX9_saidOf_26 rfl (lv_at hl 1 rfl) ?_
          refine xcV_iR (b := 15) (As := [.int x3_4, .int x1_4]) (rest := [.int x2_4]) hC hP hS (k_X4_saysNow l X S x3_4 x1_4) (cwV 2 hts gX9_saidOf_X4_saysNow rfl rfl rfl hd_X4_saysNow ⟨Nat.le_of_ble_eq_true rfl, Nat.le_of_ble_eq_true rfl⟩) xo_X4 rfl rfl rfl hl.1 (Nat.le_of_ble_eq_true rfl) dX9_saidOf_27 (fun r_5 hr_5 H locs hP hS => ?_)
          refine lv_iadd hx hb dX9_saidOf_30 ?_
          refine lv_istore_n (lv' := [(2, .int (x2_4 + r_5)), (0, .ref (X.2.1 16)), (1, .int x1_4), (3, .int x3_4)]) hx hb dX9_saidOf_31 rfl hl (by decide) rfl (fun ls hl => ?_)
          refine lv_iinc (v := (x3_4 + 1)) (lv' := [(3, .int (x3_4 + 1)), (2, .int (x2_4 + r_5)), (0, .ref (X.2.1 16)), (1, .int x1_4)]) hx hb dX9_saidOf_32 hl (k := 3) rfl rfl (by decide) rfl (fun ls hl => ?_)
          refine lv_goto (tgt := 4) hx hb dX9_saidOf_35 (by decide) ?_
          have he_6 : f_X9_saidOf_L4 (n + 1) S x1_4 x2_4 x3_4 = f_X9_saidOf_L4 n S x1_4 (x2_4 + r_5) (x3_4 + 1) := (by subst hr_5; exact (iN c_1 (iN c_3 rfl)))
          exact ih_4 x1_4 (x2_4 + r_5) (x3_4 + 1) (by subst hr_5; exact (sn (sn hs_4 c_1) c_3)) (fun q hq => hex_4 q (hq.trans he_6.symm)) _ _ hP hS ls (lv_sub hl [2, 3, 1, 0] rfl)
  refine hLp_4 ((fu 0 (S 9 9))) p0 0 0 (nl hs) (fun q_4 hq_4 H locs hP hS ls hl => ?_) _ _ hP hS ls (lv_sub hl [2, 3, 1, 0] rfl)
  refine lv_iload_n hx hb dX9_saidOf_38 rfl (lv_at hl 0 rfl) ?_
  exact xret_iR hC hP hS hb hr ((by subst hq_4; exact rfl)) dX9_saidOf_39 hlocks
theorem hd_X9_praised : yX9_praised.cls = RX9 ∧ yX9_praised.cls ≠ "java/lang/invoke/MethodHandle" ∧ yX9_praised.cls ≠ "java/lang/invoke/VarHandle" ∧ (parseMethodDescriptor yX9_praised.desc).map (fun d => d.parameters.length) = some 0 := by decide +kernel
set_option maxHeartbeats 4000000 in
set_option maxRecDepth 100000 in
theorem k_X9_praised (l : Launch) (X : xX) (S : xS) (hs : s_X9_praised S) : Met l yX9_praised wsX9_praised ({ frames := 5, cells := 0, slots := 0, locals := 115 } : Room) (va_Pc [.ref (X.2.1 16)] (xI X S)) (va_Qi (fun (r : Int32) (u : xS) => r = (f_X9_praised S) ∧ u = S) (xI X) (xA X)) 0 0 (xA X) := by
  refine Met.ofW (cc := cX9_praised) (maxL := 5) (ret := (some .int)) (by decide) rfl ?_
  intro p e s m args below meth c s₁ B hml hv
  obtain ⟨rfl, hP, hK, hN, hJ⟩ := hv
  have hx := B.exec
  have hb := B.bytes
  have hr := B.returns
  have hts := atoms_spec (ws := wsX9_praised) B.pre
  have hown : s.vm.findClass RX9 = some m.cls := findClass_of_methodNamed B.named
  have hlocks := B.notSynchronized
  have hC : xC X p m c cX9_praised 5 s _ wsX9_praised RX9 := ⟨⟨hx, hb, hml, hown, hts⟩, hK, hN, hJ⟩
  have hS : va_S (xA X) s.heap s.heap [] := va_S.rf
  have hin_X2 : ∀ w ∈ u_ws RX2 TX2 11, w ∈ wsX9_praised := by decide +kernel
  have hin_X9 : ∀ w ∈ u_ws RX9 TX9 5, w ∈ wsX9_praised := by decide +kernel
  have hl := lv_entry ([.ref (X.2.1 16)]) (n := 5) (Nat.le_of_ble_eq_true rfl)
  rw [lg_entry_eq]
  generalize (lg_sl ([.ref (X.2.1 16)]) ++ List.replicate (5 - (lg_sl ([.ref (X.2.1 16)])).length) Slot.unset).toArray = ls at hl ⊢
  have hl : lv_has ls 5 [(0, .ref (X.2.1 16))] := hl
  refine lv_iconst (v := (-1)) hx hb dX9_praised_0 (by decide) ?_
  refine lv_istore_n (lv' := [(1, .int (-1)), (0, .ref (X.2.1 16))]) hx hb dX9_praised_1 rfl hl (by decide) rfl (fun ls hl => ?_)
  refine lv_iconst (v := 0) hx hb dX9_praised_2 (by decide) ?_
  refine lv_istore_n (lv' := [(2, .int 0), (1, .int (-1)), (0, .ref (X.2.1 16))]) hx hb dX9_praised_3 rfl hl (by decide) rfl (fun ls hl => ?_)
  refine lv_iconst (v := 0) hx hb dX9_praised_4 (by decide) ?_
  refine lv_istore_n (lv' := [(3, .int 0), (2, .int 0), (1, .int (-1)), (0, .ref (X.2.1 16))]) hx hb dX9_praised_5 rfl hl (by decide) rfl (fun ls hl => ?_)
  have hLp_6 : ∀ (n : Nat) (x1_6 : Int32) (x2_6 : Int32) (x3_6 : Int32), s_X9_praised_L6 n S x1_6 x2_6 x3_6 → (∀ q : Int32, q = f_X9_praised_L6 n S x1_6 x2_6 x3_6 → (∀ (H : Heap) (locs : List Loc), va_P X.1 vwCl (xW X S) H → va_S (xA X) s.heap H locs → ∀ (ls : Array Slot), lv_has ls 5 [(1, .int q)] → W p l e ({ frames := 5, cells := 0, slots := 0, locals := 115 } : Room) s m ([.ref (X.2.1 16)] : List Value).toArray below meth c H locs 0 0 (MQ below (va_Qi (fun (r : Int32) (u : xS) => r = (f_X9_praised S) ∧ u = S) (xI X) (xA X)) ([.ref (X.2.1 16)] : List Value).toArray s 0 0 (xA X)) (F0 m 46 ls []))) → ∀ (H : Heap) (locs : List Loc), va_P X.1 vwCl (xW X S) H → va_S (xA X) s.heap H locs → ∀ (ls : Array Slot), lv_has ls 5 [(0, .ref (X.2.1 16)), (1, .int x1_6), (2, .int x2_6), (3, .int x3_6)] → W p l e ({ frames := 5, cells := 0, slots := 0, locals := 115 } : Room) s m ([.ref (X.2.1 16)] : List Value).toArray below meth c H locs 0 0 (MQ below (va_Qi (fun (r : Int32) (u : xS) => r = (f_X9_praised S) ∧ u = S) (xI X) (xA X)) ([.ref (X.2.1 16)] : List Value).toArray s 0 0 (xA X)) (F0 m 6 ls []) := by
    intro n
    induction n with
    | zero => intro x1_6 x2_6 x3_6 hs; exact hs.elim
    | succ n ih_6 =>
      intro x1_6 x2_6 x3_6 hs_6 hex_6 H locs hP hS ls hl
      refine lv_iload_n hx hb dX9_praised_6 rfl (lv_at hl 3 rfl) ?_
      refine lv_aload_n hx hb dX9_praised_7 rfl (lv_at hl 0 rfl) ?_
      refine xget (ref := "AbsentPraise$Trials") (T := TX9) (v := .ref (X.2.1 9)) hC hP hin_X9 xo_X9 rfl 0 (by decide) (List.mem_of_getElem? (i := 1) rfl) rfl rfl dX9_praised_8 ?_
      refine xget (ref := "AbsentPraise$Hill") (T := TX2) (v := .int (S 9 9)) hC hP hin_X2 (xo_H (by decide)) rfl 9 (by decide) (List.mem_of_getElem? (i := 2) rfl) rfl rfl dX9_praised_11 ?_
      refine lv_icmp_ge (tgt := 46) hx hb dX9_praised_14 (by decide) (fun c_1 => ?_) (fun c_1 => ?_)
      · have he_2 : f_X9_praised_L6 (n + 1) S x1_6 x2_6 x3_6 = x1_6 := ((ip c_1 rfl))
        exact hex_6 _ he_2.symm _ _ hP hS ls (lv_sub hl [1] rfl)
      · refine lv_aload_n hx hb dX9_praised_17 rfl (lv_at hl 0 rfl) ?_
        refine lv_iload_n hx hb dX9_praised_18 rfl (lv_at hl 3 rfl) ?_
        have hn_3 : s_X9_saidOf S x3_6 := (nl (sn hs_6 c_1))
        refine xcV_iR (b := 16) (As := [.int x3_6]) (rest := []) hC hP hS (k_X9_saidOf l X S x3_6 hn_3) (cwV 1 hts gX9_praised_X9_saidOf rfl rfl rfl hd_X9_saidOf ⟨Nat.le_of_ble_eq_true rfl, Nat.le_of_ble_eq_true rfl⟩) xo_X9 rfl rfl rfl hl.1 (Nat.le_of_ble_eq_true rfl) dX9_praised_19 (fun r_4 hr_4 H locs hP hS => ?_)
        refine lv_istore (lv' := [(4, .int r_4), (0, .ref (X.2.1 16)), (1, .int x1_6), (2, .int x2_6), (3, .int x3_6)]) hx hb dX9_praised_22 hl (by decide) rfl (fun ls hl => ?_)
        refine lv_iload_n hx hb dX9_praised_24 rfl (lv_at hl 2 rfl) ?_
        refine lv_iconst (v := (-1)) hx hb dX9_praised_25 (by decide) ?_
        refine lv_icmp_eq (tgt := 35) hx hb dX9_praised_26 (by decide) (fun c_5 => ?_) (fun c_5 => ?_)
        · refine lv_iload hx hb dX9_praised_35 (lv_at hl 0 rfl) ?_
          refine lv_istore_n (lv' := [(2, .int r_4), (4, .int r_4), (0, .ref (X.2.1 16)), (1, .int x1_6), (3, .int x3_6)]) hx hb dX9_praised_37 rfl hl (by decide) rfl (fun ls hl => ?_)
          refine lv_iload_n hx hb dX9_praised_38 rfl (lv_at hl 4 rfl) ?_
          refine lv_istore_n (lv' := [(1, .int x3_6), (2, .int r_4), (4, .int r_4), (0, .ref (X.2.1 16)), (3, .int x3_6)]) hx hb dX9_praised_39 rfl hl (by decide) rfl (fun ls hl => ?_)
          refine lv_iinc (v := (x3_6 + 1)) (lv' := [(3, .int (x3_6 + 1)), (1, .int x3_6), (2, .int r_4), (4, .int r_4), (0, .ref (X.2.1 16))]) hx hb dX9_praised_40 hl (k := 4) rfl rfl (by decide) rfl (fun ls hl => ?_)
          refine lv_goto (tgt := 6) hx hb dX9_praised_43 (by decide) ?_
          have he_6 : f_X9_praised_L6 (n + 1) S x1_6 x2_6 x3_6 = f_X9_praised_L6 n S x3_6 r_4 (x3_6 + 1) := (by subst hr_4; exact (iN c_1 (ip c_5 rfl)))
          exact ih_6 x3_6 r_4 (x3_6 + 1) (by subst hr_4; exact (sp (nr (sn hs_6 c_1)) c_5)) (fun q hq => hex_6 q (hq.trans he_6.symm)) _ _ hP hS ls (lv_sub hl [4, 1, 2, 0] rfl)
        · refine lv_iload hx hb dX9_praised_29 (lv_at hl 0 rfl) ?_
          refine lv_iload_n hx hb dX9_praised_31 rfl (lv_at hl 3 rfl) ?_
          refine lv_icmp_le (tgt := 40) hx hb dX9_praised_32 (by decide) (fun c_7 => ?_) (fun c_7 => ?_)
          · refine lv_iinc (v := (x3_6 + 1)) (lv' := [(3, .int (x3_6 + 1)), (4, .int r_4), (0, .ref (X.2.1 16)), (1, .int x1_6), (2, .int x2_6)]) hx hb dX9_praised_40 hl (k := 4) rfl rfl (by decide) rfl (fun ls hl => ?_)
            refine lv_goto (tgt := 6) hx hb dX9_praised_43 (by decide) ?_
            have he_8 : f_X9_praised_L6 (n + 1) S x1_6 x2_6 x3_6 = f_X9_praised_L6 n S x1_6 x2_6 (x3_6 + 1) := (by subst hr_4; exact (iN c_1 (iN c_5 (ip c_7 rfl))))
            exact ih_6 x1_6 x2_6 (x3_6 + 1) (by subst hr_4; exact (sp (sn (nr (sn hs_6 c_1)) c_5) c_7)) (fun q hq => hex_6 q (hq.trans he_8.symm)) _ _ hP hS ls (lv_sub hl [2, 3, 4, 0] rfl)
          · refine lv_iload hx hb dX9_praised_35 (lv_at hl 0 rfl) ?_
            refine lv_istore_n (lv' := [(2, .int r_4), (4, .int r_4), (0, .ref (X.2.1 16)), (1, .int x1_6), (3, .int x3_6)]) hx hb dX9_praised_37 rfl hl (by decide) rfl (fun ls hl => ?_)
            refine lv_iload_n hx hb dX9_praised_38 rfl (lv_at hl 4 rfl) ?_
            refine lv_istore_n (lv' := [(1, .int x3_6), (2, .int r_4), (4, .int r_4), (0, .ref (X.2.1 16)), (3, .int x3_6)]) hx hb dX9_praised_39 rfl hl (by decide) rfl (fun ls hl => ?_)
            refine lv_iinc (v := (x3_6 + 1)) (lv' := [(3, .int (x3_6 + 1)), (1, .int x3_6), (2, .int r_4), (4, .int r_4), (0, .ref (X.2.1 16))]) hx hb dX9_praised_40 hl (k := 4) rfl rfl (by decide) rfl (fun ls hl => ?_)
            refine lv_goto (tgt := 6) hx hb dX9_praised_43 (by decide) ?_
            have he_9 : f_X9_praised_L6 (n + 1) S x1_6 x2_6 x3_6 = f_X9_praised_L6 n S x3_6 r_4 (x3_6 + 1) := (by subst hr_4; exact (iN c_1 (iN c_5 (iN c_7 rfl))))
            exact ih_6 x3_6 r_4 (x3_6 + 1) (by subst hr_4; exact (sn (sn (nr (sn hs_6 c_1)) c_5) c_7)) (fun q hq => hex_6 q (hq.trans he_9.symm)) _ _ hP hS ls (lv_sub hl [4, 1, 2, 0] rfl)
  refine hLp_6 ((fu 0 (S 9 9))) (-1) 0 0 (nl hs) (fun q_6 hq_6 H locs hP hS ls hl => ?_) _ _ hP hS ls (lv_sub hl [3, 2, 1, 0] rfl)
  refine lv_iload_n hx hb dX9_praised_46 rfl (lv_at hl 0 rfl) ?_
  exact xret_iR hC hP hS hb hr ((by subst hq_6; exact rfl)) dX9_praised_47 hlocks
theorem hd_X9_isSilent : yX9_isSilent.cls = RX9 ∧ yX9_isSilent.cls ≠ "java/lang/invoke/MethodHandle" ∧ yX9_isSilent.cls ≠ "java/lang/invoke/VarHandle" ∧ (parseMethodDescriptor yX9_isSilent.desc).map (fun d => d.parameters.length) = some 2 := by decide +kernel
set_option maxHeartbeats 4000000 in
set_option maxRecDepth 100000 in
theorem k_X9_isSilent (l : Launch) (X : xX) (S : xS) (p0 : Int32) (p1 : Int32) : Met l yX9_isSilent wsX9_isSilent ({ frames := 4, cells := 0, slots := 0, locals := 92 } : Room) (va_Pc [.ref (X.2.1 16), .int p0, .int p1] (xI X S)) (va_Qi (fun (r : Int32) (u : xS) => (r = (f_X9_isSilent S p0 p1) ∧ (r = 0 ∨ r = 1)) ∧ u = S) (xI X) (xA X)) 0 0 (xA X) := by
  refine Met.ofW (cc := cX9_isSilent) (maxL := 3) (ret := (some .boolean)) (by decide) rfl ?_
  intro p e s m args below meth c s₁ B hml hv
  obtain ⟨rfl, hP, hK, hN, hJ⟩ := hv
  have hx := B.exec
  have hb := B.bytes
  have hr := B.returns
  have hts := atoms_spec (ws := wsX9_isSilent) B.pre
  have hown : s.vm.findClass RX9 = some m.cls := findClass_of_methodNamed B.named
  have hlocks := B.notSynchronized
  have hC : xC X p m c cX9_isSilent 3 s _ wsX9_isSilent RX9 := ⟨⟨hx, hb, hml, hown, hts⟩, hK, hN, hJ⟩
  have hS : va_S (xA X) s.heap s.heap [] := va_S.rf
  have hin_X9 : ∀ w ∈ u_ws RX9 TX9 5, w ∈ wsX9_isSilent := by decide +kernel
  have hl := lv_entry ([.ref (X.2.1 16), .int p0, .int p1]) (n := 3) (Nat.le_of_ble_eq_true rfl)
  rw [lg_entry_eq]
  generalize (lg_sl ([.ref (X.2.1 16), .int p0, .int p1]) ++ List.replicate (3 - (lg_sl ([.ref (X.2.1 16), .int p0, .int p1])).length) Slot.unset).toArray = ls at hl ⊢
  have hl : lv_has ls 3 [(0, .ref (X.2.1 16)), (1, .int p0), (2, .int p1)] := hl
  refine lv_aload_n hx hb dX9_isSilent_0 rfl (lv_at hl 0 rfl) ?_
  refine xget (ref := "AbsentPraise$Trials") (T := TX9) (v := .ref (X.2.1 15)) hC hP hin_X9 xo_X9 rfl 2 (by decide) (List.mem_of_getElem? (i := 1) rfl) rfl rfl dX9_isSilent_1 ?_
  refine lv_iload_n hx hb dX9_isSilent_4 rfl (lv_at hl 1 rfl) ?_
  refine lv_iload_n hx hb dX9_isSilent_5 rfl (lv_at hl 2 rfl) ?_
  refine xcV_iR (b := 15) (As := [.int p0, .int p1]) (rest := []) hC hP hS (k_X4_saysNow l X S p0 p1) (cwV 2 hts gX9_isSilent_X4_saysNow rfl rfl rfl hd_X4_saysNow ⟨Nat.le_of_ble_eq_true rfl, Nat.le_of_ble_eq_true rfl⟩) xo_X4 rfl rfl rfl hl.1 (Nat.le_of_ble_eq_true rfl) dX9_isSilent_6 (fun r_1 hr_1 H locs hP hS => ?_)
  refine lv_if_gt (tgt := 28) hx hb dX9_isSilent_9 (by decide) (fun c_2 => ?_) (fun c_2 => ?_)
  · refine lv_iconst (v := 0) hx hb dX9_isSilent_28 (by decide) ?_
    exact xret_zR hC hP hS hb hr (.inl rfl) ((by subst hr_1; exact (ip c_2 rfl))) dX9_isSilent_29 hlocks
  · refine lv_aload_n hx hb dX9_isSilent_12 rfl (lv_at hl 0 rfl) ?_
    refine xget (ref := "AbsentPraise$Trials") (T := TX9) (v := .ref (X.2.1 15)) hC hP hin_X9 xo_X9 rfl 2 (by decide) (List.mem_of_getElem? (i := 1) rfl) rfl rfl dX9_isSilent_13 ?_
    refine lv_iload_n hx hb dX9_isSilent_16 rfl (lv_at hl 2 rfl) ?_
    refine lv_iload_n hx hb dX9_isSilent_17 rfl (lv_at hl 1 rfl) ?_
    refine xcV_iR (b := 15) (As := [.int p1, .int p0]) (rest := []) hC hP hS (k_X4_saysNow l X S p1 p0) (cwV 2 hts gX9_isSilent_X4_saysNow rfl rfl rfl hd_X4_saysNow ⟨Nat.le_of_ble_eq_true rfl, Nat.le_of_ble_eq_true rfl⟩) xo_X4 rfl rfl rfl hl.1 (Nat.le_of_ble_eq_true rfl) dX9_isSilent_18 (fun r_3 hr_3 H locs hP hS => ?_)
    refine lv_if_gt (tgt := 28) hx hb dX9_isSilent_21 (by decide) (fun c_4 => ?_) (fun c_4 => ?_)
    · refine lv_iconst (v := 0) hx hb dX9_isSilent_28 (by decide) ?_
      exact xret_zR hC hP hS hb hr (.inl rfl) ((by subst hr_1 hr_3; exact (iN c_2 (ip c_4 rfl)))) dX9_isSilent_29 hlocks
    · refine lv_iconst (v := 1) hx hb dX9_isSilent_24 (by decide) ?_
      refine lv_goto (tgt := 29) hx hb dX9_isSilent_25 (by decide) ?_
      exact xret_zR hC hP hS hb hr (.inr rfl) ((by subst hr_1 hr_3; exact (iN c_2 (iN c_4 rfl)))) dX9_isSilent_29 hlocks
theorem hd_X9_silentPairs : yX9_silentPairs.cls = RX9 ∧ yX9_silentPairs.cls ≠ "java/lang/invoke/MethodHandle" ∧ yX9_silentPairs.cls ≠ "java/lang/invoke/VarHandle" ∧ (parseMethodDescriptor yX9_silentPairs.desc).map (fun d => d.parameters.length) = some 0 := by decide +kernel
set_option maxHeartbeats 4000000 in
set_option maxRecDepth 100000 in
theorem k_X9_silentPairs (l : Launch) (X : xX) (S : xS) (hs : s_X9_silentPairs S) : Met l yX9_silentPairs wsX9_silentPairs ({ frames := 5, cells := 0, slots := 0, locals := 114 } : Room) (va_Pc [.ref (X.2.1 16)] (xI X S)) (va_Qi (fun (r : Int32) (u : xS) => r = (f_X9_silentPairs S) ∧ u = S) (xI X) (xA X)) 0 0 (xA X) := by
  refine Met.ofW (cc := cX9_silentPairs) (maxL := 4) (ret := (some .int)) (by decide) rfl ?_
  intro p e s m args below meth c s₁ B hml hv
  obtain ⟨rfl, hP, hK, hN, hJ⟩ := hv
  have hx := B.exec
  have hb := B.bytes
  have hr := B.returns
  have hts := atoms_spec (ws := wsX9_silentPairs) B.pre
  have hown : s.vm.findClass RX9 = some m.cls := findClass_of_methodNamed B.named
  have hlocks := B.notSynchronized
  have hC : xC X p m c cX9_silentPairs 4 s _ wsX9_silentPairs RX9 := ⟨⟨hx, hb, hml, hown, hts⟩, hK, hN, hJ⟩
  have hS : va_S (xA X) s.heap s.heap [] := va_S.rf
  have hin_X2 : ∀ w ∈ u_ws RX2 TX2 11, w ∈ wsX9_silentPairs := by decide +kernel
  have hin_X9 : ∀ w ∈ u_ws RX9 TX9 5, w ∈ wsX9_silentPairs := by decide +kernel
  have hl := lv_entry ([.ref (X.2.1 16)]) (n := 4) (Nat.le_of_ble_eq_true rfl)
  rw [lg_entry_eq]
  generalize (lg_sl ([.ref (X.2.1 16)]) ++ List.replicate (4 - (lg_sl ([.ref (X.2.1 16)])).length) Slot.unset).toArray = ls at hl ⊢
  have hl : lv_has ls 4 [(0, .ref (X.2.1 16))] := hl
  refine lv_iconst (v := 0) hx hb dX9_silentPairs_0 (by decide) ?_
  refine lv_istore_n (lv' := [(1, .int 0), (0, .ref (X.2.1 16))]) hx hb dX9_silentPairs_1 rfl hl (by decide) rfl (fun ls hl => ?_)
  refine lv_iconst (v := 0) hx hb dX9_silentPairs_2 (by decide) ?_
  refine lv_istore_n (lv' := [(2, .int 0), (1, .int 0), (0, .ref (X.2.1 16))]) hx hb dX9_silentPairs_3 rfl hl (by decide) rfl (fun ls hl => ?_)
  have hLp_4 : ∀ (n : Nat) (x1_4 : Int32) (x2_4 : Int32), s_X9_silentPairs_L4 n S x1_4 x2_4 → (∀ q : Int32, q = f_X9_silentPairs_L4 n S x1_4 x2_4 → (∀ (H : Heap) (locs : List Loc), va_P X.1 vwCl (xW X S) H → va_S (xA X) s.heap H locs → ∀ (ls : Array Slot), lv_has ls 4 [(1, .int q)] → W p l e ({ frames := 5, cells := 0, slots := 0, locals := 114 } : Room) s m ([.ref (X.2.1 16)] : List Value).toArray below meth c H locs 0 0 (MQ below (va_Qi (fun (r : Int32) (u : xS) => r = (f_X9_silentPairs S) ∧ u = S) (xI X) (xA X)) ([.ref (X.2.1 16)] : List Value).toArray s 0 0 (xA X)) (F0 m 59 ls []))) → ∀ (H : Heap) (locs : List Loc), va_P X.1 vwCl (xW X S) H → va_S (xA X) s.heap H locs → ∀ (ls : Array Slot), lv_has ls 4 [(0, .ref (X.2.1 16)), (1, .int x1_4), (2, .int x2_4)] → W p l e ({ frames := 5, cells := 0, slots := 0, locals := 114 } : Room) s m ([.ref (X.2.1 16)] : List Value).toArray below meth c H locs 0 0 (MQ below (va_Qi (fun (r : Int32) (u : xS) => r = (f_X9_silentPairs S) ∧ u = S) (xI X) (xA X)) ([.ref (X.2.1 16)] : List Value).toArray s 0 0 (xA X)) (F0 m 4 ls []) := by
    intro n
    induction n with
    | zero => intro x1_4 x2_4 hs; exact hs.elim
    | succ n ih_4 =>
      intro x1_4 x2_4 hs_4 hex_4 H locs hP hS ls hl
      refine lv_iload_n hx hb dX9_silentPairs_4 rfl (lv_at hl 2 rfl) ?_
      refine lv_aload_n hx hb dX9_silentPairs_5 rfl (lv_at hl 0 rfl) ?_
      refine xget (ref := "AbsentPraise$Trials") (T := TX9) (v := .ref (X.2.1 9)) hC hP hin_X9 xo_X9 rfl 0 (by decide) (List.mem_of_getElem? (i := 1) rfl) rfl rfl dX9_silentPairs_6 ?_
      refine xget (ref := "AbsentPraise$Hill") (T := TX2) (v := .int (S 9 9)) hC hP hin_X2 (xo_H (by decide)) rfl 9 (by decide) (List.mem_of_getElem? (i := 2) rfl) rfl rfl dX9_silentPairs_9 ?_
      refine lv_icmp_ge (tgt := 59) hx hb dX9_silentPairs_12 (by decide) (fun c_1 => ?_) (fun c_1 => ?_)
      · have he_2 : f_X9_silentPairs_L4 (n + 1) S x1_4 x2_4 = x1_4 := ((ip c_1 rfl))
        exact hex_4 _ he_2.symm _ _ hP hS ls (lv_sub hl [1] rfl)
      · refine lv_iload_n hx hb dX9_silentPairs_15 rfl (lv_at hl 2 rfl) ?_
        refine lv_iconst (v := 1) hx hb dX9_silentPairs_16 (by decide) ?_
        refine lv_iadd hx hb dX9_silentPairs_17 ?_
        refine lv_istore_n (lv' := [(3, .int (x2_4 + 1)), (0, .ref (X.2.1 16)), (1, .int x1_4), (2, .int x2_4)]) hx hb dX9_silentPairs_18 rfl hl (by decide) rfl (fun ls hl => ?_)
        have hLp_19 : ∀ (n : Nat) (x1_19 : Int32) (x2_19 : Int32) (x3_19 : Int32), s_X9_silentPairs_L19 n S x1_19 x2_19 x3_19 → (∀ q : Int32, q = f_X9_silentPairs_L19 n S x1_19 x2_19 x3_19 → (∀ (H : Heap) (locs : List Loc), va_P X.1 vwCl (xW X S) H → va_S (xA X) s.heap H locs → ∀ (ls : Array Slot), lv_has ls 4 [(0, .ref (X.2.1 16)), (1, .int q), (2, .int x2_19)] → W p l e ({ frames := 5, cells := 0, slots := 0, locals := 114 } : Room) s m ([.ref (X.2.1 16)] : List Value).toArray below meth c H locs 0 0 (MQ below (va_Qi (fun (r : Int32) (u : xS) => r = (f_X9_silentPairs S) ∧ u = S) (xI X) (xA X)) ([.ref (X.2.1 16)] : List Value).toArray s 0 0 (xA X)) (F0 m 53 ls []))) → ∀ (H : Heap) (locs : List Loc), va_P X.1 vwCl (xW X S) H → va_S (xA X) s.heap H locs → ∀ (ls : Array Slot), lv_has ls 4 [(0, .ref (X.2.1 16)), (1, .int x1_19), (2, .int x2_19), (3, .int x3_19)] → W p l e ({ frames := 5, cells := 0, slots := 0, locals := 114 } : Room) s m ([.ref (X.2.1 16)] : List Value).toArray below meth c H locs 0 0 (MQ below (va_Qi (fun (r : Int32) (u : xS) => r = (f_X9_silentPairs S) ∧ u = S) (xI X) (xA X)) ([.ref (X.2.1 16)] : List Value).toArray s 0 0 (xA X)) (F0 m 19 ls []) := by
          intro n
          induction n with
          | zero => intro x1_19 x2_19 x3_19 hs; exact hs.elim
          | succ n ih_19 =>
            intro x1_19 x2_19 x3_19 hs_19 hex_19 H locs hP hS ls hl
            refine lv_iload_n hx hb dX9_silentPairs_19 rfl (lv_at hl 3 rfl) ?_
            refine lv_aload_n hx hb dX9_silentPairs_20 rfl (lv_at hl 0 rfl) ?_
            refine xget (ref := "AbsentPraise$Trials") (T := TX9) (v := .ref (X.2.1 9)) hC hP hin_X9 xo_X9 rfl 0 (by decide) (List.mem_of_getElem? (i := 1) rfl) rfl rfl dX9_silentPairs_21 ?_
            refine xget (ref := "AbsentPraise$Hill") (T := TX2) (v := .int (S 9 9)) hC hP hin_X2 (xo_H (by decide)) rfl 9 (by decide) (List.mem_of_getElem? (i := 2) rfl) rfl rfl dX9_silentPairs_24 ?_
            refine lv_icmp_ge (tgt := 53) hx hb dX9_silentPairs_27 (by decide) (fun c_3 => ?_) (fun c_3 => ?_)
            · have he_4 : f_X9_silentPairs_L19 (n + 1) S x1_19 x2_19 x3_19 = x1_19 := ((ip c_3 rfl))
              exact hex_19 _ he_4.symm _ _ hP hS ls (lv_sub hl [0, 1, 2] rfl)
            · refine lv_iload_n hx hb dX9_silentPairs_30 rfl (lv_at hl 1 rfl) ?_
              refine lv_aload_n hx hb dX9_silentPairs_31 rfl (lv_at hl 0 rfl) ?_
              refine lv_iload_n hx hb dX9_silentPairs_32 rfl (lv_at hl 2 rfl) ?_
              refine lv_iload_n hx hb dX9_silentPairs_33 rfl (lv_at hl 3 rfl) ?_
              refine xcV_iR (b := 16) (As := [.int x2_19, .int x3_19]) (rest := [.int x1_19]) hC hP hS (k_X9_isSilent l X S x2_19 x3_19) (cwV 2 hts gX9_silentPairs_X9_isSilent rfl rfl rfl hd_X9_isSilent ⟨Nat.le_of_ble_eq_true rfl, Nat.le_of_ble_eq_true rfl⟩) xo_X9 rfl rfl rfl hl.1 (Nat.le_of_ble_eq_true rfl) dX9_silentPairs_34 (fun r_5 hp_r_5 H locs hP hS => ?_)
              obtain ⟨hr_5, hzr_5⟩ := hp_r_5
              refine lv_if_eq (tgt := 44) hx hb dX9_silentPairs_37 (by decide) (fun c_6 => ?_) (fun c_6 => ?_)
              · refine lv_iconst (v := 0) hx hb dX9_silentPairs_44 (by decide) ?_
                refine lv_iadd hx hb dX9_silentPairs_45 ?_
                refine lv_istore_n (lv' := [(1, .int (x1_19 + 0)), (0, .ref (X.2.1 16)), (2, .int x2_19), (3, .int x3_19)]) hx hb dX9_silentPairs_46 rfl hl (by decide) rfl (fun ls hl => ?_)
                refine lv_iinc (v := (x3_19 + 1)) (lv' := [(3, .int (x3_19 + 1)), (1, .int (x1_19 + 0)), (0, .ref (X.2.1 16)), (2, .int x2_19)]) hx hb dX9_silentPairs_47 hl (k := 3) rfl rfl (by decide) rfl (fun ls hl => ?_)
                refine lv_goto (tgt := 19) hx hb dX9_silentPairs_50 (by decide) ?_
                have he_7 : f_X9_silentPairs_L19 (n + 1) S x1_19 x2_19 x3_19 = f_X9_silentPairs_L19 n S (x1_19 + 0) x2_19 (x3_19 + 1) := (by subst hr_5; exact (iN c_3 (ip c_6 rfl)))
                exact ih_19 (x1_19 + 0) x2_19 (x3_19 + 1) (by subst hr_5; exact (sp (sn hs_19 c_3) c_6)) (fun q hq => hex_19 q (hq.trans he_7.symm)) _ _ hP hS ls (lv_sub hl [2, 1, 3, 0] rfl)
              · refine lv_iconst (v := 1) hx hb dX9_silentPairs_40 (by decide) ?_
                refine lv_goto (tgt := 45) hx hb dX9_silentPairs_41 (by decide) ?_
                refine lv_iadd hx hb dX9_silentPairs_45 ?_
                refine lv_istore_n (lv' := [(1, .int (x1_19 + 1)), (0, .ref (X.2.1 16)), (2, .int x2_19), (3, .int x3_19)]) hx hb dX9_silentPairs_46 rfl hl (by decide) rfl (fun ls hl => ?_)
                refine lv_iinc (v := (x3_19 + 1)) (lv' := [(3, .int (x3_19 + 1)), (1, .int (x1_19 + 1)), (0, .ref (X.2.1 16)), (2, .int x2_19)]) hx hb dX9_silentPairs_47 hl (k := 3) rfl rfl (by decide) rfl (fun ls hl => ?_)
                refine lv_goto (tgt := 19) hx hb dX9_silentPairs_50 (by decide) ?_
                have he_8 : f_X9_silentPairs_L19 (n + 1) S x1_19 x2_19 x3_19 = f_X9_silentPairs_L19 n S (x1_19 + 1) x2_19 (x3_19 + 1) := (by subst hr_5; exact (iN c_3 (iN c_6 rfl)))
                exact ih_19 (x1_19 + 1) x2_19 (x3_19 + 1) (by subst hr_5; exact (sn (sn hs_19 c_3) c_6)) (fun q hq => hex_19 q (hq.trans he_8.symm)) _ _ hP hS ls (lv_sub hl [2, 1, 3, 0] rfl)
        refine hLp_19 ((fu (x2_4 + 1) (S 9 9))) x1_4 x2_4 (x2_4 + 1) (nl (sn hs_4 c_1)) (fun q_19 hq_19 H locs hP hS ls hl => ?_) _ _ hP hS ls (lv_sub hl [1, 2, 3, 0] rfl)
        refine lv_iinc (v := (x2_4 + 1)) (lv' := [(2, .int (x2_4 + 1)), (0, .ref (X.2.1 16)), (1, .int q_19)]) hx hb dX9_silentPairs_53 hl (k := 2) rfl rfl (by decide) rfl (fun ls hl => ?_)
        refine lv_goto (tgt := 4) hx hb dX9_silentPairs_56 (by decide) ?_
        have he_9 : f_X9_silentPairs_L4 (n + 1) S x1_4 x2_4 = f_X9_silentPairs_L4 n S q_19 (x2_4 + 1) := (by subst hq_19; exact (iN c_1 rfl))
        exact ih_4 q_19 (x2_4 + 1) (by subst hq_19; exact (nr (sn hs_4 c_1))) (fun q hq => hex_4 q (hq.trans he_9.symm)) _ _ hP hS ls (lv_sub hl [1, 2, 0] rfl)
  refine hLp_4 ((fu 0 (S 9 9))) 0 0 (nl hs) (fun q_4 hq_4 H locs hP hS ls hl => ?_) _ _ hP hS ls (lv_sub hl [2, 1, 0] rfl)
  refine lv_iload_n hx hb dX9_silentPairs_59 rfl (lv_at hl 0 rfl) ?_
  exact xret_iR hC hP hS hb hr ((by subst hq_4; exact rfl)) dX9_silentPairs_60 hlocks
theorem hd_X9_silentPair : yX9_silentPair.cls = RX9 ∧ yX9_silentPair.cls ≠ "java/lang/invoke/MethodHandle" ∧ yX9_silentPair.cls ≠ "java/lang/invoke/VarHandle" ∧ (parseMethodDescriptor yX9_silentPair.desc).map (fun d => d.parameters.length) = some 1 := by decide +kernel
set_option maxHeartbeats 4000000 in
set_option maxRecDepth 100000 in
theorem k_X9_silentPair (l : Launch) (X : xX) (S : xS) (p0 : Int32) (hs : s_X9_silentPair S p0) : Met l yX9_silentPair wsX9_silentPair ({ frames := 5, cells := 0, slots := 0, locals := 114 } : Room) (va_Pc [.ref (X.2.1 16), .int p0] (xI X S)) (va_Qi (fun (r : Int32) (u : xS) => r = (f_X9_silentPair S p0) ∧ u = S) (xI X) (xA X)) 0 0 (xA X) := by
  refine Met.ofW (cc := cX9_silentPair) (maxL := 5) (ret := (some .int)) (by decide) rfl ?_
  intro p e s m args below meth c s₁ B hml hv
  obtain ⟨rfl, hP, hK, hN, hJ⟩ := hv
  have hx := B.exec
  have hb := B.bytes
  have hr := B.returns
  have hts := atoms_spec (ws := wsX9_silentPair) B.pre
  have hown : s.vm.findClass RX9 = some m.cls := findClass_of_methodNamed B.named
  have hlocks := B.notSynchronized
  have hC : xC X p m c cX9_silentPair 5 s _ wsX9_silentPair RX9 := ⟨⟨hx, hb, hml, hown, hts⟩, hK, hN, hJ⟩
  have hS : va_S (xA X) s.heap s.heap [] := va_S.rf
  have hin_X2 : ∀ w ∈ u_ws RX2 TX2 11, w ∈ wsX9_silentPair := by decide +kernel
  have hin_X9 : ∀ w ∈ u_ws RX9 TX9 5, w ∈ wsX9_silentPair := by decide +kernel
  have hl := lv_entry ([.ref (X.2.1 16), .int p0]) (n := 5) (Nat.le_of_ble_eq_true rfl)
  rw [lg_entry_eq]
  generalize (lg_sl ([.ref (X.2.1 16), .int p0]) ++ List.replicate (5 - (lg_sl ([.ref (X.2.1 16), .int p0])).length) Slot.unset).toArray = ls at hl ⊢
  have hl : lv_has ls 5 [(0, .ref (X.2.1 16)), (1, .int p0)] := hl
  refine lv_iconst (v := 0) hx hb dX9_silentPair_0 (by decide) ?_
  refine lv_istore_n (lv' := [(2, .int 0), (0, .ref (X.2.1 16)), (1, .int p0)]) hx hb dX9_silentPair_1 rfl hl (by decide) rfl (fun ls hl => ?_)
  refine lv_iconst (v := 0) hx hb dX9_silentPair_2 (by decide) ?_
  refine lv_istore_n (lv' := [(3, .int 0), (2, .int 0), (0, .ref (X.2.1 16)), (1, .int p0)]) hx hb dX9_silentPair_3 rfl hl (by decide) rfl (fun ls hl => ?_)
  have hLp_4 : ∀ (n : Nat) (x1_4 : Int32) (x2_4 : Int32) (x3_4 : Int32), s_X9_silentPair_L4 n S x1_4 x2_4 x3_4 → (∀ q : Unit, f_X9_silentPair_L4 n S x1_4 x2_4 x3_4 = .inr q → (∀ (H : Heap) (locs : List Loc), va_P X.1 vwCl (xW X S) H → va_S (xA X) s.heap H locs → ∀ (ls : Array Slot), lv_has ls 5 [] → W p l e ({ frames := 5, cells := 0, slots := 0, locals := 114 } : Room) s m ([.ref (X.2.1 16), .int p0] : List Value).toArray below meth c H locs 0 0 (MQ below (va_Qi (fun (r : Int32) (u : xS) => r = (f_X9_silentPair S p0) ∧ u = S) (xI X) (xA X)) ([.ref (X.2.1 16), .int p0] : List Value).toArray s 0 0 (xA X)) (F0 m 70 ls []))) → (∀ r : Int32, f_X9_silentPair_L4 n S x1_4 x2_4 x3_4 = .inl r → ∀ (H : Heap) (locs : List Loc), va_P X.1 vwCl (xW X S) H → va_S (xA X) s.heap H locs → ∀ (pc : Nat) (ls : Array Slot), decode cX9_silentPair pc = .ok (.ireturn, 1) → W p l e ({ frames := 5, cells := 0, slots := 0, locals := 114 } : Room) s m ([.ref (X.2.1 16), .int p0] : List Value).toArray below meth c H locs 0 0 (MQ below (va_Qi (fun (r : Int32) (u : xS) => r = (f_X9_silentPair S p0) ∧ u = S) (xI X) (xA X)) ([.ref (X.2.1 16), .int p0] : List Value).toArray s 0 0 (xA X)) (F0 m pc ls [.int r])) → ∀ (H : Heap) (locs : List Loc), va_P X.1 vwCl (xW X S) H → va_S (xA X) s.heap H locs → ∀ (ls : Array Slot), lv_has ls 5 [(0, .ref (X.2.1 16)), (1, .int x1_4), (2, .int x2_4), (3, .int x3_4)] → W p l e ({ frames := 5, cells := 0, slots := 0, locals := 114 } : Room) s m ([.ref (X.2.1 16), .int p0] : List Value).toArray below meth c H locs 0 0 (MQ below (va_Qi (fun (r : Int32) (u : xS) => r = (f_X9_silentPair S p0) ∧ u = S) (xI X) (xA X)) ([.ref (X.2.1 16), .int p0] : List Value).toArray s 0 0 (xA X)) (F0 m 4 ls []) := by
    intro n
    induction n with
    | zero => intro x1_4 x2_4 x3_4 hs; exact hs.elim
    | succ n ih_4 =>
      intro x1_4 x2_4 x3_4 hs_4 hex_4 hret_4 H locs hP hS ls hl
      refine lv_iload_n hx hb dX9_silentPair_4 rfl (lv_at hl 3 rfl) ?_
      refine lv_aload_n hx hb dX9_silentPair_5 rfl (lv_at hl 0 rfl) ?_
      refine xget (ref := "AbsentPraise$Trials") (T := TX9) (v := .ref (X.2.1 9)) hC hP hin_X9 xo_X9 rfl 0 (by decide) (List.mem_of_getElem? (i := 1) rfl) rfl rfl dX9_silentPair_6 ?_
      refine xget (ref := "AbsentPraise$Hill") (T := TX2) (v := .int (S 9 9)) hC hP hin_X2 (xo_H (by decide)) rfl 9 (by decide) (List.mem_of_getElem? (i := 2) rfl) rfl rfl dX9_silentPair_9 ?_
      refine lv_icmp_ge (tgt := 70) hx hb dX9_silentPair_12 (by decide) (fun c_1 => ?_) (fun c_1 => ?_)
      · have he_2 : f_X9_silentPair_L4 (n + 1) S x1_4 x2_4 x3_4 = .inr () := ((ip c_1 rfl))
        exact hex_4 _ he_2 _ _ hP hS ls (lv_sub hl [] rfl)
      · refine lv_iload_n hx hb dX9_silentPair_15 rfl (lv_at hl 3 rfl) ?_
        refine lv_iconst (v := 1) hx hb dX9_silentPair_16 (by decide) ?_
        refine lv_iadd hx hb dX9_silentPair_17 ?_
        refine lv_istore (lv' := [(4, .int (x3_4 + 1)), (0, .ref (X.2.1 16)), (1, .int x1_4), (2, .int x2_4), (3, .int x3_4)]) hx hb dX9_silentPair_18 hl (by decide) rfl (fun ls hl => ?_)
        have hLp_20 : ∀ (n : Nat) (x1_20 : Int32) (x2_20 : Int32) (x3_20 : Int32) (x4_20 : Int32), s_X9_silentPair_L20 n S x1_20 x2_20 x3_20 x4_20 → (∀ q : Int32, f_X9_silentPair_L20 n S x1_20 x2_20 x3_20 x4_20 = .inr q → (∀ (H : Heap) (locs : List Loc), va_P X.1 vwCl (xW X S) H → va_S (xA X) s.heap H locs → ∀ (ls : Array Slot), lv_has ls 5 [(0, .ref (X.2.1 16)), (1, .int x1_20), (2, .int q), (3, .int x3_20)] → W p l e ({ frames := 5, cells := 0, slots := 0, locals := 114 } : Room) s m ([.ref (X.2.1 16), .int p0] : List Value).toArray below meth c H locs 0 0 (MQ below (va_Qi (fun (r : Int32) (u : xS) => r = (f_X9_silentPair S p0) ∧ u = S) (xI X) (xA X)) ([.ref (X.2.1 16), .int p0] : List Value).toArray s 0 0 (xA X)) (F0 m 64 ls []))) → (∀ r : Int32, f_X9_silentPair_L20 n S x1_20 x2_20 x3_20 x4_20 = .inl r → ∀ (H : Heap) (locs : List Loc), va_P X.1 vwCl (xW X S) H → va_S (xA X) s.heap H locs → ∀ (pc : Nat) (ls : Array Slot), decode cX9_silentPair pc = .ok (.ireturn, 1) → W p l e ({ frames := 5, cells := 0, slots := 0, locals := 114 } : Room) s m ([.ref (X.2.1 16), .int p0] : List Value).toArray below meth c H locs 0 0 (MQ below (va_Qi (fun (r : Int32) (u : xS) => r = (f_X9_silentPair S p0) ∧ u = S) (xI X) (xA X)) ([.ref (X.2.1 16), .int p0] : List Value).toArray s 0 0 (xA X)) (F0 m pc ls [.int r])) → ∀ (H : Heap) (locs : List Loc), va_P X.1 vwCl (xW X S) H → va_S (xA X) s.heap H locs → ∀ (ls : Array Slot), lv_has ls 5 [(0, .ref (X.2.1 16)), (1, .int x1_20), (2, .int x2_20), (3, .int x3_20), (4, .int x4_20)] → W p l e ({ frames := 5, cells := 0, slots := 0, locals := 114 } : Room) s m ([.ref (X.2.1 16), .int p0] : List Value).toArray below meth c H locs 0 0 (MQ below (va_Qi (fun (r : Int32) (u : xS) => r = (f_X9_silentPair S p0) ∧ u = S) (xI X) (xA X)) ([.ref (X.2.1 16), .int p0] : List Value).toArray s 0 0 (xA X)) (F0 m 20 ls []) := by
          intro n
          induction n with
          | zero => intro x1_20 x2_20 x3_20 x4_20 hs; exact hs.elim
          | succ n ih_20 =>
            intro x1_20 x2_20 x3_20 x4_20 hs_20 hex_20 hret_20 H locs hP hS ls hl
            refine lv_iload hx hb dX9_silentPair_20 (lv_at hl 4 rfl) ?_
            refine lv_aload_n hx hb dX9_silentPair_22 rfl (lv_at hl 0 rfl) ?_
            refine xget (ref := "AbsentPraise$Trials") (T := TX9) (v := .ref (X.2.1 9)) hC hP hin_X9 xo_X9 rfl 0 (by decide) (List.mem_of_getElem? (i := 1) rfl) rfl rfl dX9_silentPair_23 ?_
            refine xget (ref := "AbsentPraise$Hill") (T := TX2) (v := .int (S 9 9)) hC hP hin_X2 (xo_H (by decide)) rfl 9 (by decide) (List.mem_of_getElem? (i := 2) rfl) rfl rfl dX9_silentPair_26 ?_
            refine lv_icmp_ge (tgt := 64) hx hb dX9_silentPair_29 (by decide) (fun c_3 => ?_) (fun c_3 => ?_)
            · have he_4 : f_X9_silentPair_L20 (n + 1) S x1_20 x2_20 x3_20 x4_20 = .inr x2_20 := ((ip c_3 rfl))
              exact hex_20 _ he_4 _ _ hP hS ls (lv_sub hl [0, 1, 2, 3] rfl)
            · refine lv_aload_n hx hb dX9_silentPair_32 rfl (lv_at hl 0 rfl) ?_
              refine lv_iload_n hx hb dX9_silentPair_33 rfl (lv_at hl 3 rfl) ?_
              refine lv_iload hx hb dX9_silentPair_34 (lv_at hl 4 rfl) ?_
              refine xcV_iR (b := 16) (As := [.int x3_20, .int x4_20]) (rest := []) hC hP hS (k_X9_isSilent l X S x3_20 x4_20) (cwV 2 hts gX9_silentPair_X9_isSilent rfl rfl rfl hd_X9_isSilent ⟨Nat.le_of_ble_eq_true rfl, Nat.le_of_ble_eq_true rfl⟩) xo_X9 rfl rfl rfl hl.1 (Nat.le_of_ble_eq_true rfl) dX9_silentPair_36 (fun r_5 hp_r_5 H locs hP hS => ?_)
              obtain ⟨hr_5, hzr_5⟩ := hp_r_5
              refine lv_if_eq (tgt := 58) hx hb dX9_silentPair_39 (by decide) (fun c_6 => ?_) (fun c_6 => ?_)
              · refine lv_iinc (v := (x4_20 + 1)) (lv' := [(4, .int (x4_20 + 1)), (0, .ref (X.2.1 16)), (1, .int x1_20), (2, .int x2_20), (3, .int x3_20)]) hx hb dX9_silentPair_58 hl (k := 4) rfl rfl (by decide) rfl (fun ls hl => ?_)
                refine lv_goto (tgt := 20) hx hb dX9_silentPair_61 (by decide) ?_
                have he_7 : f_X9_silentPair_L20 (n + 1) S x1_20 x2_20 x3_20 x4_20 = f_X9_silentPair_L20 n S x1_20 x2_20 x3_20 (x4_20 + 1) := (by subst hr_5; exact (iN c_3 (ip c_6 rfl)))
                exact ih_20 x1_20 x2_20 x3_20 (x4_20 + 1) (by subst hr_5; exact (sp (sn hs_20 c_3) c_6)) (fun q hq => hex_20 q (he_7.trans hq)) (fun r hq => hret_20 r (he_7.trans hq)) _ _ hP hS ls (lv_sub hl [1, 2, 3, 4, 0] rfl)
              · refine lv_iload_n hx hb dX9_silentPair_42 rfl (lv_at hl 2 rfl) ?_
                refine lv_iload_n hx hb dX9_silentPair_43 rfl (lv_at hl 1 rfl) ?_
                refine lv_icmp_ne (tgt := 55) hx hb dX9_silentPair_44 (by decide) (fun c_8 => ?_) (fun c_8 => ?_)
                · refine lv_iinc (v := (x2_20 + 1)) (lv' := [(2, .int (x2_20 + 1)), (0, .ref (X.2.1 16)), (1, .int x1_20), (3, .int x3_20), (4, .int x4_20)]) hx hb dX9_silentPair_55 hl (k := 2) rfl rfl (by decide) rfl (fun ls hl => ?_)
                  refine lv_iinc (v := (x4_20 + 1)) (lv' := [(4, .int (x4_20 + 1)), (2, .int (x2_20 + 1)), (0, .ref (X.2.1 16)), (1, .int x1_20), (3, .int x3_20)]) hx hb dX9_silentPair_58 hl (k := 4) rfl rfl (by decide) rfl (fun ls hl => ?_)
                  refine lv_goto (tgt := 20) hx hb dX9_silentPair_61 (by decide) ?_
                  have he_9 : f_X9_silentPair_L20 (n + 1) S x1_20 x2_20 x3_20 x4_20 = f_X9_silentPair_L20 n S x1_20 (x2_20 + 1) x3_20 (x4_20 + 1) := (by subst hr_5; exact (iN c_3 (iN c_6 (iN c_8 rfl))))
                  exact ih_20 x1_20 (x2_20 + 1) x3_20 (x4_20 + 1) (by subst hr_5; exact (sn (sn (sn hs_20 c_3) c_6) c_8)) (fun q hq => hex_20 q (he_9.trans hq)) (fun r hq => hret_20 r (he_9.trans hq)) _ _ hP hS ls (lv_sub hl [2, 3, 1, 4, 0] rfl)
                · refine lv_bipush (v := 100) hx hb dX9_silentPair_47 (by decide) ?_
                  refine lv_iload_n hx hb dX9_silentPair_49 rfl (lv_at hl 3 rfl) ?_
                  refine lv_imul hx hb dX9_silentPair_50 ?_
                  refine lv_iload hx hb dX9_silentPair_51 (lv_at hl 4 rfl) ?_
                  refine lv_iadd hx hb dX9_silentPair_53 ?_
                  have he_10 : f_X9_silentPair_L20 (n + 1) S x1_20 x2_20 x3_20 x4_20 = .inl ((100 * x3_20) + x4_20) := (by subst hr_5; exact (iN c_3 (iN c_6 (ip c_8 rfl))))
                  exact hret_20 _ he_10 _ _ hP hS 54 ls dX9_silentPair_54
        refine hLp_20 ((fu (x3_4 + 1) (S 9 9))) x1_4 x2_4 x3_4 (x3_4 + 1) (nl (sn hs_4 c_1)) (fun q_20 hq_20 H locs hP hS ls hl => ?_) (fun r hr_20 H locs hP hS pc_20 ls hd_20 => ?_) _ _ hP hS ls (lv_sub hl [1, 2, 3, 4, 0] rfl)
        · refine lv_iinc (v := (x3_4 + 1)) (lv' := [(3, .int (x3_4 + 1)), (0, .ref (X.2.1 16)), (1, .int x1_4), (2, .int q_20)]) hx hb dX9_silentPair_64 hl (k := 3) rfl rfl (by decide) rfl (fun ls hl => ?_)
          refine lv_goto (tgt := 4) hx hb dX9_silentPair_67 (by decide) ?_
          have he_11 : f_X9_silentPair_L4 (n + 1) S x1_4 x2_4 x3_4 = f_X9_silentPair_L4 n S x1_4 q_20 (x3_4 + 1) := ((iN c_1 (sm_r hq_20 rfl)))
          exact ih_4 x1_4 q_20 (x3_4 + 1) (((nr (sn hs_4 c_1)) q_20 hq_20)) (fun q hq => hex_4 q (he_11.trans hq)) (fun r hq => hret_4 r (he_11.trans hq)) _ _ hP hS ls (lv_sub hl [1, 2, 3, 0] rfl)
        · have he_12 : f_X9_silentPair_L4 (n + 1) S x1_4 x2_4 x3_4 = .inl r := ((iN c_1 (sm_l hr_20 rfl)))
          exact hret_4 r he_12 _ _ hP hS pc_20 ls hd_20
  refine hLp_4 ((fu 0 (S 9 9))) p0 0 0 (nl hs) (fun q_4 hq_4 H locs hP hS ls hl => ?_) (fun r hr_4 H locs hP hS pc_4 ls hd_4 => ?_) _ _ hP hS ls (lv_sub hl [2, 3, 1, 0] rfl)
  · refine lv_iconst (v := (-1)) hx hb dX9_silentPair_70 (by decide) ?_
    exact xret_iR hC hP hS hb hr (((sm_r hq_4 rfl))) dX9_silentPair_71 hlocks
  · exact xret_iR hC hP hS hb hr (((sm_l hr_4 rfl))) hd_4 hlocks
