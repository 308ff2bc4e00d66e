set_option linter.all false
/-! contracts: X8_read, X9_heardIn, X9_warmBehind, X9_warmestRoom, X9_worthOf, X9_bestStep -/
theorem hd_X8_read : yX8_read.cls = RX8 ∧ yX8_read.cls ≠ "java/lang/invoke/MethodHandle" ∧ yX8_read.cls ≠ "java/lang/invoke/VarHandle" ∧ (parseMethodDescriptor yX8_read.desc).map (fun d => d.parameters.length) = some 0 := by decide +kernel
set_option maxHeartbeats 4000000 in
set_option maxRecDepth 100000 in
theorem k_X8_read (l : Launch) (X : xX) (S : xS) (hs : s_X8_read S) : Met l yX8_read wsX8_read ({ frames := 5, cells := 0, slots := 0, locals := 108 } : Room) (va_Pc [.ref (X.2.1 1)] (xI X S)) (va_Qi (fun (r : Int32) (u : xS) => r = (f_X8_read S).1 ∧ u = (f_X8_read S).2 ∧ (r = 0 ∨ r = 1)) (xI X) (xA X)) 0 0 (xA X) := by
  refine Met.ofW (cc := cX8_read) (maxL := 2) (ret := (some .boolean)) (by decide +kernel) rfl ?_
  intro p e s m args below meth c s₁ B hml hv
  obtain ⟨rfl, hP, hK, hN, hJ⟩ := hv
  have hx := B.exec
  have hb := B.bytes
  have hr := B.returns
  have hts := atoms_spec (ws := wsX8_read) B.pre
  have hown : s.vm.findClass RX8 = some m.cls := findClass_of_methodNamed B.named
  have hlocks := B.notSynchronized
  have hC : xC X p m c cX8_read 2 s _ wsX8_read RX8 := ⟨⟨hx, hb, hml, hown, hts⟩, hK, hN, hJ⟩
  have hS : va_S (xA X) s.heap s.heap [] := va_S.rf
  have hin_X8 : ∀ w ∈ u_ws RX8 TX8 8, w ∈ wsX8_read := by decide +kernel
  have hl := lv_entry ([.ref (X.2.1 1)]) (n := 2) (Nat.le_of_ble_eq_true rfl)
  rw [lg_entry_eq]
  generalize (lg_sl ([.ref (X.2.1 1)]) ++ List.replicate (2 - (lg_sl ([.ref (X.2.1 1)])).length) Slot.unset).toArray = ls at hl ⊢
  have hl : lv_has ls 2 [(0, .ref (X.2.1 1))] := hl
  refine lv_aload_n hx hb dX8_read_0 rfl (lv_at hl 0 rfl) ?_
  refine xget (ref := "AbsentPraise$Telling") (T := TX8) (v := .ref (X.2.1 3)) hC hP hin_X8 xo_X8 rfl 1 (by decide) (List.mem_of_getElem? (i := 1) rfl) rfl rfl dX8_read_1 ?_
  have hn_1 : s_X2_clear S 3 := (nl hs)
  refine xcV_vW (b := 3) (As := []) (rest := []) hC hP hS (k_X2_clear l X S 3 (by decide) hn_1) (cwV 0 hts gX8_read_X2_clear rfl rfl rfl hd_X2_clear ⟨Nat.le_of_ble_eq_true rfl, Nat.le_of_ble_eq_true rfl⟩) (xo_H (by decide)) rfl rfl rfl hl.1 (Nat.le_of_ble_eq_true rfl) dX8_read_4 (fun S_2 hS_2 H locs hP hS => ?_)
  refine lv_aload_n hx hb dX8_read_7 rfl (lv_at hl 0 rfl) ?_
  refine lv_iconst (v := 0) hx hb dX8_read_8 (by decide) ?_
  refine xput (ref := "AbsentPraise$Telling") (T := TX8) (ty := .int) hC hP hS (by decide) hin_X8 tyX8 tyX8_ok nmX8 xo_X8 rfl 7 (by decide) (List.mem_of_getElem? (i := 2) rfl) rfl rfl rfl rfl rfl (Nat.le_of_ble_eq_true rfl) dX8_read_9 rfl (fun S_3 hS_3 H locs hP hS => ?_)
  refine lv_aload_n hx hb dX8_read_12 rfl (lv_at hl 0 rfl) ?_
  refine lv_iconst (v := 0) hx hb dX8_read_13 (by decide) ?_
  refine xput (ref := "AbsentPraise$Telling") (T := TX8) (ty := .int) hC hP hS (by decide) hin_X8 tyX8 tyX8_ok nmX8 xo_X8 rfl 3 (by decide) (List.mem_of_getElem? (i := 3) rfl) rfl rfl rfl rfl rfl (Nat.le_of_ble_eq_true rfl) dX8_read_14 rfl (fun S_4 hS_4 H locs hP hS => ?_)
  refine lv_aload_n hx hb dX8_read_17 rfl (lv_at hl 0 rfl) ?_
  refine lv_iconst (v := (-1)) hx hb dX8_read_18 (by decide) ?_
  refine xput (ref := "AbsentPraise$Telling") (T := TX8) (ty := .int) hC hP hS (by decide) hin_X8 tyX8 tyX8_ok nmX8 xo_X8 rfl 4 (by decide) (List.mem_of_getElem? (i := 4) rfl) rfl rfl rfl rfl rfl (Nat.le_of_ble_eq_true rfl) dX8_read_19 rfl (fun S_5 hS_5 H locs hP hS => ?_)
  refine lv_aload_n hx hb dX8_read_22 rfl (lv_at hl 0 rfl) ?_
  refine lv_iconst (v := 0) hx hb dX8_read_23 (by decide) ?_
  refine xput (ref := "AbsentPraise$Telling") (T := TX8) (ty := .int) hC hP hS (by decide) hin_X8 tyX8 tyX8_ok nmX8 xo_X8 rfl 5 (by decide) (List.mem_of_getElem? (i := 5) rfl) rfl rfl rfl rfl rfl (Nat.le_of_ble_eq_true rfl) dX8_read_24 rfl (fun S_6 hS_6 H locs hP hS => ?_)
  refine lv_aload_n hx hb dX8_read_27 rfl (lv_at hl 0 rfl) ?_
  have hn_7 : s_X8_skipBlanks S_6 := (by have hS_2 := hS_2.symm; have hS_3 := hS_3.symm; have hS_4 := hS_4.symm; have hS_5 := hS_5.symm; have hS_6 := hS_6.symm; subst hS_2 hS_3 hS_4 hS_5 hS_6; exact nl (nr hs))
  refine xcV_vW (b := 1) (As := []) (rest := []) hC hP hS (k_X8_skipBlanks l X S_6 hn_7) (cwV 0 hts gX8_read_X8_skipBlanks rfl rfl rfl hd_X8_skipBlanks ⟨Nat.le_of_ble_eq_true rfl, Nat.le_of_ble_eq_true rfl⟩) xo_X8 rfl rfl rfl hl.1 (Nat.le_of_ble_eq_true rfl) dX8_read_28 (fun S_8 hS_8 H locs hP hS => ?_)
  refine lv_iconst (v := 0) hx hb dX8_read_31 (by decide) ?_
  refine lv_istore_n (lv' := [(1, .int 0), (0, .ref (X.2.1 1))]) hx hb dX8_read_32 rfl hl (by decide) rfl (fun ls hl => ?_)
  have hLp_33 : ∀ (n : Nat) (T_33 : xS) (x1_33 : Int32), s_X8_read_L33 n T_33 x1_33 → (∀ q : xS, q = f_X8_read_L33 n T_33 x1_33 → (∀ (H : Heap) (locs : List Loc), va_P X.1 vwCl (xW X q) H → va_S (xA X) s.heap H locs → ∀ (ls : Array Slot), lv_has ls 2 [(0, .ref (X.2.1 1))] → W p l e ({ frames := 5, cells := 0, slots := 0, locals := 108 } : Room) s m ([.ref (X.2.1 1)] : List Value).toArray below meth c H locs 0 0 (MQ below (va_Qi (fun (r : Int32) (u : xS) => r = (f_X8_read S).1 ∧ u = (f_X8_read S).2 ∧ (r = 0 ∨ r = 1)) (xI X) (xA X)) ([.ref (X.2.1 1)] : List Value).toArray s 0 0 (xA X)) (F0 m 72 ls []))) → ∀ (H : Heap) (locs : List Loc), va_P X.1 vwCl (xW X T_33) H → va_S (xA X) s.heap H locs → ∀ (ls : Array Slot), lv_has ls 2 [(0, .ref (X.2.1 1)), (1, .int x1_33)] → W p l e ({ frames := 5, cells := 0, slots := 0, locals := 108 } : Room) s m ([.ref (X.2.1 1)] : List Value).toArray below meth c H locs 0 0 (MQ below (va_Qi (fun (r : Int32) (u : xS) => r = (f_X8_read S).1 ∧ u = (f_X8_read S).2 ∧ (r = 0 ∨ r = 1)) (xI X) (xA X)) ([.ref (X.2.1 1)] : List Value).toArray s 0 0 (xA X)) (F0 m 33 ls []) := by
    intro n
    induction n with
    | zero => intro T_33 x1_33 hs; exact hs.elim
    | succ n ih_33 =>
      intro T_33 x1_33 hs_33 hex_33 H locs hP hS ls hl
      refine lv_iload_n hx hb dX8_read_33 rfl (lv_at hl 1 rfl) ?_
      refine lv_sipush (v := 240) hx hb dX8_read_34 (by decide) ?_
      refine lv_icmp_ge (tgt := 72) hx hb dX8_read_37 (by decide) (fun c_9 => ?_) (fun c_9 => ?_)
      · have he_10 : f_X8_read_L33 (n + 1) T_33 x1_33 = T_33 := ((ip c_9 rfl))
        exact hex_33 _ he_10.symm _ _ hP hS ls (lv_sub hl [0] rfl)
      · refine lv_aload_n hx hb dX8_read_40 rfl (lv_at hl 0 rfl) ?_
        refine xget (ref := "AbsentPraise$Telling") (T := TX8) (v := .int (T_33 1 5)) hC hP hin_X8 xo_X8 rfl 5 (by decide) (List.mem_of_getElem? (i := 5) rfl) rfl rfl dX8_read_41 ?_
        refine lv_aload_n hx hb dX8_read_44 rfl (lv_at hl 0 rfl) ?_
        refine xget (ref := "AbsentPraise$Telling") (T := TX8) (v := .int (T_33 1 2)) hC hP hin_X8 xo_X8 rfl 2 (by decide) (List.mem_of_getElem? (i := 6) rfl) rfl rfl dX8_read_45 ?_
        refine lv_icmp_ge (tgt := 72) hx hb dX8_read_48 (by decide) (fun c_11 => ?_) (fun c_11 => ?_)
        · have he_12 : f_X8_read_L33 (n + 1) T_33 x1_33 = T_33 := ((iN c_9 (ip c_11 rfl)))
          exact hex_33 _ he_12.symm _ _ hP hS ls (lv_sub hl [0] rfl)
        · refine lv_aload_n hx hb dX8_read_51 rfl (lv_at hl 0 rfl) ?_
          refine xget (ref := "AbsentPraise$Telling") (T := TX8) (v := .int (T_33 1 3)) hC hP hin_X8 xo_X8 rfl 3 (by decide) (List.mem_of_getElem? (i := 3) rfl) rfl rfl dX8_read_52 ?_
          refine lv_if_ne (tgt := 72) hx hb dX8_read_55 (by decide) (fun c_13 => ?_) (fun c_13 => ?_)
          · have he_14 : f_X8_read_L33 (n + 1) T_33 x1_33 = T_33 := ((iN c_9 (iN c_11 (iN c_13 rfl))))
            exact hex_33 _ he_14.symm _ _ hP hS ls (lv_sub hl [0] rfl)
          · refine lv_aload_n hx hb dX8_read_58 rfl (lv_at hl 0 rfl) ?_
            have hn_15 : s_X8_readClause T_33 := (nl (sp (sn (sn hs_33 c_9) c_11) c_13))
            refine xcV_vW (b := 1) (As := []) (rest := []) hC hP hS (k_X8_readClause l X T_33 hn_15) (cwV 0 hts gX8_read_X8_readClause rfl rfl rfl hd_X8_readClause ⟨Nat.le_of_ble_eq_true rfl, Nat.le_of_ble_eq_true rfl⟩) xo_X8 rfl rfl rfl hl.1 (Nat.le_of_ble_eq_true rfl) dX8_read_59 (fun S_16 hS_16 H locs hP hS => ?_)
            refine lv_aload_n hx hb dX8_read_62 rfl (lv_at hl 0 rfl) ?_
            have hn_17 : s_X8_skipBlanks S_16 := (by have hS_16 := hS_16.symm; subst hS_16; exact nl (nr (sp (sn (sn hs_33 c_9) c_11) c_13)))
            refine xcV_vW (b := 1) (As := []) (rest := []) hC hP hS (k_X8_skipBlanks l X S_16 hn_17) (cwV 0 hts gX8_read_X8_skipBlanks rfl rfl rfl hd_X8_skipBlanks ⟨Nat.le_of_ble_eq_true rfl, Nat.le_of_ble_eq_true rfl⟩) xo_X8 rfl rfl rfl hl.1 (Nat.le_of_ble_eq_true rfl) dX8_read_63 (fun S_18 hS_18 H locs hP hS => ?_)
            refine lv_iinc (v := (x1_33 + 1)) (lv' := [(1, .int (x1_33 + 1)), (0, .ref (X.2.1 1))]) hx hb dX8_read_66 hl (k := 1) rfl rfl (by decide) rfl (fun ls hl => ?_)
            refine lv_goto (tgt := 33) hx hb dX8_read_69 (by decide) ?_
            have he_19 : f_X8_read_L33 (n + 1) T_33 x1_33 = f_X8_read_L33 n S_18 (x1_33 + 1) := (by have hS_16 := hS_16.symm; have hS_18 := hS_18.symm; subst hS_16 hS_18; exact (iN c_9 (iN c_11 (ip c_13 rfl))))
            exact ih_33 S_18 (x1_33 + 1) (by have hS_16 := hS_16.symm; have hS_18 := hS_18.symm; subst hS_16 hS_18; exact (nr (nr (sp (sn (sn hs_33 c_9) c_11) c_13)))) (fun q hq => hex_33 q (hq.trans he_19.symm)) _ _ hP hS ls (lv_sub hl [1, 0] rfl)
  refine hLp_33 ((fu 0 240)) S_8 0 (by have hS_2 := hS_2.symm; have hS_3 := hS_3.symm; have hS_4 := hS_4.symm; have hS_5 := hS_5.symm; have hS_6 := hS_6.symm; have hS_8 := hS_8.symm; subst hS_2 hS_3 hS_4 hS_5 hS_6 hS_8; exact nl (nr (nr hs))) (fun q_33 hq_33 H locs hP hS ls hl => ?_) _ _ hP hS ls (lv_sub hl [1, 0] rfl)
  refine lv_aload_n hx hb dX8_read_72 rfl (lv_at hl 0 rfl) ?_
  refine xget (ref := "AbsentPraise$Telling") (T := TX8) (v := .int (q_33 1 3)) hC hP hin_X8 xo_X8 rfl 3 (by decide) (List.mem_of_getElem? (i := 3) rfl) rfl rfl dX8_read_73 ?_
  refine lv_if_ne (tgt := 83) hx hb dX8_read_76 (by decide) (fun c_20 => ?_) (fun c_20 => ?_)
  · refine lv_iconst (v := 0) hx hb dX8_read_83 (by decide) ?_
    exact xret_zW hC hP hS hb hr (.inl rfl) ((by have hS_2 := hS_2.symm; have hS_3 := hS_3.symm; have hS_4 := hS_4.symm; have hS_5 := hS_5.symm; have hS_6 := hS_6.symm; have hS_8 := hS_8.symm; have hq_33 := hq_33.symm; subst hS_2 hS_3 hS_4 hS_5 hS_6 hS_8 hq_33; exact (iN c_20 rfl))) dX8_read_84 hlocks
  · refine lv_iconst (v := 1) hx hb dX8_read_79 (by decide) ?_
    refine lv_goto (tgt := 84) hx hb dX8_read_80 (by decide) ?_
    exact xret_zW hC hP hS hb hr (.inr rfl) ((by have hS_2 := hS_2.symm; have hS_3 := hS_3.symm; have hS_4 := hS_4.symm; have hS_5 := hS_5.symm; have hS_6 := hS_6.symm; have hS_8 := hS_8.symm; have hq_33 := hq_33.symm; subst hS_2 hS_3 hS_4 hS_5 hS_6 hS_8 hq_33; exact (ip c_20 rfl))) dX8_read_84 hlocks
theorem hd_X9_heardIn : yX9_heardIn.cls = RX9 ∧ yX9_heardIn.cls ≠ "java/lang/invoke/MethodHandle" ∧ yX9_heardIn.cls ≠ "java/lang/invoke/VarHandle" ∧ (parseMethodDescriptor yX9_heardIn.desc).map (fun d => d.parameters.length) = some 3 := by decide +kernel
set_option maxHeartbeats 4000000 in
set_option maxRecDepth 100000 in
theorem k_X9_heardIn (l : Launch) (X : xX) (S : xS) (p0 : Int32) (p1 : Int32) (p2 : Int32) : Met l yX9_heardIn wsX9_heardIn ({ frames := 3, cells := 0, slots := 0, locals := 70 } : Room) (va_Pc [.ref (X.2.1 16), .int p0, .int p1, .int p2] (xI X S)) (va_Qi (fun (r : Int32) (u : xS) => r = (f_X9_heardIn S p0 p1 p2) ∧ u = S) (xI X) (xA X)) 0 0 (xA X) := by
  refine Met.ofW (cc := cX9_heardIn) (maxL := 6) (ret := (some .int)) (by decide +kernel) rfl ?_
  intro p e s m args below meth c s₁ B hml hv
  obtain ⟨rfl, hP, hK, hN, hJ⟩ := hv
  have hx := B.exec
  have hb := B.bytes
  have hr := B.returns
  have hts := atoms_spec (ws := wsX9_heardIn) B.pre
  have hown : s.vm.findClass RX9 = some m.cls := findClass_of_methodNamed B.named
  have hlocks := B.notSynchronized
  have hC : xC X p m c cX9_heardIn 6 s _ wsX9_heardIn RX9 := ⟨⟨hx, hb, hml, hown, hts⟩, hK, hN, hJ⟩
  have hS : va_S (xA X) s.heap s.heap [] := va_S.rf
  have hin_X7 : ∀ w ∈ u_ws RX7 TX7 6, w ∈ wsX9_heardIn := by decide +kernel
  have hin_X9 : ∀ w ∈ u_ws RX9 TX9 5, w ∈ wsX9_heardIn := by decide +kernel
  have hl := lv_entry ([.ref (X.2.1 16), .int p0, .int p1, .int p2]) (n := 6) (Nat.le_of_ble_eq_true rfl)
  rw [lg_entry_eq]
  generalize (lg_sl ([.ref (X.2.1 16), .int p0, .int p1, .int p2]) ++ List.replicate (6 - (lg_sl ([.ref (X.2.1 16), .int p0, .int p1, .int p2])).length) Slot.unset).toArray = ls at hl ⊢
  have hl : lv_has ls 6 [(0, .ref (X.2.1 16)), (1, .int p0), (2, .int p1), (3, .int p2)] := hl
  refine lv_aload_n hx hb dX9_heardIn_0 rfl (lv_at hl 0 rfl) ?_
  refine xget (ref := "AbsentPraise$Trials") (T := TX9) (v := .ref (X.2.1 15)) hC hP hin_X9 xo_X9 rfl 2 (by decide) (List.mem_of_getElem? (i := 1) rfl) rfl rfl dX9_heardIn_1 ?_
  refine lv_iload_n hx hb dX9_heardIn_4 rfl (lv_at hl 1 rfl) ?_
  refine lv_aload_n hx hb dX9_heardIn_5 rfl (lv_at hl 0 rfl) ?_
  refine xget (ref := "AbsentPraise$Trials") (T := TX9) (v := .ref (X.2.1 32)) hC hP hin_X9 xo_X9 rfl 1 (by decide) (List.mem_of_getElem? (i := 2) rfl) rfl rfl dX9_heardIn_6 ?_
  refine xget (ref := "AbsentPraise$Talk") (T := TX7) (v := .int (S 32 5)) hC hP hin_X7 (xo_T (by decide)) rfl 5 (by decide) (List.mem_of_getElem? (i := 3) rfl) rfl rfl dX9_heardIn_9 ?_
  refine lv_iload_n hx hb dX9_heardIn_12 rfl (lv_at hl 3 rfl) ?_
  refine lv_iadd hx hb dX9_heardIn_13 ?_
  refine xcV_iR (b := 15) (As := [.int p0, .int ((S 32 5) + p2)]) (rest := []) hC hP hS (k_X4_speakerOf l X S p0 ((S 32 5) + p2)) (cwV 2 hts gX9_heardIn_X4_speakerOf rfl rfl rfl hd_X4_speakerOf ⟨Nat.le_of_ble_eq_true rfl, Nat.le_of_ble_eq_true rfl⟩) xo_X4 rfl rfl rfl hl.1 (Nat.le_of_ble_eq_true rfl) dX9_heardIn_14 (fun r_1 hr_1 H locs hP hS => ?_)
  refine lv_istore (lv' := [(4, .int r_1), (0, .ref (X.2.1 16)), (1, .int p0), (2, .int p1), (3, .int p2)]) hx hb dX9_heardIn_17 hl (by decide) rfl (fun ls hl => ?_)
  refine lv_aload_n hx hb dX9_heardIn_19 rfl (lv_at hl 1 rfl) ?_
  refine xget (ref := "AbsentPraise$Trials") (T := TX9) (v := .ref (X.2.1 32)) hC hP hin_X9 xo_X9 rfl 1 (by decide) (List.mem_of_getElem? (i := 2) rfl) rfl rfl dX9_heardIn_20 ?_
  refine xget (ref := "AbsentPraise$Talk") (T := TX7) (v := .ref (X.2.1 33)) hC hP hin_X7 (xo_T (by decide)) rfl 0 (by decide) (List.mem_of_getElem? (i := 4) rfl) rfl rfl dX9_heardIn_23 ?_
  refine lv_iload hx hb dX9_heardIn_26 (lv_at hl 0 rfl) ?_
  refine xcSN_iR (As := [.ref (X.2.1 33), .int r_1]) (rest := []) hC hP hS (k_X10_at l X S 33 r_1 rfl) (va_cnB (host := "AbsentPraise") 2 hts gX9_heardIn_X10_at_n45 rfl rfl rfl (xn_16 hN) (hts (.initialized RX10) (List.mem_of_getElem? (i := 18) rfl)) hs_X10_at ⟨Nat.le_of_ble_eq_true rfl, Nat.le_of_ble_eq_true rfl⟩) (hts (.static yX10_at) (List.mem_of_getElem? (i := 17) rfl)) rfl rfl hl.1 (Nat.le_of_ble_eq_true rfl) dX9_heardIn_28 (fun r_2 hr_2 H locs hP hS => ?_)
  refine lv_istore (lv' := [(5, .int r_2), (4, .int r_1), (0, .ref (X.2.1 16)), (1, .int p0), (2, .int p1), (3, .int p2)]) hx hb dX9_heardIn_31 hl (by decide) rfl (fun ls hl => ?_)
  refine lv_iload hx hb dX9_heardIn_33 (lv_at hl 1 rfl) ?_
  refine lv_iload_n hx hb dX9_heardIn_35 rfl (lv_at hl 3 rfl) ?_
  refine lv_icmp_eq (tgt := 52) hx hb dX9_heardIn_36 (by decide) (fun c_3 => ?_) (fun c_3 => ?_)
  · refine lv_iconst (v := 0) hx hb dX9_heardIn_52 (by decide) ?_
    exact xret_iR hC hP hS hb hr ((by have hr_1 := hr_1.symm; have hr_2 := hr_2.symm; subst hr_1 hr_2; exact (ip c_3 rfl))) dX9_heardIn_53 hlocks
  · refine lv_aload_n hx hb dX9_heardIn_39 rfl (lv_at hl 2 rfl) ?_
    refine xget (ref := "AbsentPraise$Trials") (T := TX9) (v := .ref (X.2.1 15)) hC hP hin_X9 xo_X9 rfl 2 (by decide) (List.mem_of_getElem? (i := 1) rfl) rfl rfl dX9_heardIn_40 ?_
    refine lv_iload hx hb dX9_heardIn_43 (lv_at hl 0 rfl) ?_
    refine lv_iload_n hx hb dX9_heardIn_45 rfl (lv_at hl 4 rfl) ?_
    refine xcV_iR (b := 15) (As := [.int r_2, .int p1]) (rest := []) hC hP hS (k_X4_reaches l X S r_2 p1) (cwV 2 hts gX9_heardIn_X4_reaches rfl rfl rfl hd_X4_reaches ⟨Nat.le_of_ble_eq_true rfl, Nat.le_of_ble_eq_true rfl⟩) xo_X4 rfl rfl rfl hl.1 (Nat.le_of_ble_eq_true rfl) dX9_heardIn_46 (fun r_4 hp_r_4 H locs hP hS => ?_)
    obtain ⟨hr_4, hzr_4⟩ := hp_r_4
    refine lv_if_ne (tgt := 54) hx hb dX9_heardIn_49 (by decide) (fun c_5 => ?_) (fun c_5 => ?_)
    · refine lv_aload_n hx hb dX9_heardIn_54 rfl (lv_at hl 2 rfl) ?_
      refine xget (ref := "AbsentPraise$Trials") (T := TX9) (v := .ref (X.2.1 15)) hC hP hin_X9 xo_X9 rfl 2 (by decide) (List.mem_of_getElem? (i := 1) rfl) rfl rfl dX9_heardIn_55 ?_
      refine lv_iload hx hb dX9_heardIn_58 (lv_at hl 1 rfl) ?_
      refine lv_iload hx hb dX9_heardIn_60 (lv_at hl 0 rfl) ?_
      refine lv_iload_n hx hb dX9_heardIn_62 rfl (lv_at hl 3 rfl) ?_
      refine lv_iload_n hx hb dX9_heardIn_63 rfl (lv_at hl 4 rfl) ?_
      refine lv_iload_n hx hb dX9_heardIn_64 rfl (lv_at hl 5 rfl) ?_
      refine lv_if_ne (tgt := 86) hx hb dX9_heardIn_65 (by decide) (fun c_6 => ?_) (fun c_6 => ?_)
      · refine lv_iconst (v := 0) hx hb dX9_heardIn_86 (by decide) ?_
        refine xcV_iR (b := 15) (As := [.int r_1, .int r_2, .int p0, .int p1, .int 0]) (rest := []) hC hP hS (k_X4_says l X S r_1 r_2 p0 p1 0) (cwV 5 hts gX9_heardIn_X4_says rfl rfl rfl hd_X4_says ⟨Nat.le_of_ble_eq_true rfl, Nat.le_of_ble_eq_true rfl⟩) xo_X4 rfl rfl rfl hl.1 (Nat.le_of_ble_eq_true rfl) dX9_heardIn_87 (fun r_7 hr_7 H locs hP hS => ?_)
        exact xret_iR hC hP hS hb hr ((by have hr_1 := hr_1.symm; have hr_2 := hr_2.symm; have hr_4 := hr_4.symm; have hr_7 := hr_7.symm; subst hr_1 hr_2 hr_4 hr_7; exact (iN c_3 (iN c_5 (iN c_6 rfl))))) dX9_heardIn_90 hlocks
      · refine lv_aload_n hx hb dX9_heardIn_68 rfl (lv_at hl 2 rfl) ?_
        refine xget (ref := "AbsentPraise$Trials") (T := TX9) (v := .ref (X.2.1 32)) hC hP hin_X9 xo_X9 rfl 1 (by decide) (List.mem_of_getElem? (i := 2) rfl) rfl rfl dX9_heardIn_69 ?_
        refine xget (ref := "AbsentPraise$Talk") (T := TX7) (v := .int (S 32 4)) hC hP hin_X7 (xo_T (by decide)) rfl 4 (by decide) (List.mem_of_getElem? (i := 5) rfl) rfl rfl dX9_heardIn_72 ?_
        refine lv_iload_n hx hb dX9_heardIn_75 rfl (lv_at hl 3 rfl) ?_
        refine xcSN_iR (As := [.int (S 32 4), .int p0]) (rest := [.int p1, .int p0, .int r_2, .int r_1, .ref (X.2.1 15)]) hC hP hS (k_X10_has l X S (S 32 4) p0) (va_cnB (host := "AbsentPraise") 2 hts gX9_heardIn_X10_has_n56 rfl rfl rfl (xn_15 hN) (hts (.initialized RX10) (List.mem_of_getElem? (i := 18) rfl)) hs_X10_has ⟨Nat.le_of_ble_eq_true rfl, Nat.le_of_ble_eq_true rfl⟩) (hts (.static yX10_has) (List.mem_of_getElem? (i := 25) rfl)) rfl rfl hl.1 (Nat.le_of_ble_eq_true rfl) dX9_heardIn_76 (fun r_8 hp_r_8 H locs hP hS => ?_)
        obtain ⟨hr_8, hzr_8⟩ := hp_r_8
        refine lv_if_eq (tgt := 86) hx hb dX9_heardIn_79 (by decide) (fun c_9 => ?_) (fun c_9 => ?_)
        · refine lv_iconst (v := 0) hx hb dX9_heardIn_86 (by decide) ?_
          refine xcV_iR (b := 15) (As := [.int r_1, .int r_2, .int p0, .int p1, .int 0]) (rest := []) hC hP hS (k_X4_says l X S r_1 r_2 p0 p1 0) (cwV 5 hts gX9_heardIn_X4_says rfl rfl rfl hd_X4_says ⟨Nat.le_of_ble_eq_true rfl, Nat.le_of_ble_eq_true rfl⟩) xo_X4 rfl rfl rfl hl.1 (Nat.le_of_ble_eq_true rfl) dX9_heardIn_87 (fun r_10 hr_10 H locs hP hS => ?_)
          exact xret_iR hC hP hS hb hr ((by have hr_1 := hr_1.symm; have hr_2 := hr_2.symm; have hr_4 := hr_4.symm; have hr_8 := hr_8.symm; have hr_10 := hr_10.symm; subst hr_1 hr_2 hr_4 hr_8 hr_10; exact (iN c_3 (iN c_5 (ip c_6 (ip c_9 rfl)))))) dX9_heardIn_90 hlocks
        · refine lv_iconst (v := 1) hx hb dX9_heardIn_82 (by decide) ?_
          refine lv_goto (tgt := 87) hx hb dX9_heardIn_83 (by decide) ?_
          refine xcV_iR (b := 15) (As := [.int r_1, .int r_2, .int p0, .int p1, .int 1]) (rest := []) hC hP hS (k_X4_says l X S r_1 r_2 p0 p1 1) (cwV 5 hts gX9_heardIn_X4_says rfl rfl rfl hd_X4_says ⟨Nat.le_of_ble_eq_true rfl, Nat.le_of_ble_eq_true rfl⟩) xo_X4 rfl rfl rfl hl.1 (Nat.le_of_ble_eq_true rfl) dX9_heardIn_87 (fun r_11 hr_11 H locs hP hS => ?_)
          exact xret_iR hC hP hS hb hr ((by have hr_1 := hr_1.symm; have hr_2 := hr_2.symm; have hr_4 := hr_4.symm; have hr_8 := hr_8.symm; have hr_11 := hr_11.symm; subst hr_1 hr_2 hr_4 hr_8 hr_11; exact (iN c_3 (iN c_5 (ip c_6 (iN c_9 rfl)))))) dX9_heardIn_90 hlocks
    · refine lv_iconst (v := 0) hx hb dX9_heardIn_52 (by decide) ?_
      exact xret_iR hC hP hS hb hr ((by have hr_1 := hr_1.symm; have hr_2 := hr_2.symm; have hr_4 := hr_4.symm; subst hr_1 hr_2 hr_4; exact (iN c_3 (ip c_5 rfl)))) dX9_heardIn_53 hlocks
theorem hd_X9_warmBehind : yX9_warmBehind.cls = RX9 ∧ yX9_warmBehind.cls ≠ "java/lang/invoke/MethodHandle" ∧ yX9_warmBehind.cls ≠ "java/lang/invoke/VarHandle" ∧ (parseMethodDescriptor yX9_warmBehind.desc).map (fun d => d.parameters.length) = some 3 := by decide +kernel
set_option maxHeartbeats 4000000 in
set_option maxRecDepth 100000 in
theorem k_X9_warmBehind (l : Launch) (X : xX) (S : xS) (p0 : Int32) (p1 : Int32) (p2 : Int32) (hs : s_X9_warmBehind S p0 p1 p2) : Met l yX9_warmBehind wsX9_warmBehind ({ frames := 4, cells := 0, slots := 0, locals := 95 } : Room) (va_Pc [.ref (X.2.1 16), .int p0, .int p1, .int p2] (xI X S)) (va_Qi (fun (r : Int32) (u : xS) => r = (f_X9_warmBehind S p0 p1 p2) ∧ u = S) (xI X) (xA X)) 0 0 (xA X) := by
  refine Met.ofW (cc := cX9_warmBehind) (maxL := 6) (ret := (some .int)) (by decide +kernel) rfl ?_
  intro p e s m args below meth c s₁ B hml hv
  obtain ⟨rfl, hP, hK, hN, hJ⟩ := hv
  have hx := B.exec
  have hb := B.bytes
  have hr := B.returns
  have hts := atoms_spec (ws := wsX9_warmBehind) B.pre
  have hown : s.vm.findClass RX9 = some m.cls := findClass_of_methodNamed B.named
  have hlocks := B.notSynchronized
  have hC : xC X p m c cX9_warmBehind 6 s _ wsX9_warmBehind RX9 := ⟨⟨hx, hb, hml, hown, hts⟩, hK, hN, hJ⟩
  have hS : va_S (xA X) s.heap s.heap [] := va_S.rf
  have hin_X7 : ∀ w ∈ u_ws RX7 TX7 6, w ∈ wsX9_warmBehind := by decide +kernel
  have hin_X9 : ∀ w ∈ u_ws RX9 TX9 5, w ∈ wsX9_warmBehind := by decide +kernel
  have hl := lv_entry ([.ref (X.2.1 16), .int p0, .int p1, .int p2]) (n := 6) (Nat.le_of_ble_eq_true rfl)
  rw [lg_entry_eq]
  generalize (lg_sl ([.ref (X.2.1 16), .int p0, .int p1, .int p2]) ++ List.replicate (6 - (lg_sl ([.ref (X.2.1 16), .int p0, .int p1, .int p2])).length) Slot.unset).toArray = ls at hl ⊢
  have hl : lv_has ls 6 [(0, .ref (X.2.1 16)), (1, .int p0), (2, .int p1), (3, .int p2)] := hl
  refine lv_aload_n hx hb dX9_warmBehind_0 rfl (lv_at hl 0 rfl) ?_
  refine xget (ref := "AbsentPraise$Trials") (T := TX9) (v := .ref (X.2.1 32)) hC hP hin_X9 xo_X9 rfl 1 (by decide) (List.mem_of_getElem? (i := 1) rfl) rfl rfl dX9_warmBehind_1 ?_
  refine xget (ref := "AbsentPraise$Talk") (T := TX7) (v := .ref (X.2.1 34)) hC hP hin_X7 (xo_T (by decide)) rfl 1 (by decide) (List.mem_of_getElem? (i := 2) rfl) rfl rfl dX9_warmBehind_4 ?_
  refine lv_iload_n hx hb dX9_warmBehind_7 rfl (lv_at hl 1 rfl) ?_
  refine xcSN_iR (As := [.ref (X.2.1 34), .int p0]) (rest := []) hC hP hS (k_X10_at l X S 34 p0 rfl) (va_cnB (host := "AbsentPraise") 2 hts gX9_warmBehind_X10_at_n45 rfl rfl rfl (xn_16 hN) (hts (.initialized RX10) (List.mem_of_getElem? (i := 5) rfl)) hs_X10_at ⟨Nat.le_of_ble_eq_true rfl, Nat.le_of_ble_eq_true rfl⟩) (hts (.static yX10_at) (List.mem_of_getElem? (i := 4) rfl)) rfl rfl hl.1 (Nat.le_of_ble_eq_true rfl) dX9_warmBehind_8 (fun r_1 hr_1 H locs hP hS => ?_)
  refine lv_istore (lv' := [(4, .int r_1), (0, .ref (X.2.1 16)), (1, .int p0), (2, .int p1), (3, .int p2)]) hx hb dX9_warmBehind_11 hl (by decide) rfl (fun ls hl => ?_)
  refine lv_iconst (v := 0) hx hb dX9_warmBehind_13 (by decide) ?_
  refine lv_istore (lv' := [(5, .int 0), (4, .int r_1), (0, .ref (X.2.1 16)), (1, .int p0), (2, .int p1), (3, .int p2)]) hx hb dX9_warmBehind_14 hl (by decide) rfl (fun ls hl => ?_)
  have hLp_16 : ∀ (n : Nat) (x1_16 : Int32) (x2_16 : Int32) (x3_16 : Int32) (x4_16 : Int32) (x5_16 : Int32), s_X9_warmBehind_L16 n S x1_16 x2_16 x3_16 x4_16 x5_16 → (∀ q : Int32, q = f_X9_warmBehind_L16 n S x1_16 x2_16 x3_16 x4_16 x5_16 → (∀ (H : Heap) (locs : List Loc), va_P X.1 vwCl (xW X S) H → va_S (xA X) s.heap H locs → ∀ (ls : Array Slot), lv_has ls 6 [(4, .int q)] → W p l e ({ frames := 4, cells := 0, slots := 0, locals := 95 } : Room) s m ([.ref (X.2.1 16), .int p0, .int p1, .int p2] : List Value).toArray below meth c H locs 0 0 (MQ below (va_Qi (fun (r : Int32) (u : xS) => r = (f_X9_warmBehind S p0 p1 p2) ∧ u = S) (xI X) (xA X)) ([.ref (X.2.1 16), .int p0, .int p1, .int p2] : List Value).toArray s 0 0 (xA X)) (F0 m 47 ls []))) → ∀ (H : Heap) (locs : List Loc), va_P X.1 vwCl (xW X S) H → va_S (xA X) s.heap H locs → ∀ (ls : Array Slot), lv_has ls 6 [(0, .ref (X.2.1 16)), (1, .int x1_16), (2, .int x2_16), (3, .int x3_16), (4, .int x4_16), (5, .int x5_16)] → W p l e ({ frames := 4, cells := 0, slots := 0, locals := 95 } : Room) s m ([.ref (X.2.1 16), .int p0, .int p1, .int p2] : List Value).toArray below meth c H locs 0 0 (MQ below (va_Qi (fun (r : Int32) (u : xS) => r = (f_X9_warmBehind S p0 p1 p2) ∧ u = S) (xI X) (xA X)) ([.ref (X.2.1 16), .int p0, .int p1, .int p2] : List Value).toArray s 0 0 (xA X)) (F0 m 16 ls []) := by
    intro n
    induction n with
    | zero => intro x1_16 x2_16 x3_16 x4_16 x5_16 hs; exact hs.elim
    | succ n ih_16 =>
      intro x1_16 x2_16 x3_16 x4_16 x5_16 hs_16 hex_16 H locs hP hS ls hl
      refine lv_iload hx hb dX9_warmBehind_16 (lv_at hl 5 rfl) ?_
      refine lv_iload_n hx hb dX9_warmBehind_18 rfl (lv_at hl 3 rfl) ?_
      refine lv_icmp_ge (tgt := 47) hx hb dX9_warmBehind_19 (by decide) (fun c_2 => ?_) (fun c_2 => ?_)
      · have he_3 : f_X9_warmBehind_L16 (n + 1) S x1_16 x2_16 x3_16 x4_16 x5_16 = x4_16 := ((ip c_2 rfl))
        exact hex_16 _ he_3.symm _ _ hP hS ls (lv_sub hl [4] rfl)
      · refine lv_aload_n hx hb dX9_warmBehind_22 rfl (lv_at hl 0 rfl) ?_
        refine xget (ref := "AbsentPraise$Trials") (T := TX9) (v := .ref (X.2.1 15)) hC hP hin_X9 xo_X9 rfl 2 (by decide) (List.mem_of_getElem? (i := 3) rfl) rfl rfl dX9_warmBehind_23 ?_
        refine lv_iload hx hb dX9_warmBehind_26 (lv_at hl 4 rfl) ?_
        refine lv_aload_n hx hb dX9_warmBehind_28 rfl (lv_at hl 0 rfl) ?_
        refine lv_iload_n hx hb dX9_warmBehind_29 rfl (lv_at hl 1 rfl) ?_
        refine lv_iload_n hx hb dX9_warmBehind_30 rfl (lv_at hl 2 rfl) ?_
        refine lv_iload hx hb dX9_warmBehind_31 (lv_at hl 5 rfl) ?_
        refine xcV_iR (b := 16) (As := [.int x1_16, .int x2_16, .int x5_16]) (rest := [.int x4_16, .ref (X.2.1 15)]) hC hP hS (k_X9_heardIn l X S x1_16 x2_16 x5_16) (cwV 3 hts gX9_warmBehind_X9_heardIn rfl rfl rfl hd_X9_heardIn ⟨Nat.le_of_ble_eq_true rfl, Nat.le_of_ble_eq_true rfl⟩) xo_X9 rfl rfl rfl hl.1 (Nat.le_of_ble_eq_true rfl) dX9_warmBehind_33 (fun r_4 hr_4 H locs hP hS => ?_)
        refine xcV_iR (b := 15) (As := [.int x4_16, .int r_4]) (rest := []) hC hP hS (k_X4_warmer l X S x4_16 r_4) (cwV 2 hts gX9_warmBehind_X4_warmer rfl rfl rfl hd_X4_warmer ⟨Nat.le_of_ble_eq_true rfl, Nat.le_of_ble_eq_true rfl⟩) xo_X4 rfl rfl rfl hl.1 (Nat.le_of_ble_eq_true rfl) dX9_warmBehind_36 (fun r_5 hr_5 H locs hP hS => ?_)
        refine lv_istore (lv' := [(4, .int r_5), (0, .ref (X.2.1 16)), (1, .int x1_16), (2, .int x2_16), (3, .int x3_16), (5, .int x5_16)]) hx hb dX9_warmBehind_39 hl (by decide) rfl (fun ls hl => ?_)
        refine lv_iinc (v := (x5_16 + 1)) (lv' := [(5, .int (x5_16 + 1)), (4, .int r_5), (0, .ref (X.2.1 16)), (1, .int x1_16), (2, .int x2_16), (3, .int x3_16)]) hx hb dX9_warmBehind_41 hl (k := 5) rfl rfl (by decide) rfl (fun ls hl => ?_)
        refine lv_goto (tgt := 16) hx hb dX9_warmBehind_44 (by decide) ?_
        have he_6 : f_X9_warmBehind_L16 (n + 1) S x1_16 x2_16 x3_16 x4_16 x5_16 = f_X9_warmBehind_L16 n S x1_16 x2_16 x3_16 r_5 (x5_16 + 1) := (by have hr_4 := hr_4.symm; have hr_5 := hr_5.symm; subst hr_4 hr_5; exact (iN c_2 rfl))
        exact ih_16 x1_16 x2_16 x3_16 r_5 (x5_16 + 1) (by have hr_4 := hr_4.symm; have hr_5 := hr_5.symm; subst hr_4 hr_5; exact (sn hs_16 c_2)) (fun q hq => hex_16 q (hq.trans he_6.symm)) _ _ hP hS ls (lv_sub hl [2, 3, 4, 5, 1, 0] rfl)
  refine hLp_16 ((fu 0 p2)) p0 p1 p2 r_1 0 (by have hr_1 := hr_1.symm; subst hr_1; exact nl hs) (fun q_16 hq_16 H locs hP hS ls hl => ?_) _ _ hP hS ls (lv_sub hl [2, 3, 4, 5, 1, 0] rfl)
  refine lv_iload hx hb dX9_warmBehind_47 (lv_at hl 0 rfl) ?_
  exact xret_iR hC hP hS hb hr ((by have hr_1 := hr_1.symm; have hq_16 := hq_16.symm; subst hr_1 hq_16; exact rfl)) dX9_warmBehind_49 hlocks
theorem hd_X9_warmestRoom : yX9_warmestRoom.cls = RX9 ∧ yX9_warmestRoom.cls ≠ "java/lang/invoke/MethodHandle" ∧ yX9_warmestRoom.cls ≠ "java/lang/invoke/VarHandle" ∧ (parseMethodDescriptor yX9_warmestRoom.desc).map (fun d => d.parameters.length) = some 2 := by decide +kernel
set_option maxHeartbeats 4000000 in
set_option maxRecDepth 100000 in
theorem k_X9_warmestRoom (l : Launch) (X : xX) (S : xS) (p0 : Int32) (p1 : Int32) (hs : s_X9_warmestRoom S p0 p1) : Met l yX9_warmestRoom wsX9_warmestRoom ({ frames := 5, cells := 0, slots := 0, locals := 120 } : Room) (va_Pc [.ref (X.2.1 16), .int p0, .int p1] (xI X S)) (va_Qi (fun (r : Int32) (u : xS) => r = (f_X9_warmestRoom S p0 p1) ∧ u = S) (xI X) (xA X)) 0 0 (xA X) := by
  refine Met.ofW (cc := cX9_warmestRoom) (maxL := 7) (ret := (some .int)) (by decide +kernel) rfl ?_
  intro p e s m args below meth c s₁ B hml hv
  obtain ⟨rfl, hP, hK, hN, hJ⟩ := hv
  have hx := B.exec
  have hb := B.bytes
  have hr := B.returns
  have hts := atoms_spec (ws := wsX9_warmestRoom) B.pre
  have hown : s.vm.findClass RX9 = some m.cls := findClass_of_methodNamed B.named
  have hlocks := B.notSynchronized
  have hC : xC X p m c cX9_warmestRoom 7 s _ wsX9_warmestRoom RX9 := ⟨⟨hx, hb, hml, hown, hts⟩, hK, hN, hJ⟩
  have hS : va_S (xA X) s.heap s.heap [] := va_S.rf
  have hin_X2 : ∀ w ∈ u_ws RX2 TX2 10, w ∈ wsX9_warmestRoom := by decide +kernel
  have hin_X9 : ∀ w ∈ u_ws RX9 TX9 5, w ∈ wsX9_warmestRoom := by decide +kernel
  have hl := lv_entry ([.ref (X.2.1 16), .int p0, .int p1]) (n := 7) (Nat.le_of_ble_eq_true rfl)
  rw [lg_entry_eq]
  generalize (lg_sl ([.ref (X.2.1 16), .int p0, .int p1]) ++ List.replicate (7 - (lg_sl ([.ref (X.2.1 16), .int p0, .int p1])).length) Slot.unset).toArray = ls at hl ⊢
  have hl : lv_has ls 7 [(0, .ref (X.2.1 16)), (1, .int p0), (2, .int p1)] := hl
  refine lv_iconst (v := 0) hx hb dX9_warmestRoom_0 (by decide) ?_
  refine lv_istore_n (lv' := [(3, .int 0), (0, .ref (X.2.1 16)), (1, .int p0), (2, .int p1)]) hx hb dX9_warmestRoom_1 rfl hl (by decide) rfl (fun ls hl => ?_)
  refine lv_aload_n hx hb dX9_warmestRoom_2 rfl (lv_at hl 1 rfl) ?_
  refine lv_iload_n hx hb dX9_warmestRoom_3 rfl (lv_at hl 2 rfl) ?_
  refine lv_iconst (v := 0) hx hb dX9_warmestRoom_4 (by decide) ?_
  refine lv_iload_n hx hb dX9_warmestRoom_5 rfl (lv_at hl 3 rfl) ?_
  have hn_1 : s_X9_warmBehind S p0 0 p1 := (nl hs)
  refine xcV_iR (b := 16) (As := [.int p0, .int 0, .int p1]) (rest := []) hC hP hS (k_X9_warmBehind l X S p0 0 p1 hn_1) (cwV 3 hts gX9_warmestRoom_X9_warmBehind rfl rfl rfl hd_X9_warmBehind ⟨Nat.le_of_ble_eq_true rfl, Nat.le_of_ble_eq_true rfl⟩) xo_X9 rfl rfl rfl hl.1 (Nat.le_of_ble_eq_true rfl) dX9_warmestRoom_6 (fun r_2 hr_2 H locs hP hS => ?_)
  refine lv_istore (lv' := [(4, .int r_2), (3, .int 0), (0, .ref (X.2.1 16)), (1, .int p0), (2, .int p1)]) hx hb dX9_warmestRoom_9 hl (by decide) rfl (fun ls hl => ?_)
  refine lv_iconst (v := 1) hx hb dX9_warmestRoom_11 (by decide) ?_
  refine lv_istore (lv' := [(5, .int 1), (4, .int r_2), (3, .int 0), (0, .ref (X.2.1 16)), (1, .int p0), (2, .int p1)]) hx hb dX9_warmestRoom_12 hl (by decide) rfl (fun ls hl => ?_)
  have hLp_14 : ∀ (n : Nat) (x1_14 : Int32) (x2_14 : Int32) (x3_14 : Int32) (x4_14 : Int32) (x5_14 : Int32), s_X9_warmestRoom_L14 n S x1_14 x2_14 x3_14 x4_14 x5_14 → (∀ q : Int32, q = f_X9_warmestRoom_L14 n S x1_14 x2_14 x3_14 x4_14 x5_14 → (∀ (H : Heap) (locs : List Loc), va_P X.1 vwCl (xW X S) H → va_S (xA X) s.heap H locs → ∀ (ls : Array Slot), lv_has ls 7 [(3, .int q)] → W p l e ({ frames := 5, cells := 0, slots := 0, locals := 120 } : Room) s m ([.ref (X.2.1 16), .int p0, .int p1] : List Value).toArray below meth c H locs 0 0 (MQ below (va_Qi (fun (r : Int32) (u : xS) => r = (f_X9_warmestRoom S p0 p1) ∧ u = S) (xI X) (xA X)) ([.ref (X.2.1 16), .int p0, .int p1] : List Value).toArray s 0 0 (xA X)) (F0 m 56 ls []))) → ∀ (H : Heap) (locs : List Loc), va_P X.1 vwCl (xW X S) H → va_S (xA X) s.heap H locs → ∀ (ls : Array Slot), lv_has ls 7 [(0, .ref (X.2.1 16)), (1, .int x1_14), (2, .int x2_14), (3, .int x3_14), (4, .int x4_14), (5, .int x5_14)] → W p l e ({ frames := 5, cells := 0, slots := 0, locals := 120 } : Room) s m ([.ref (X.2.1 16), .int p0, .int p1] : List Value).toArray below meth c H locs 0 0 (MQ below (va_Qi (fun (r : Int32) (u : xS) => r = (f_X9_warmestRoom S p0 p1) ∧ u = S) (xI X) (xA X)) ([.ref (X.2.1 16), .int p0, .int p1] : List Value).toArray s 0 0 (xA X)) (F0 m 14 ls []) := by
    intro n
    induction n with
    | zero => intro x1_14 x2_14 x3_14 x4_14 x5_14 hs; exact hs.elim
    | succ n ih_14 =>
      intro x1_14 x2_14 x3_14 x4_14 x5_14 hs_14 hex_14 H locs hP hS ls hl
      refine lv_iload hx hb dX9_warmestRoom_14 (lv_at hl 5 rfl) ?_
      refine lv_aload_n hx hb dX9_warmestRoom_16 rfl (lv_at hl 0 rfl) ?_
      refine xget (ref := "AbsentPraise$Trials") (T := TX9) (v := .ref (X.2.1 9)) hC hP hin_X9 xo_X9 rfl 0 (by decide) (List.mem_of_getElem? (i := 1) rfl) rfl rfl dX9_warmestRoom_17 ?_
      refine xget (ref := "AbsentPraise$Hill") (T := TX2) (v := .int (S 9 5)) hC hP hin_X2 (xo_H (by decide)) rfl 5 (by decide) (List.mem_of_getElem? (i := 2) rfl) rfl rfl dX9_warmestRoom_20 ?_
      refine lv_icmp_ge (tgt := 56) hx hb dX9_warmestRoom_23 (by decide) (fun c_3 => ?_) (fun c_3 => ?_)
      · have he_4 : f_X9_warmestRoom_L14 (n + 1) S x1_14 x2_14 x3_14 x4_14 x5_14 = x3_14 := ((ip c_3 rfl))
        exact hex_14 _ he_4.symm _ _ hP hS ls (lv_sub hl [3] rfl)
      · refine lv_aload_n hx hb dX9_warmestRoom_26 rfl (lv_at hl 0 rfl) ?_
        refine lv_iload_n hx hb dX9_warmestRoom_27 rfl (lv_at hl 1 rfl) ?_
        refine lv_iload hx hb dX9_warmestRoom_28 (lv_at hl 5 rfl) ?_
        refine lv_iload_n hx hb dX9_warmestRoom_30 rfl (lv_at hl 2 rfl) ?_
        have hn_5 : s_X9_warmBehind S x1_14 x5_14 x2_14 := (nl (sn hs_14 c_3))
        refine xcV_iR (b := 16) (As := [.int x1_14, .int x5_14, .int x2_14]) (rest := []) hC hP hS (k_X9_warmBehind l X S x1_14 x5_14 x2_14 hn_5) (cwV 3 hts gX9_warmestRoom_X9_warmBehind rfl rfl rfl hd_X9_warmBehind ⟨Nat.le_of_ble_eq_true rfl, Nat.le_of_ble_eq_true rfl⟩) xo_X9 rfl rfl rfl hl.1 (Nat.le_of_ble_eq_true rfl) dX9_warmestRoom_31 (fun r_6 hr_6 H locs hP hS => ?_)
        refine lv_istore (lv' := [(6, .int r_6), (0, .ref (X.2.1 16)), (1, .int x1_14), (2, .int x2_14), (3, .int x3_14), (4, .int x4_14), (5, .int x5_14)]) hx hb dX9_warmestRoom_34 hl (by decide) rfl (fun ls hl => ?_)
        refine lv_iload hx hb dX9_warmestRoom_36 (lv_at hl 0 rfl) ?_
        refine lv_iload hx hb dX9_warmestRoom_38 (lv_at hl 5 rfl) ?_
        refine lv_icmp_le (tgt := 50) hx hb dX9_warmestRoom_40 (by decide) (fun c_7 => ?_) (fun c_7 => ?_)
        · refine lv_iinc (v := (x5_14 + 1)) (lv' := [(5, .int (x5_14 + 1)), (6, .int r_6), (0, .ref (X.2.1 16)), (1, .int x1_14), (2, .int x2_14), (3, .int x3_14), (4, .int x4_14)]) hx hb dX9_warmestRoom_50 hl (k := 6) rfl rfl (by decide) rfl (fun ls hl => ?_)
          refine lv_goto (tgt := 14) hx hb dX9_warmestRoom_53 (by decide) ?_
          have he_8 : f_X9_warmestRoom_L14 (n + 1) S x1_14 x2_14 x3_14 x4_14 x5_14 = f_X9_warmestRoom_L14 n S x1_14 x2_14 x3_14 x4_14 (x5_14 + 1) := (by have hr_6 := hr_6.symm; subst hr_6; exact (iN c_3 (ip c_7 rfl)))
          exact ih_14 x1_14 x2_14 x3_14 x4_14 (x5_14 + 1) (by have hr_6 := hr_6.symm; subst hr_6; exact (sp (nr (sn hs_14 c_3)) c_7)) (fun q hq => hex_14 q (hq.trans he_8.symm)) _ _ hP hS ls (lv_sub hl [2, 3, 4, 5, 6, 0] rfl)
        · refine lv_iload hx hb dX9_warmestRoom_43 (lv_at hl 0 rfl) ?_
          refine lv_istore (lv' := [(4, .int r_6), (6, .int r_6), (0, .ref (X.2.1 16)), (1, .int x1_14), (2, .int x2_14), (3, .int x3_14), (5, .int x5_14)]) hx hb dX9_warmestRoom_45 hl (by decide) rfl (fun ls hl => ?_)
          refine lv_iload hx hb dX9_warmestRoom_47 (lv_at hl 6 rfl) ?_
          refine lv_istore_n (lv' := [(3, .int x5_14), (4, .int r_6), (6, .int r_6), (0, .ref (X.2.1 16)), (1, .int x1_14), (2, .int x2_14), (5, .int x5_14)]) hx hb dX9_warmestRoom_49 rfl hl (by decide) rfl (fun ls hl => ?_)
          refine lv_iinc (v := (x5_14 + 1)) (lv' := [(5, .int (x5_14 + 1)), (3, .int x5_14), (4, .int r_6), (6, .int r_6), (0, .ref (X.2.1 16)), (1, .int x1_14), (2, .int x2_14)]) hx hb dX9_warmestRoom_50 hl (k := 6) rfl rfl (by decide) rfl (fun ls hl => ?_)
          refine lv_goto (tgt := 14) hx hb dX9_warmestRoom_53 (by decide) ?_
          have he_9 : f_X9_warmestRoom_L14 (n + 1) S x1_14 x2_14 x3_14 x4_14 x5_14 = f_X9_warmestRoom_L14 n S x1_14 x2_14 x5_14 r_6 (x5_14 + 1) := (by have hr_6 := hr_6.symm; subst hr_6; exact (iN c_3 (iN c_7 rfl)))
          exact ih_14 x1_14 x2_14 x5_14 r_6 (x5_14 + 1) (by have hr_6 := hr_6.symm; subst hr_6; exact (sn (nr (sn hs_14 c_3)) c_7)) (fun q hq => hex_14 q (hq.trans he_9.symm)) _ _ hP hS ls (lv_sub hl [4, 5, 6, 1, 2, 0] rfl)
  refine hLp_14 ((fu 1 (S 9 5))) p0 p1 0 r_2 1 (by have hr_2 := hr_2.symm; subst hr_2; exact nl (nr hs)) (fun q_14 hq_14 H locs hP hS ls hl => ?_) _ _ hP hS ls (lv_sub hl [3, 4, 5, 2, 1, 0] rfl)
  refine lv_iload_n hx hb dX9_warmestRoom_56 rfl (lv_at hl 0 rfl) ?_
  exact xret_iR hC hP hS hb hr ((by have hr_2 := hr_2.symm; have hq_14 := hq_14.symm; subst hr_2 hq_14; exact rfl)) dX9_warmestRoom_57 hlocks
theorem hd_X9_worthOf : yX9_worthOf.cls = RX9 ∧ yX9_worthOf.cls ≠ "java/lang/invoke/MethodHandle" ∧ yX9_worthOf.cls ≠ "java/lang/invoke/VarHandle" ∧ (parseMethodDescriptor yX9_worthOf.desc).map (fun d => d.parameters.length) = some 1 := by decide +kernel
set_option maxHeartbeats 4000000 in
set_option maxRecDepth 100000 in
theorem k_X9_worthOf (l : Launch) (X : xX) (S : xS) (p0 : Int32) : Met l yX9_worthOf wsX9_worthOf ({ frames := 1, cells := 0, slots := 0, locals := 21 } : Room) (va_Pc [.ref (X.2.1 16), .int p0] (xI X S)) (va_Qi (fun (r : Int32) (u : xS) => r = (f_X9_worthOf S p0) ∧ u = S) (xI X) (xA X)) 0 0 (xA X) := by
  refine Met.ofW (cc := cX9_worthOf) (maxL := 2) (ret := (some .int)) (by decide +kernel) rfl ?_
  intro p e s m args below meth c s₁ B hml hv
  obtain ⟨rfl, hP, hK, hN, hJ⟩ := hv
  have hx := B.exec
  have hb := B.bytes
  have hr := B.returns
  have hts := atoms_spec (ws := wsX9_worthOf) B.pre
  have hown : s.vm.findClass RX9 = some m.cls := findClass_of_methodNamed B.named
  have hlocks := B.notSynchronized
  have hC : xC X p m c cX9_worthOf 2 s _ wsX9_worthOf RX9 := ⟨⟨hx, hb, hml, hown, hts⟩, hK, hN, hJ⟩
  have hS : va_S (xA X) s.heap s.heap [] := va_S.rf
  have hin_X9 : ∀ w ∈ u_ws RX9 TX9 5, w ∈ wsX9_worthOf := by decide +kernel
  have hl := lv_entry ([.ref (X.2.1 16), .int p0]) (n := 2) (Nat.le_of_ble_eq_true rfl)
  rw [lg_entry_eq]
  generalize (lg_sl ([.ref (X.2.1 16), .int p0]) ++ List.replicate (2 - (lg_sl ([.ref (X.2.1 16), .int p0])).length) Slot.unset).toArray = ls at hl ⊢
  have hl : lv_has ls 2 [(0, .ref (X.2.1 16)), (1, .int p0)] := hl
  refine lv_aload_n hx hb dX9_worthOf_0 rfl (lv_at hl 0 rfl) ?_
  refine xget (ref := "AbsentPraise$Trials") (T := TX9) (v := .ref (X.2.1 17)) hC hP hin_X9 xo_X9 rfl 3 (by decide) (List.mem_of_getElem? (i := 1) rfl) rfl rfl dX9_worthOf_1 ?_
  refine lv_iload_n hx hb dX9_worthOf_4 rfl (lv_at hl 1 rfl) ?_
  refine xcSN_iR (As := [.ref (X.2.1 17), .int p0]) (rest := []) hC hP hS (k_X10_at l X S 17 p0 rfl) (va_cnB (host := "AbsentPraise") 2 hts gX9_worthOf_X10_at_n45 rfl rfl rfl (xn_16 hN) (hts (.initialized RX10) (List.mem_of_getElem? (i := 3) rfl)) hs_X10_at ⟨Nat.le_of_ble_eq_true rfl, Nat.le_of_ble_eq_true rfl⟩) (hts (.static yX10_at) (List.mem_of_getElem? (i := 2) rfl)) rfl rfl hl.1 (Nat.le_of_ble_eq_true rfl) dX9_worthOf_5 (fun r_1 hr_1 H locs hP hS => ?_)
  exact xret_iR hC hP hS hb hr ((by have hr_1 := hr_1.symm; subst hr_1; exact rfl)) dX9_worthOf_8 hlocks
theorem hd_X9_bestStep : yX9_bestStep.cls = RX9 ∧ yX9_bestStep.cls ≠ "java/lang/invoke/MethodHandle" ∧ yX9_bestStep.cls ≠ "java/lang/invoke/VarHandle" ∧ (parseMethodDescriptor yX9_bestStep.desc).map (fun d => d.parameters.length) = some 1 := by decide +kernel
set_option maxHeartbeats 4000000 in
set_option maxRecDepth 100000 in
theorem k_X9_bestStep (l : Launch) (X : xX) (S : xS) (p0 : Int32) (hs : s_X9_bestStep S p0) : Met l yX9_bestStep wsX9_bestStep ({ frames := 2, cells := 0, slots := 0, locals := 43 } : Room) (va_Pc [.ref (X.2.1 16), .int p0] (xI X S)) (va_Qi (fun (r : Int32) (u : xS) => r = (f_X9_bestStep S p0) ∧ u = S) (xI X) (xA X)) 0 0 (xA X) := by
  refine Met.ofW (cc := cX9_bestStep) (maxL := 5) (ret := (some .int)) (by decide +kernel) rfl ?_
  intro p e s m args below meth c s₁ B hml hv
  obtain ⟨rfl, hP, hK, hN, hJ⟩ := hv
  have hx := B.exec
  have hb := B.bytes
  have hr := B.returns
  have hts := atoms_spec (ws := wsX9_bestStep) B.pre
  have hown : s.vm.findClass RX9 = some m.cls := findClass_of_methodNamed B.named
  have hlocks := B.notSynchronized
  have hC : xC X p m c cX9_bestStep 5 s _ wsX9_bestStep RX9 := ⟨⟨hx, hb, hml, hown, hts⟩, hK, hN, hJ⟩
  have hS : va_S (xA X) s.heap s.heap [] := va_S.rf
  have hin_X2 : ∀ w ∈ u_ws RX2 TX2 10, w ∈ wsX9_bestStep := by decide +kernel
  have hin_X9 : ∀ w ∈ u_ws RX9 TX9 5, w ∈ wsX9_bestStep := by decide +kernel
  have hl := lv_entry ([.ref (X.2.1 16), .int p0]) (n := 5) (Nat.le_of_ble_eq_true rfl)
  rw [lg_entry_eq]
  generalize (lg_sl ([.ref (X.2.1 16), .int p0]) ++ List.replicate (5 - (lg_sl ([.ref (X.2.1 16), .int p0])).length) Slot.unset).toArray = ls at hl ⊢
  have hl : lv_has ls 5 [(0, .ref (X.2.1 16)), (1, .int p0)] := hl
  refine lv_iconst (v := (-1)) hx hb dX9_bestStep_0 (by decide) ?_
  refine lv_istore_n (lv' := [(2, .int (-1)), (0, .ref (X.2.1 16)), (1, .int p0)]) hx hb dX9_bestStep_1 rfl hl (by decide) rfl (fun ls hl => ?_)
  refine lv_iconst (v := 0) hx hb dX9_bestStep_2 (by decide) ?_
  refine lv_istore_n (lv' := [(3, .int 0), (2, .int (-1)), (0, .ref (X.2.1 16)), (1, .int p0)]) hx hb dX9_bestStep_3 rfl hl (by decide) rfl (fun ls hl => ?_)
  have hLp_4 : ∀ (n : Nat) (x1_4 : Int32) (x2_4 : Int32) (x3_4 : Int32), s_X9_bestStep_L4 n S x1_4 x2_4 x3_4 → (∀ q : Int32, q = f_X9_bestStep_L4 n S x1_4 x2_4 x3_4 → (∀ (H : Heap) (locs : List Loc), va_P X.1 vwCl (xW X S) H → va_S (xA X) s.heap H locs → ∀ (ls : Array Slot), lv_has ls 5 [(2, .int q)] → W p l e ({ frames := 2, cells := 0, slots := 0, locals := 43 } : Room) s m ([.ref (X.2.1 16), .int p0] : List Value).toArray below meth c H locs 0 0 (MQ below (va_Qi (fun (r : Int32) (u : xS) => r = (f_X9_bestStep S p0) ∧ u = S) (xI X) (xA X)) ([.ref (X.2.1 16), .int p0] : List Value).toArray s 0 0 (xA X)) (F0 m 70 ls []))) → ∀ (H : Heap) (locs : List Loc), va_P X.1 vwCl (xW X S) H → va_S (xA X) s.heap H locs → ∀ (ls : Array Slot), lv_has ls 5 [(0, .ref (X.2.1 16)), (1, .int x1_4), (2, .int x2_4), (3, .int x3_4)] → W p l e ({ frames := 2, cells := 0, slots := 0, locals := 43 } : Room) s m ([.ref (X.2.1 16), .int p0] : List Value).toArray below meth c H locs 0 0 (MQ below (va_Qi (fun (r : Int32) (u : xS) => r = (f_X9_bestStep S p0) ∧ u = S) (xI X) (xA X)) ([.ref (X.2.1 16), .int p0] : List Value).toArray s 0 0 (xA X)) (F0 m 4 ls []) := by
    intro n
    induction n with
    | zero => intro x1_4 x2_4 x3_4 hs; exact hs.elim
    | succ n ih_4 =>
      intro x1_4 x2_4 x3_4 hs_4 hex_4 H locs hP hS ls hl
      refine lv_iload_n hx hb dX9_bestStep_4 rfl (lv_at hl 3 rfl) ?_
      refine lv_aload_n hx hb dX9_bestStep_5 rfl (lv_at hl 0 rfl) ?_
      refine xget (ref := "AbsentPraise$Trials") (T := TX9) (v := .ref (X.2.1 9)) hC hP hin_X9 xo_X9 rfl 0 (by decide) (List.mem_of_getElem? (i := 1) rfl) rfl rfl dX9_bestStep_6 ?_
      refine xget (ref := "AbsentPraise$Hill") (T := TX2) (v := .int (S 9 5)) hC hP hin_X2 (xo_H (by decide)) rfl 5 (by decide) (List.mem_of_getElem? (i := 2) rfl) rfl rfl dX9_bestStep_9 ?_
      refine lv_icmp_ge (tgt := 70) hx hb dX9_bestStep_12 (by decide) (fun c_1 => ?_) (fun c_1 => ?_)
      · have he_2 : f_X9_bestStep_L4 (n + 1) S x1_4 x2_4 x3_4 = x2_4 := ((ip c_1 rfl))
        exact hex_4 _ he_2.symm _ _ hP hS ls (lv_sub hl [2] rfl)
      · refine lv_iload_n hx hb dX9_bestStep_15 rfl (lv_at hl 3 rfl) ?_
        refine lv_iload_n hx hb dX9_bestStep_16 rfl (lv_at hl 1 rfl) ?_
        refine lv_icmp_eq (tgt := 32) hx hb dX9_bestStep_17 (by decide) (fun c_3 => ?_) (fun c_3 => ?_)
        · refine lv_iconst (v := 1) hx hb dX9_bestStep_32 (by decide) ?_
          refine lv_goto (tgt := 37) hx hb dX9_bestStep_33 (by decide) ?_
          refine lv_istore (lv' := [(4, .int 1), (0, .ref (X.2.1 16)), (1, .int x1_4), (2, .int x2_4), (3, .int x3_4)]) hx hb dX9_bestStep_37 hl (by decide) rfl (fun ls hl => ?_)
          refine lv_iload hx hb dX9_bestStep_39 (lv_at hl 0 rfl) ?_
          refine lv_if_eq (tgt := 64) hx hb dX9_bestStep_41 (by decide) (fun c => absurd c (by decide)) (fun _ => ?_)
          refine lv_iload_n hx hb dX9_bestStep_44 rfl (lv_at hl 3 rfl) ?_
          refine lv_iconst (v := (-1)) hx hb dX9_bestStep_45 (by decide) ?_
          refine lv_icmp_eq (tgt := 62) hx hb dX9_bestStep_46 (by decide) (fun c_4 => ?_) (fun c_4 => ?_)
          · refine lv_iload_n hx hb dX9_bestStep_62 rfl (lv_at hl 4 rfl) ?_
            refine lv_istore_n (lv' := [(2, .int x3_4), (4, .int 1), (0, .ref (X.2.1 16)), (1, .int x1_4), (3, .int x3_4)]) hx hb dX9_bestStep_63 rfl hl (by decide) rfl (fun ls hl => ?_)
            refine lv_iinc (v := (x3_4 + 1)) (lv' := [(3, .int (x3_4 + 1)), (2, .int x3_4), (4, .int 1), (0, .ref (X.2.1 16)), (1, .int x1_4)]) hx hb dX9_bestStep_64 hl (k := 4) rfl rfl (by decide) rfl (fun ls hl => ?_)
            refine lv_goto (tgt := 4) hx hb dX9_bestStep_67 (by decide) ?_
            have he_5 : f_X9_bestStep_L4 (n + 1) S x1_4 x2_4 x3_4 = f_X9_bestStep_L4 n S x1_4 x3_4 (x3_4 + 1) := ((iN c_1 (ip c_3 (ip c_4 rfl))))
            exact ih_4 x1_4 x3_4 (x3_4 + 1) ((sp (sp (sn hs_4 c_1) c_3) c_4)) (fun q hq => hex_4 q (hq.trans he_5.symm)) _ _ hP hS ls (lv_sub hl [3, 4, 1, 0] rfl)
          · refine lv_aload_n hx hb dX9_bestStep_49 rfl (lv_at hl 1 rfl) ?_
            refine lv_iload_n hx hb dX9_bestStep_50 rfl (lv_at hl 4 rfl) ?_
            refine xcV_iR (b := 16) (As := [.int x3_4]) (rest := []) hC hP hS (k_X9_worthOf l X S x3_4) (cwV 1 hts gX9_bestStep_X9_worthOf rfl rfl rfl hd_X9_worthOf ⟨Nat.le_of_ble_eq_true rfl, Nat.le_of_ble_eq_true rfl⟩) xo_X9 rfl rfl rfl hl.1 (Nat.le_of_ble_eq_true rfl) dX9_bestStep_51 (fun r_6 hr_6 H locs hP hS => ?_)
            refine lv_aload_n hx hb dX9_bestStep_54 rfl (lv_at hl 1 rfl) ?_
            refine lv_iload_n hx hb dX9_bestStep_55 rfl (lv_at hl 3 rfl) ?_
            refine xcV_iR (b := 16) (As := [.int x2_4]) (rest := [.int r_6]) hC hP hS (k_X9_worthOf l X S x2_4) (cwV 1 hts gX9_bestStep_X9_worthOf rfl rfl rfl hd_X9_worthOf ⟨Nat.le_of_ble_eq_true rfl, Nat.le_of_ble_eq_true rfl⟩) xo_X9 rfl rfl rfl hl.1 (Nat.le_of_ble_eq_true rfl) dX9_bestStep_56 (fun r_7 hr_7 H locs hP hS => ?_)
            refine lv_icmp_le (tgt := 64) hx hb dX9_bestStep_59 (by decide) (fun c_8 => ?_) (fun c_8 => ?_)
            · refine lv_iinc (v := (x3_4 + 1)) (lv' := [(3, .int (x3_4 + 1)), (4, .int 1), (0, .ref (X.2.1 16)), (1, .int x1_4), (2, .int x2_4)]) hx hb dX9_bestStep_64 hl (k := 4) rfl rfl (by decide) rfl (fun ls hl => ?_)
              refine lv_goto (tgt := 4) hx hb dX9_bestStep_67 (by decide) ?_
              have he_9 : f_X9_bestStep_L4 (n + 1) S x1_4 x2_4 x3_4 = f_X9_bestStep_L4 n S x1_4 x2_4 (x3_4 + 1) := (by have hr_6 := hr_6.symm; have hr_7 := hr_7.symm; subst hr_6 hr_7; exact (iN c_1 (ip c_3 (iN c_4 (ip c_8 rfl)))))
              exact ih_4 x1_4 x2_4 (x3_4 + 1) (by have hr_6 := hr_6.symm; have hr_7 := hr_7.symm; subst hr_6 hr_7; exact (sp (sn (sp (sn hs_4 c_1) c_3) c_4) c_8)) (fun q hq => hex_4 q (hq.trans he_9.symm)) _ _ hP hS ls (lv_sub hl [2, 3, 4, 0] rfl)
            · refine lv_iload_n hx hb dX9_bestStep_62 rfl (lv_at hl 4 rfl) ?_
              refine lv_istore_n (lv' := [(2, .int x3_4), (4, .int 1), (0, .ref (X.2.1 16)), (1, .int x1_4), (3, .int x3_4)]) hx hb dX9_bestStep_63 rfl hl (by decide) rfl (fun ls hl => ?_)
              refine lv_iinc (v := (x3_4 + 1)) (lv' := [(3, .int (x3_4 + 1)), (2, .int x3_4), (4, .int 1), (0, .ref (X.2.1 16)), (1, .int x1_4)]) hx hb dX9_bestStep_64 hl (k := 4) rfl rfl (by decide) rfl (fun ls hl => ?_)
              refine lv_goto (tgt := 4) hx hb dX9_bestStep_67 (by decide) ?_
              have he_10 : f_X9_bestStep_L4 (n + 1) S x1_4 x2_4 x3_4 = f_X9_bestStep_L4 n S x1_4 x3_4 (x3_4 + 1) := (by have hr_6 := hr_6.symm; have hr_7 := hr_7.symm; subst hr_6 hr_7; exact (iN c_1 (ip c_3 (iN c_4 (iN c_8 rfl)))))
              exact ih_4 x1_4 x3_4 (x3_4 + 1) (by have hr_6 := hr_6.symm; have hr_7 := hr_7.symm; subst hr_6 hr_7; exact (sn (sn (sp (sn hs_4 c_1) c_3) c_4) c_8)) (fun q hq => hex_4 q (hq.trans he_10.symm)) _ _ hP hS ls (lv_sub hl [3, 4, 1, 0] rfl)
        · refine lv_aload_n hx hb dX9_bestStep_20 rfl (lv_at hl 0 rfl) ?_
          refine xget (ref := "AbsentPraise$Trials") (T := TX9) (v := .ref (X.2.1 9)) hC hP hin_X9 xo_X9 rfl 0 (by decide) (List.mem_of_getElem? (i := 1) rfl) rfl rfl dX9_bestStep_21 ?_
          refine lv_iload_n hx hb dX9_bestStep_24 rfl (lv_at hl 1 rfl) ?_
          refine lv_iload_n hx hb dX9_bestStep_25 rfl (lv_at hl 3 rfl) ?_
          refine xcV_iR (b := 9) (As := [.int x1_4, .int x3_4]) (rest := []) hC hP hS (k_X2_isWay l X S 9 x1_4 x3_4 (by decide)) (cwV 2 hts gX9_bestStep_X2_isWay rfl rfl rfl hd_X2_isWay ⟨Nat.le_of_ble_eq_true rfl, Nat.le_of_ble_eq_true rfl⟩) (xo_H (by decide)) rfl rfl rfl hl.1 (Nat.le_of_ble_eq_true rfl) dX9_bestStep_26 (fun r_11 hp_r_11 H locs hP hS => ?_)
          obtain ⟨hr_11, hzr_11⟩ := hp_r_11
          refine lv_if_eq (tgt := 36) hx hb dX9_bestStep_29 (by decide) (fun c_12 => ?_) (fun c_12 => ?_)
          · refine lv_iconst (v := 0) hx hb dX9_bestStep_36 (by decide) ?_
            refine lv_istore (lv' := [(4, .int 0), (0, .ref (X.2.1 16)), (1, .int x1_4), (2, .int x2_4), (3, .int x3_4)]) hx hb dX9_bestStep_37 hl (by decide) rfl (fun ls hl => ?_)
            refine lv_iload hx hb dX9_bestStep_39 (lv_at hl 0 rfl) ?_
            refine lv_if_eq (tgt := 64) hx hb dX9_bestStep_41 (by decide) (fun _ => ?_) (fun c => absurd c (by decide))
            refine lv_iinc (v := (x3_4 + 1)) (lv' := [(3, .int (x3_4 + 1)), (4, .int 0), (0, .ref (X.2.1 16)), (1, .int x1_4), (2, .int x2_4)]) hx hb dX9_bestStep_64 hl (k := 4) rfl rfl (by decide) rfl (fun ls hl => ?_)
            refine lv_goto (tgt := 4) hx hb dX9_bestStep_67 (by decide) ?_
            have he_13 : f_X9_bestStep_L4 (n + 1) S x1_4 x2_4 x3_4 = f_X9_bestStep_L4 n S x1_4 x2_4 (x3_4 + 1) := (by have hr_11 := hr_11.symm; subst hr_11; exact (iN c_1 (iN c_3 (ip c_12 rfl))))
            exact ih_4 x1_4 x2_4 (x3_4 + 1) (by have hr_11 := hr_11.symm; subst hr_11; exact (sp (sn (sn hs_4 c_1) c_3) c_12)) (fun q hq => hex_4 q (hq.trans he_13.symm)) _ _ hP hS ls (lv_sub hl [2, 3, 4, 0] rfl)
          · refine lv_iconst (v := 1) hx hb dX9_bestStep_32 (by decide) ?_
            refine lv_goto (tgt := 37) hx hb dX9_bestStep_33 (by decide) ?_
            refine lv_istore (lv' := [(4, .int 1), (0, .ref (X.2.1 16)), (1, .int x1_4), (2, .int x2_4), (3, .int x3_4)]) hx hb dX9_bestStep_37 hl (by decide) rfl (fun ls hl => ?_)
            refine lv_iload hx hb dX9_bestStep_39 (lv_at hl 0 rfl) ?_
            refine lv_if_eq (tgt := 64) hx hb dX9_bestStep_41 (by decide) (fun c => absurd c (by decide)) (fun _ => ?_)
            refine lv_iload_n hx hb dX9_bestStep_44 rfl (lv_at hl 3 rfl) ?_
            refine lv_iconst (v := (-1)) hx hb dX9_bestStep_45 (by decide) ?_
            refine lv_icmp_eq (tgt := 62) hx hb dX9_bestStep_46 (by decide) (fun c_14 => ?_) (fun c_14 => ?_)
            · refine lv_iload_n hx hb dX9_bestStep_62 rfl (lv_at hl 4 rfl) ?_
              refine lv_istore_n (lv' := [(2, .int x3_4), (4, .int 1), (0, .ref (X.2.1 16)), (1, .int x1_4), (3, .int x3_4)]) hx hb dX9_bestStep_63 rfl hl (by decide) rfl (fun ls hl => ?_)
              refine lv_iinc (v := (x3_4 + 1)) (lv' := [(3, .int (x3_4 + 1)), (2, .int x3_4), (4, .int 1), (0, .ref (X.2.1 16)), (1, .int x1_4)]) hx hb dX9_bestStep_64 hl (k := 4) rfl rfl (by decide) rfl (fun ls hl => ?_)
              refine lv_goto (tgt := 4) hx hb dX9_bestStep_67 (by decide) ?_
              have he_15 : f_X9_bestStep_L4 (n + 1) S x1_4 x2_4 x3_4 = f_X9_bestStep_L4 n S x1_4 x3_4 (x3_4 + 1) := (by have hr_11 := hr_11.symm; subst hr_11; exact (iN c_1 (iN c_3 (iN c_12 (ip c_14 rfl)))))
              exact ih_4 x1_4 x3_4 (x3_4 + 1) (by have hr_11 := hr_11.symm; subst hr_11; exact (sp (sn (sn (sn hs_4 c_1) c_3) c_12) c_14)) (fun q hq => hex_4 q (hq.trans he_15.symm)) _ _ hP hS ls (lv_sub hl [3, 4, 1, 0] rfl)
            · refine lv_aload_n hx hb dX9_bestStep_49 rfl (lv_at hl 1 rfl) ?_
              refine lv_iload_n hx hb dX9_bestStep_50 rfl (lv_at hl 4 rfl) ?_
              refine xcV_iR (b := 16) (As := [.int x3_4]) (rest := []) hC hP hS (k_X9_worthOf l X S x3_4) (cwV 1 hts gX9_bestStep_X9_worthOf rfl rfl rfl hd_X9_worthOf ⟨Nat.le_of_ble_eq_true rfl, Nat.le_of_ble_eq_true rfl⟩) xo_X9 rfl rfl rfl hl.1 (Nat.le_of_ble_eq_true rfl) dX9_bestStep_51 (fun r_16 hr_16 H locs hP hS => ?_)
              refine lv_aload_n hx hb dX9_bestStep_54 rfl (lv_at hl 1 rfl) ?_
              refine lv_iload_n hx hb dX9_bestStep_55 rfl (lv_at hl 3 rfl) ?_
              refine xcV_iR (b := 16) (As := [.int x2_4]) (rest := [.int r_16]) hC hP hS (k_X9_worthOf l X S x2_4) (cwV 1 hts gX9_bestStep_X9_worthOf rfl rfl rfl hd_X9_worthOf ⟨Nat.le_of_ble_eq_true rfl, Nat.le_of_ble_eq_true rfl⟩) xo_X9 rfl rfl rfl hl.1 (Nat.le_of_ble_eq_true rfl) dX9_bestStep_56 (fun r_17 hr_17 H locs hP hS => ?_)
              refine lv_icmp_le (tgt := 64) hx hb dX9_bestStep_59 (by decide) (fun c_18 => ?_) (fun c_18 => ?_)
              · refine lv_iinc (v := (x3_4 + 1)) (lv' := [(3, .int (x3_4 + 1)), (4, .int 1), (0, .ref (X.2.1 16)), (1, .int x1_4), (2, .int x2_4)]) hx hb dX9_bestStep_64 hl (k := 4) rfl rfl (by decide) rfl (fun ls hl => ?_)
                refine lv_goto (tgt := 4) hx hb dX9_bestStep_67 (by decide) ?_
                have he_19 : f_X9_bestStep_L4 (n + 1) S x1_4 x2_4 x3_4 = f_X9_bestStep_L4 n S x1_4 x2_4 (x3_4 + 1) := (by have hr_11 := hr_11.symm; have hr_16 := hr_16.symm; have hr_17 := hr_17.symm; subst hr_11 hr_16 hr_17; exact (iN c_1 (iN c_3 (iN c_12 (iN c_14 (ip c_18 rfl))))))
                exact ih_4 x1_4 x2_4 (x3_4 + 1) (by have hr_11 := hr_11.symm; have hr_16 := hr_16.symm; have hr_17 := hr_17.symm; subst hr_11 hr_16 hr_17; exact (sp (sn (sn (sn (sn hs_4 c_1) c_3) c_12) c_14) c_18)) (fun q hq => hex_4 q (hq.trans he_19.symm)) _ _ hP hS ls (lv_sub hl [2, 3, 4, 0] rfl)
              · refine lv_iload_n hx hb dX9_bestStep_62 rfl (lv_at hl 4 rfl) ?_
                refine lv_istore_n (lv' := [(2, .int x3_4), (4, .int 1), (0, .ref (X.2.1 16)), (1, .int x1_4), (3, .int x3_4)]) hx hb dX9_bestStep_63 rfl hl (by decide) rfl (fun ls hl => ?_)
                refine lv_iinc (v := (x3_4 + 1)) (lv' := [(3, .int (x3_4 + 1)), (2, .int x3_4), (4, .int 1), (0, .ref (X.2.1 16)), (1, .int x1_4)]) hx hb dX9_bestStep_64 hl (k := 4) rfl rfl (by decide) rfl (fun ls hl => ?_)
                refine lv_goto (tgt := 4) hx hb dX9_bestStep_67 (by decide) ?_
                have he_20 : f_X9_bestStep_L4 (n + 1) S x1_4 x2_4 x3_4 = f_X9_bestStep_L4 n S x1_4 x3_4 (x3_4 + 1) := (by have hr_11 := hr_11.symm; have hr_16 := hr_16.symm; have hr_17 := hr_17.symm; subst hr_11 hr_16 hr_17; exact (iN c_1 (iN c_3 (iN c_12 (iN c_14 (iN c_18 rfl))))))
                exact ih_4 x1_4 x3_4 (x3_4 + 1) (by have hr_11 := hr_11.symm; have hr_16 := hr_16.symm; have hr_17 := hr_17.symm; subst hr_11 hr_16 hr_17; exact (sn (sn (sn (sn (sn hs_4 c_1) c_3) c_12) c_14) c_18)) (fun q hq => hex_4 q (hq.trans he_20.symm)) _ _ hP hS ls (lv_sub hl [3, 4, 1, 0] rfl)
  refine hLp_4 ((fu 0 (S 9 5))) p0 (-1) 0 (nl hs) (fun q_4 hq_4 H locs hP hS ls hl => ?_) _ _ hP hS ls (lv_sub hl [2, 3, 1, 0] rfl)
  refine lv_iload_n hx hb dX9_bestStep_70 rfl (lv_at hl 0 rfl) ?_
  exact xret_iR hC hP hS hb hr ((by have hq_4 := hq_4.symm; subst hq_4; exact rfl)) dX9_bestStep_71 hlocks
