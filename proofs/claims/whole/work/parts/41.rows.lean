set_option linter.all false
/-! contracts: X11_hale, X11_note, X11_isSo, X11_thinks -/
theorem hd_X11_hale : yX11_hale.cls = RX11 ∧ yX11_hale.cls ≠ "java/lang/invoke/MethodHandle" ∧ yX11_hale.cls ≠ "java/lang/invoke/VarHandle" ∧ (parseMethodDescriptor yX11_hale.desc).map (fun d => d.parameters.length) = some 2 := by decide +kernel
set_option maxHeartbeats 4000000 in
set_option maxRecDepth 100000 in
theorem k_X11_hale (l : Launch) (X : xX) (S : xS) (p0 : Int32) (p1 : Int32) (hs : s_X11_hale S p0 p1) : Met l yX11_hale wsX11_hale ({ frames := 1, cells := 0, slots := 0, locals := 25 } : Room) (va_Pc [.ref (X.2.1 127), .int p0, .int p1] (xI X S)) (va_Qi (fun (r : Int32) (u : xS) => r = (f_X11_hale S p0 p1) ∧ u = S) (xI X) (xA X)) 0 0 (xA X) := by
  refine Met.ofW (cc := cX11_hale) (maxL := 6) (ret := (some .int)) (by decide +kernel) rfl ?_
  intro p e s m args below meth c s₁ B hml hv
  obtain ⟨rfl, hP, hK, hN, hJ⟩ := hv
  have hx := B.exec
  have hb := B.bytes
  have hr := B.returns
  have hts := atoms_spec (ws := wsX11_hale) B.pre
  have hown : s.vm.findClass RX11 = some m.cls := findClass_of_methodNamed B.named
  have hlocks := B.notSynchronized
  have hC : xC X p m c cX11_hale 6 s _ wsX11_hale RX11 := ⟨⟨hx, hb, hml, hown, hts⟩, hK, hN, hJ⟩
  have hS : va_S (xA X) s.heap s.heap [] := va_S.rf
  have hl := lv_entry ([.ref (X.2.1 127), .int p0, .int p1]) (n := 6) (Nat.le_of_ble_eq_true rfl)
  rw [lg_entry_eq]
  generalize (lg_sl ([.ref (X.2.1 127), .int p0, .int p1]) ++ List.replicate (6 - (lg_sl ([.ref (X.2.1 127), .int p0, .int p1])).length) Slot.unset).toArray = ls at hl ⊢
  have hl : lv_has ls 6 [(0, .ref (X.2.1 127)), (1, .int p0), (2, .int p1)] := hl
  refine lv_iload_n hx hb dX11_hale_0 rfl (lv_at hl 1 rfl) ?_
  refine lv_i2l (v := (p0 : Int32).toInt64) hx hb dX11_hale_1 rfl ?_
  refine lv_lconst (v := 0) hx hb dX11_hale_2 (by decide) ?_
  refine lv_ldc2 (v := 60) hx hb hown (hts (.constantLong RX11 237 (60)) (List.mem_of_getElem? (i := 1) rfl)) dX11_hale_3 ?_
  refine xcS_iR (As := [.long (p0 : Int32).toInt64, .long 0, .long 60]) (rest := []) hC hP hS (k_X11_in l X S (p0 : Int32).toInt64 0 60) (va_cwS 3 hts gX11_hale_X11_in rfl rfl rfl hs_X11_in ⟨Nat.le_of_ble_eq_true rfl, Nat.le_of_ble_eq_true rfl⟩) rfl rfl hl.1 (Nat.le_of_ble_eq_true rfl) dX11_hale_6 (fun r_1 hp_r_1 H locs hP hS => ?_)
  obtain ⟨hr_1, hzr_1⟩ := hp_r_1
  refine lv_if_eq (tgt := 24) hx hb dX11_hale_9 (by decide) (fun c_2 => ?_) (fun c_2 => ?_)
  · refine lv_ldc (v := (-1000000002)) hx hb hown (hts (.constant RX11 91 (-1000000002)) (List.mem_of_getElem? (i := 3) rfl)) dX11_hale_24 ?_
    exact xret_iR hC hP hS hb hr ((by have hr_1 := hr_1.symm; subst hr_1; exact (ip c_2 rfl))) dX11_hale_26 hlocks
  · refine lv_iload_n hx hb dX11_hale_12 rfl (lv_at hl 2 rfl) ?_
    refine lv_i2l (v := (p1 : Int32).toInt64) hx hb dX11_hale_13 rfl ?_
    refine lv_lconst (v := 0) hx hb dX11_hale_14 (by decide) ?_
    refine lv_ldc2 (v := 100) hx hb hown (hts (.constantLong RX11 268 (100)) (List.mem_of_getElem? (i := 2) rfl)) dX11_hale_15 ?_
    refine xcS_iR (As := [.long (p1 : Int32).toInt64, .long 0, .long 100]) (rest := []) hC hP hS (k_X11_in l X S (p1 : Int32).toInt64 0 100) (va_cwS 3 hts gX11_hale_X11_in rfl rfl rfl hs_X11_in ⟨Nat.le_of_ble_eq_true rfl, Nat.le_of_ble_eq_true rfl⟩) rfl rfl hl.1 (Nat.le_of_ble_eq_true rfl) dX11_hale_18 (fun r_3 hp_r_3 H locs hP hS => ?_)
    obtain ⟨hr_3, hzr_3⟩ := hp_r_3
    refine lv_if_ne (tgt := 27) hx hb dX11_hale_21 (by decide) (fun c_4 => ?_) (fun c_4 => ?_)
    · refine lv_ldc2 (v := 1000000000) hx hb hown (hts (.constantLong RX11 291 (1000000000)) (List.mem_of_getElem? (i := 4) rfl)) dX11_hale_27 ?_
      refine lv_lstore_n (lv' := [(3, .long 1000000000), (0, .ref (X.2.1 127)), (1, .int p0), (2, .int p1)]) hx hb dX11_hale_30 rfl hl (by decide) rfl (fun ls hl => ?_)
      refine lv_iconst (v := 0) hx hb dX11_hale_31 (by decide) ?_
      refine lv_istore (lv' := [(5, .int 0), (3, .long 1000000000), (0, .ref (X.2.1 127)), (1, .int p0), (2, .int p1)]) hx hb dX11_hale_32 hl (by decide) rfl (fun ls hl => ?_)
      have hLp_34 : ∀ (n : Nat) (x1_34 : Int32) (x2_34 : Int32) (x3_34 : Int64) (x5_34 : Int32), s_X11_hale_L34 n S x1_34 x2_34 x3_34 x5_34 → (∀ q : Int64, q = f_X11_hale_L34 n S x1_34 x2_34 x3_34 x5_34 → (∀ (H : Heap) (locs : List Loc), va_P X.1 vwCl (xW X S) H → va_S (xA X) s.heap H locs → ∀ (ls : Array Slot), lv_has ls 6 [(3, .long q)] → W p l e ({ frames := 1, cells := 0, slots := 0, locals := 25 } : Room) s m ([.ref (X.2.1 127), .int p0, .int p1] : List Value).toArray below meth c H locs 0 0 (MQ below (va_Qi (fun (r : Int32) (u : xS) => r = (f_X11_hale S p0 p1) ∧ u = S) (xI X) (xA X)) ([.ref (X.2.1 127), .int p0, .int p1] : List Value).toArray s 0 0 (xA X)) (F0 m 55 ls []))) → ∀ (H : Heap) (locs : List Loc), va_P X.1 vwCl (xW X S) H → va_S (xA X) s.heap H locs → ∀ (ls : Array Slot), lv_has ls 6 [(1, .int x1_34), (2, .int x2_34), (3, .long x3_34), (5, .int x5_34)] → W p l e ({ frames := 1, cells := 0, slots := 0, locals := 25 } : Room) s m ([.ref (X.2.1 127), .int p0, .int p1] : List Value).toArray below meth c H locs 0 0 (MQ below (va_Qi (fun (r : Int32) (u : xS) => r = (f_X11_hale S p0 p1) ∧ u = S) (xI X) (xA X)) ([.ref (X.2.1 127), .int p0, .int p1] : List Value).toArray s 0 0 (xA X)) (F0 m 34 ls []) := by
        intro n
        induction n with
        | zero => intro x1_34 x2_34 x3_34 x5_34 hs; exact hs.elim
        | succ n ih_34 =>
          intro x1_34 x2_34 x3_34 x5_34 hs_34 hex_34 H locs hP hS ls hl
          refine lv_iload hx hb dX11_hale_34 (lv_at hl 3 rfl) ?_
          refine lv_iload_n hx hb dX11_hale_36 rfl (lv_at hl 0 rfl) ?_
          refine lv_icmp_ge (tgt := 55) hx hb dX11_hale_37 (by decide) (fun c_5 => ?_) (fun c_5 => ?_)
          · have he_6 : f_X11_hale_L34 (n + 1) S x1_34 x2_34 x3_34 x5_34 = x3_34 := ((ip c_5 rfl))
            exact hex_34 _ he_6.symm _ _ hP hS ls (lv_sub hl [2] rfl)
          · refine lv_lload_n hx hb dX11_hale_40 rfl (lv_at hl 2 rfl) ?_
            refine lv_iload_n hx hb dX11_hale_41 rfl (lv_at hl 1 rfl) ?_
            refine lv_i2l (v := (x2_34 : Int32).toInt64) hx hb dX11_hale_42 rfl ?_
            refine lv_lmul hx hb dX11_hale_43 ?_
            refine lv_ldc2 (v := 100) hx hb hown (hts (.constantLong RX11 268 (100)) (List.mem_of_getElem? (i := 2) rfl)) dX11_hale_44 ?_
            refine lv_ldiv hx hb dX11_hale_47 (by decide) ?_
            refine lv_lstore_n (lv' := [(3, .long ((x3_34 * (x2_34 : Int32).toInt64) / 100)), (1, .int x1_34), (2, .int x2_34), (5, .int x5_34)]) hx hb dX11_hale_48 rfl hl (by decide) rfl (fun ls hl => ?_)
            refine lv_iinc (v := (x5_34 + 1)) (lv' := [(5, .int (x5_34 + 1)), (3, .long ((x3_34 * (x2_34 : Int32).toInt64) / 100)), (1, .int x1_34), (2, .int x2_34)]) hx hb dX11_hale_49 hl (k := 3) rfl rfl (by decide) rfl (fun ls hl => ?_)
            refine lv_goto (tgt := 34) hx hb dX11_hale_52 (by decide) ?_
            have he_7 : f_X11_hale_L34 (n + 1) S x1_34 x2_34 x3_34 x5_34 = f_X11_hale_L34 n S x1_34 x2_34 ((x3_34 * (x2_34 : Int32).toInt64) / 100) (x5_34 + 1) := ((iN c_5 rfl))
            exact ih_34 x1_34 x2_34 ((x3_34 * (x2_34 : Int32).toInt64) / 100) (x5_34 + 1) ((sn hs_34 c_5)) (fun q hq => hex_34 q (hq.trans he_7.symm)) _ _ hP hS ls (lv_sub hl [2, 3, 1, 0] rfl)
      refine hLp_34 ((fu 0 p0)) p0 p1 1000000000 0 (by have hr_1 := hr_1.symm; have hr_3 := hr_3.symm; subst hr_1 hr_3; exact nl (sn (sn hs c_2) c_4)) (fun q_34 hq_34 H locs hP hS ls hl => ?_) _ _ hP hS ls (lv_sub hl [3, 4, 1, 0] rfl)
      refine lv_lload_n hx hb dX11_hale_55 rfl (lv_at hl 0 rfl) ?_
      refine lv_l2i (v := (q_34).toInt32) hx hb dX11_hale_56 rfl ?_
      exact xret_iR hC hP hS hb hr ((by have hr_1 := hr_1.symm; have hr_3 := hr_3.symm; have hq_34 := hq_34.symm; subst hr_1 hr_3 hq_34; exact (iN c_2 (iN c_4 rfl)))) dX11_hale_57 hlocks
    · refine lv_ldc (v := (-1000000002)) hx hb hown (hts (.constant RX11 91 (-1000000002)) (List.mem_of_getElem? (i := 3) rfl)) dX11_hale_24 ?_
      exact xret_iR hC hP hS hb hr ((by have hr_1 := hr_1.symm; have hr_3 := hr_3.symm; subst hr_1 hr_3; exact (iN c_2 (ip c_4 rfl)))) dX11_hale_26 hlocks
theorem hd_X11_note : yX11_note.cls = RX11 ∧ yX11_note.cls ≠ "java/lang/invoke/MethodHandle" ∧ yX11_note.cls ≠ "java/lang/invoke/VarHandle" ∧ (parseMethodDescriptor yX11_note.desc).map (fun d => d.parameters.length) = some 3 := by decide +kernel
set_option maxHeartbeats 4000000 in
set_option maxRecDepth 100000 in
theorem k_X11_note (l : Launch) (X : xX) (S : xS) (p0 : Int32) (p1 : Int32) (p2 : Int32) (hs : s_X11_note S p0 p1 p2) : Met l yX11_note wsX11_note ({ frames := 1, cells := 0, slots := 0, locals := 25 } : Room) (va_Pc [.ref (X.2.1 127), .int p0, .int p1, .int p2] (xI X S)) (va_Qi (fun (r : Int32) (u : xS) => r = (f_X11_note S p0 p1 p2).1 ∧ u = (f_X11_note S p0 p1 p2).2) (xI X) (xA X)) 0 0 (xA X) := by
  refine Met.ofW (cc := cX11_note) (maxL := 4) (ret := (some .int)) (by decide +kernel) rfl ?_
  intro p e s m args below meth c s₁ B hml hv
  obtain ⟨rfl, hP, hK, hN, hJ⟩ := hv
  have hx := B.exec
  have hb := B.bytes
  have hr := B.returns
  have hts := atoms_spec (ws := wsX11_note) B.pre
  have hown : s.vm.findClass RX11 = some m.cls := findClass_of_methodNamed B.named
  have hlocks := B.notSynchronized
  have hC : xC X p m c cX11_note 4 s _ wsX11_note RX11 := ⟨⟨hx, hb, hml, hown, hts⟩, hK, hN, hJ⟩
  have hS : va_S (xA X) s.heap s.heap [] := va_S.rf
  have hin_X11 : ∀ w ∈ u_ws RX11 TX11 41, w ∈ wsX11_note := by decide +kernel
  have hl := lv_entry ([.ref (X.2.1 127), .int p0, .int p1, .int p2]) (n := 4) (Nat.le_of_ble_eq_true rfl)
  rw [lg_entry_eq]
  generalize (lg_sl ([.ref (X.2.1 127), .int p0, .int p1, .int p2]) ++ List.replicate (4 - (lg_sl ([.ref (X.2.1 127), .int p0, .int p1, .int p2])).length) Slot.unset).toArray = ls at hl ⊢
  have hl : lv_has ls 4 [(0, .ref (X.2.1 127)), (1, .int p0), (2, .int p1), (3, .int p2)] := hl
  refine lv_iload_n hx hb dX11_note_0 rfl (lv_at hl 1 rfl) ?_
  refine lv_i2l (v := (p0 : Int32).toInt64) hx hb dX11_note_1 rfl ?_
  refine lv_lconst (v := 0) hx hb dX11_note_2 (by decide) ?_
  refine lv_ldc2 (v := 2) hx hb hown (hts (.constantLong RX11 293 (2)) (List.mem_of_getElem? (i := 1) rfl)) dX11_note_3 ?_
  refine xcS_iR (As := [.long (p0 : Int32).toInt64, .long 0, .long 2]) (rest := []) hC hP hS (k_X11_in l X S (p0 : Int32).toInt64 0 2) (va_cwS 3 hts gX11_note_X11_in rfl rfl rfl hs_X11_in ⟨Nat.le_of_ble_eq_true rfl, Nat.le_of_ble_eq_true rfl⟩) rfl rfl hl.1 (Nat.le_of_ble_eq_true rfl) dX11_note_6 (fun r_1 hp_r_1 H locs hP hS => ?_)
  obtain ⟨hr_1, hzr_1⟩ := hp_r_1
  refine lv_if_eq (tgt := 26) hx hb dX11_note_9 (by decide) (fun c_2 => ?_) (fun c_2 => ?_)
  · refine lv_ldc (v := (-1000000002)) hx hb hown (hts (.constant RX11 91 (-1000000002)) (List.mem_of_getElem? (i := 4) rfl)) dX11_note_26 ?_
    exact xret_iW hC hP hS hb hr (by simp only [f_X11_note, ← hr_1, if_pos c_2]) dX11_note_28 hlocks
  · refine lv_iload_n hx hb dX11_note_12 rfl (lv_at hl 2 rfl) ?_
    refine lv_i2l (v := (p1 : Int32).toInt64) hx hb dX11_note_13 rfl ?_
    refine lv_ldc2 (v := (-9)) hx hb hown (hts (.constantLong RX11 295 (-9)) (List.mem_of_getElem? (i := 2) rfl)) dX11_note_14 ?_
    refine lv_ldc2 (v := 9) hx hb hown (hts (.constantLong RX11 250 (9)) (List.mem_of_getElem? (i := 3) rfl)) dX11_note_17 ?_
    refine xcS_iR (As := [.long (p1 : Int32).toInt64, .long (-9), .long 9]) (rest := []) hC hP hS (k_X11_in l X S (p1 : Int32).toInt64 (-9) 9) (va_cwS 3 hts gX11_note_X11_in rfl rfl rfl hs_X11_in ⟨Nat.le_of_ble_eq_true rfl, Nat.le_of_ble_eq_true rfl⟩) rfl rfl hl.1 (Nat.le_of_ble_eq_true rfl) dX11_note_20 (fun r_3 hp_r_3 H locs hP hS => ?_)
    obtain ⟨hr_3, hzr_3⟩ := hp_r_3
    refine lv_if_ne (tgt := 29) hx hb dX11_note_23 (by decide) (fun c_4 => ?_) (fun c_4 => ?_)
    · refine lv_aload_n hx hb dX11_note_29 rfl (lv_at hl 0 rfl) ?_
      refine xget (ref := "AbsentPraiseModel") (T := TX11) (v := .int (S 127 11)) hC hP hin_X11 xo_X11 rfl 11 (by decide) (List.mem_of_getElem? (i := 5) rfl) rfl rfl dX11_note_30 ?_
      refine lv_bipush (v := 6) hx hb dX11_note_33 (by decide) ?_
      refine lv_icmp_ne (tgt := 41) hx hb dX11_note_35 (by decide) (fun c_5 => ?_) (fun c_5 => ?_)
      · refine lv_aload_n hx hb dX11_note_41 rfl (lv_at hl 0 rfl) ?_
        refine xget (ref := "AbsentPraiseModel") (T := TX11) (v := .ref (X.2.1 133)) hC hP hin_X11 xo_X11 rfl 12 (by decide) (List.mem_of_getElem? (i := 7) rfl) rfl rfl dX11_note_42 ?_
        refine lv_aload_n hx hb dX11_note_45 rfl (lv_at hl 0 rfl) ?_
        refine xget (ref := "AbsentPraiseModel") (T := TX11) (v := .int (S 127 11)) hC hP hin_X11 xo_X11 rfl 11 (by decide) (List.mem_of_getElem? (i := 5) rfl) rfl rfl dX11_note_46 ?_
        refine lv_iload_n hx hb dX11_note_49 rfl (lv_at hl 1 rfl) ?_
        have hn_6 : vp_in (S 127 11) 6 := (by have hr_1 := hr_1.symm; have hr_3 := hr_3.symm; subst hr_1 hr_3; exact nl (sn (sn (sn hs c_2) c_4) c_5))
        refine xiast hC hP hS rfl hn_6 dX11_note_50 (fun S_7 hS_7 H locs hP hS => ?_)
        refine lv_aload_n hx hb dX11_note_51 rfl (lv_at hl 0 rfl) ?_
        refine xget (ref := "AbsentPraiseModel") (T := TX11) (v := .ref (X.2.1 134)) hC hP hin_X11 xo_X11 rfl 13 (by decide) (List.mem_of_getElem? (i := 8) rfl) rfl rfl dX11_note_52 ?_
        refine lv_aload_n hx hb dX11_note_55 rfl (lv_at hl 0 rfl) ?_
        refine xget (ref := "AbsentPraiseModel") (T := TX11) (v := .int (S_7 127 11)) hC hP hin_X11 xo_X11 rfl 11 (by decide) (List.mem_of_getElem? (i := 5) rfl) rfl rfl dX11_note_56 ?_
        refine lv_iload_n hx hb dX11_note_59 rfl (lv_at hl 2 rfl) ?_
        have hn_8 : vp_in (S_7 127 11) 6 := (by have hr_1 := hr_1.symm; have hr_3 := hr_3.symm; have hS_7 := hS_7.symm; subst hr_1 hr_3 hS_7; exact nl (nr (sn (sn (sn hs c_2) c_4) c_5)))
        refine xiast hC hP hS rfl hn_8 dX11_note_60 (fun S_9 hS_9 H locs hP hS => ?_)
        refine lv_aload_n hx hb dX11_note_61 rfl (lv_at hl 0 rfl) ?_
        refine xget (ref := "AbsentPraiseModel") (T := TX11) (v := .ref (X.2.1 135)) hC hP hin_X11 xo_X11 rfl 14 (by decide) (List.mem_of_getElem? (i := 9) rfl) rfl rfl dX11_note_62 ?_
        refine lv_aload_n hx hb dX11_note_65 rfl (lv_at hl 0 rfl) ?_
        refine xget (ref := "AbsentPraiseModel") (T := TX11) (v := .int (S_9 127 11)) hC hP hin_X11 xo_X11 rfl 11 (by decide) (List.mem_of_getElem? (i := 5) rfl) rfl rfl dX11_note_66 ?_
        refine lv_iload_n hx hb dX11_note_69 rfl (lv_at hl 3 rfl) ?_
        refine lv_if_eq (tgt := 77) hx hb dX11_note_70 (by decide) (fun c_10 => ?_) (fun c_10 => ?_)
        · refine lv_iconst (v := 0) hx hb dX11_note_77 (by decide) ?_
          have hn_11 : vp_in (S_9 127 11) 6 := (by have hr_1 := hr_1.symm; have hr_3 := hr_3.symm; have hS_7 := hS_7.symm; have hS_9 := hS_9.symm; subst hr_1 hr_3 hS_7 hS_9; exact nl (sp (nr (nr (sn (sn (sn hs c_2) c_4) c_5))) c_10))
          refine xiast hC hP hS rfl hn_11 dX11_note_78 (fun S_12 hS_12 H locs hP hS => ?_)
          refine lv_aload_n hx hb dX11_note_79 rfl (lv_at hl 0 rfl) ?_
          refine lv_dup hx hb dX11_note_80 rfl ?_
          refine xget (ref := "AbsentPraiseModel") (T := TX11) (v := .int (S_12 127 11)) hC hP hin_X11 xo_X11 rfl 11 (by decide) (List.mem_of_getElem? (i := 5) rfl) rfl rfl dX11_note_81 ?_
          refine lv_iconst (v := 1) hx hb dX11_note_84 (by decide) ?_
          refine lv_iadd hx hb dX11_note_85 ?_
          refine xput (ref := "AbsentPraiseModel") (T := TX11) (ty := .int) hC hP hS (by decide) hin_X11 tyX11 tyX11_ok nmX11 xo_X11 rfl 11 (by decide) (List.mem_of_getElem? (i := 5) rfl) rfl rfl rfl rfl rfl (Nat.le_of_ble_eq_true rfl) dX11_note_86 rfl (fun S_13 hS_13 H locs hP hS => ?_)
          refine lv_aload_n hx hb dX11_note_89 rfl (lv_at hl 0 rfl) ?_
          refine xget (ref := "AbsentPraiseModel") (T := TX11) (v := .int (S_13 127 11)) hC hP hin_X11 xo_X11 rfl 11 (by decide) (List.mem_of_getElem? (i := 5) rfl) rfl rfl dX11_note_90 ?_
          exact xret_iW hC hP hS hb hr (by simp only [f_X11_note, ← hr_1, ← hr_3, ← hS_7, ← hS_9, ← hS_12, ← hS_13, if_neg c_2, if_neg c_4, if_neg c_5, if_pos c_10]) dX11_note_93 hlocks
        · refine lv_iconst (v := 1) hx hb dX11_note_73 (by decide) ?_
          refine lv_goto (tgt := 78) hx hb dX11_note_74 (by decide) ?_
          have hn_14 : vp_in (S_9 127 11) 6 := (by have hr_1 := hr_1.symm; have hr_3 := hr_3.symm; have hS_7 := hS_7.symm; have hS_9 := hS_9.symm; subst hr_1 hr_3 hS_7 hS_9; exact nl (sn (nr (nr (sn (sn (sn hs c_2) c_4) c_5))) c_10))
          refine xiast hC hP hS rfl hn_14 dX11_note_78 (fun S_15 hS_15 H locs hP hS => ?_)
          refine lv_aload_n hx hb dX11_note_79 rfl (lv_at hl 0 rfl) ?_
          refine lv_dup hx hb dX11_note_80 rfl ?_
          refine xget (ref := "AbsentPraiseModel") (T := TX11) (v := .int (S_15 127 11)) hC hP hin_X11 xo_X11 rfl 11 (by decide) (List.mem_of_getElem? (i := 5) rfl) rfl rfl dX11_note_81 ?_
          refine lv_iconst (v := 1) hx hb dX11_note_84 (by decide) ?_
          refine lv_iadd hx hb dX11_note_85 ?_
          refine xput (ref := "AbsentPraiseModel") (T := TX11) (ty := .int) hC hP hS (by decide) hin_X11 tyX11 tyX11_ok nmX11 xo_X11 rfl 11 (by decide) (List.mem_of_getElem? (i := 5) rfl) rfl rfl rfl rfl rfl (Nat.le_of_ble_eq_true rfl) dX11_note_86 rfl (fun S_16 hS_16 H locs hP hS => ?_)
          refine lv_aload_n hx hb dX11_note_89 rfl (lv_at hl 0 rfl) ?_
          refine xget (ref := "AbsentPraiseModel") (T := TX11) (v := .int (S_16 127 11)) hC hP hin_X11 xo_X11 rfl 11 (by decide) (List.mem_of_getElem? (i := 5) rfl) rfl rfl dX11_note_90 ?_
          exact xret_iW hC hP hS hb hr (by simp only [f_X11_note, ← hr_1, ← hr_3, ← hS_7, ← hS_9, ← hS_15, ← hS_16, if_neg c_2, if_neg c_4, if_neg c_5, if_neg c_10]) dX11_note_93 hlocks
      · refine lv_ldc (v := (-1000000004)) hx hb hown (hts (.constant RX11 95 (-1000000004)) (List.mem_of_getElem? (i := 6) rfl)) dX11_note_38 ?_
        exact xret_iW hC hP hS hb hr (by simp only [f_X11_note, ← hr_1, ← hr_3, if_neg c_2, if_neg c_4, if_pos c_5]) dX11_note_40 hlocks
    · refine lv_ldc (v := (-1000000002)) hx hb hown (hts (.constant RX11 91 (-1000000002)) (List.mem_of_getElem? (i := 4) rfl)) dX11_note_26 ?_
      exact xret_iW hC hP hS hb hr (by simp only [f_X11_note, ← hr_1, ← hr_3, if_neg c_2, if_pos c_4]) dX11_note_28 hlocks
theorem hd_X11_isSo : yX11_isSo.cls = RX11 ∧ yX11_isSo.cls ≠ "java/lang/invoke/MethodHandle" ∧ yX11_isSo.cls ≠ "java/lang/invoke/VarHandle" ∧ (parseMethodDescriptor yX11_isSo.desc).map (fun d => d.parameters.length) = some 1 := by decide +kernel
set_option maxHeartbeats 4000000 in
set_option maxRecDepth 100000 in
theorem k_X11_isSo (l : Launch) (X : xX) (S : xS) (p0 : Int32) (hs : s_X11_isSo S p0) : Met l yX11_isSo wsX11_isSo ({ frames := 1, cells := 0, slots := 0, locals := 23 } : Room) (va_Pc [.ref (X.2.1 127), .int p0] (xI X S)) (va_Qi (fun (r : Int32) (u : xS) => (r = (f_X11_isSo S p0) ∧ (r = 0 ∨ r = 1)) ∧ u = S) (xI X) (xA X)) 0 0 (xA X) := by
  refine Met.ofW (cc := cX11_isSo) (maxL := 4) (ret := (some .boolean)) (by decide +kernel) rfl ?_
  intro p e s m args below meth c s₁ B hml hv
  obtain ⟨rfl, hP, hK, hN, hJ⟩ := hv
  have hx := B.exec
  have hb := B.bytes
  have hr := B.returns
  have hts := atoms_spec (ws := wsX11_isSo) B.pre
  have hown : s.vm.findClass RX11 = some m.cls := findClass_of_methodNamed B.named
  have hlocks := B.notSynchronized
  have hC : xC X p m c cX11_isSo 4 s _ wsX11_isSo RX11 := ⟨⟨hx, hb, hml, hown, hts⟩, hK, hN, hJ⟩
  have hS : va_S (xA X) s.heap s.heap [] := va_S.rf
  have hin_X11 : ∀ w ∈ u_ws RX11 TX11 41, w ∈ wsX11_isSo := by decide +kernel
  have hl := lv_entry ([.ref (X.2.1 127), .int p0]) (n := 4) (Nat.le_of_ble_eq_true rfl)
  rw [lg_entry_eq]
  generalize (lg_sl ([.ref (X.2.1 127), .int p0]) ++ List.replicate (4 - (lg_sl ([.ref (X.2.1 127), .int p0])).length) Slot.unset).toArray = ls at hl ⊢
  have hl : lv_has ls 4 [(0, .ref (X.2.1 127)), (1, .int p0)] := hl
  refine lv_iconst (v := 1) hx hb dX11_isSo_0 (by decide) ?_
  refine lv_istore_n (lv' := [(2, .int 1), (0, .ref (X.2.1 127)), (1, .int p0)]) hx hb dX11_isSo_1 rfl hl (by decide) rfl (fun ls hl => ?_)
  refine lv_iconst (v := 0) hx hb dX11_isSo_2 (by decide) ?_
  refine lv_istore_n (lv' := [(3, .int 0), (2, .int 1), (0, .ref (X.2.1 127)), (1, .int p0)]) hx hb dX11_isSo_3 rfl hl (by decide) rfl (fun ls hl => ?_)
  have hLp_4 : ∀ (n : Nat) (x1_4 : Int32) (x2_4 : Int32) (x3_4 : Int32), s_X11_isSo_L4 n S x1_4 x2_4 x3_4 → (∀ q : Int32, q = f_X11_isSo_L4 n S x1_4 x2_4 x3_4 → (∀ (H : Heap) (locs : List Loc), va_P X.1 vwCl (xW X S) H → va_S (xA X) s.heap H locs → ∀ (ls : Array Slot), lv_has ls 4 [(2, .int q)] → W p l e ({ frames := 1, cells := 0, slots := 0, locals := 23 } : Room) s m ([.ref (X.2.1 127), .int p0] : List Value).toArray below meth c H locs 0 0 (MQ below (va_Qi (fun (r : Int32) (u : xS) => (r = (f_X11_isSo S p0) ∧ (r = 0 ∨ r = 1)) ∧ u = S) (xI X) (xA X)) ([.ref (X.2.1 127), .int p0] : List Value).toArray s 0 0 (xA X)) (F0 m 62 ls []))) → ∀ (H : Heap) (locs : List Loc), va_P X.1 vwCl (xW X S) H → va_S (xA X) s.heap H locs → ∀ (ls : Array Slot), lv_has ls 4 [(0, .ref (X.2.1 127)), (1, .int x1_4), (2, .int x2_4), (3, .int x3_4)] → W p l e ({ frames := 1, cells := 0, slots := 0, locals := 23 } : Room) s m ([.ref (X.2.1 127), .int p0] : List Value).toArray below meth c H locs 0 0 (MQ below (va_Qi (fun (r : Int32) (u : xS) => (r = (f_X11_isSo S p0) ∧ (r = 0 ∨ r = 1)) ∧ u = S) (xI X) (xA X)) ([.ref (X.2.1 127), .int p0] : List Value).toArray s 0 0 (xA X)) (F0 m 4 ls []) := by
    intro n
    induction n with
    | zero => intro x1_4 x2_4 x3_4 hs; exact hs.elim
    | succ n ih_4 =>
      intro x1_4 x2_4 x3_4 hs_4 hex_4 H locs hP hS ls hl
      refine lv_iload_n hx hb dX11_isSo_4 rfl (lv_at hl 3 rfl) ?_
      refine lv_aload_n hx hb dX11_isSo_5 rfl (lv_at hl 0 rfl) ?_
      refine xget (ref := "AbsentPraiseModel") (T := TX11) (v := .int (S 127 11)) hC hP hin_X11 xo_X11 rfl 11 (by decide) (List.mem_of_getElem? (i := 1) rfl) rfl rfl dX11_isSo_6 ?_
      refine lv_icmp_ge (tgt := 62) hx hb dX11_isSo_9 (by decide) (fun c_1 => ?_) (fun c_1 => ?_)
      · have he_2 : f_X11_isSo_L4 (n + 1) S x1_4 x2_4 x3_4 = x2_4 := ((ip c_1 rfl))
        exact hex_4 _ he_2.symm _ _ hP hS ls (lv_sub hl [2] rfl)
      · refine lv_iload_n hx hb dX11_isSo_12 rfl (lv_at hl 2 rfl) ?_
        refine lv_if_eq (tgt := 54) hx hb dX11_isSo_13 (by decide) (fun c_3 => ?_) (fun c_3 => ?_)
        · refine lv_iconst (v := 0) hx hb dX11_isSo_54 (by decide) ?_
          refine lv_istore_n (lv' := [(2, .int 0), (0, .ref (X.2.1 127)), (1, .int x1_4), (3, .int x3_4)]) hx hb dX11_isSo_55 rfl hl (by decide) rfl (fun ls hl => ?_)
          refine lv_iinc (v := (x3_4 + 1)) (lv' := [(3, .int (x3_4 + 1)), (2, .int 0), (0, .ref (X.2.1 127)), (1, .int x1_4)]) hx hb dX11_isSo_56 hl (k := 3) rfl rfl (by decide) rfl (fun ls hl => ?_)
          refine lv_goto (tgt := 4) hx hb dX11_isSo_59 (by decide) ?_
          have he_4 : f_X11_isSo_L4 (n + 1) S x1_4 x2_4 x3_4 = f_X11_isSo_L4 n S x1_4 0 (x3_4 + 1) := ((iN c_1 (ip c_3 rfl)))
          exact ih_4 x1_4 0 (x3_4 + 1) ((sp (sn hs_4 c_1) c_3)) (fun q hq => hex_4 q (hq.trans he_4.symm)) _ _ hP hS ls (lv_sub hl [2, 3, 1, 0] rfl)
        · refine lv_aload_n hx hb dX11_isSo_16 rfl (lv_at hl 0 rfl) ?_
          refine xget (ref := "AbsentPraiseModel") (T := TX11) (v := .ref (X.2.1 133)) hC hP hin_X11 xo_X11 rfl 12 (by decide) (List.mem_of_getElem? (i := 2) rfl) rfl rfl dX11_isSo_17 ?_
          refine lv_iload_n hx hb dX11_isSo_20 rfl (lv_at hl 3 rfl) ?_
          have hn_5 : vp_in x3_4 6 := (nl (sn (sn hs_4 c_1) c_3))
          refine xiald hC hP rfl hn_5 dX11_isSo_21 ?_
          refine lv_iload_n hx hb dX11_isSo_22 rfl (lv_at hl 1 rfl) ?_
          refine lv_aload_n hx hb dX11_isSo_23 rfl (lv_at hl 0 rfl) ?_
          refine xget (ref := "AbsentPraiseModel") (T := TX11) (v := .ref (X.2.1 135)) hC hP hin_X11 xo_X11 rfl 14 (by decide) (List.mem_of_getElem? (i := 3) rfl) rfl rfl dX11_isSo_24 ?_
          refine lv_iload_n hx hb dX11_isSo_27 rfl (lv_at hl 3 rfl) ?_
          refine xiald hC hP rfl hn_5 dX11_isSo_28 ?_
          refine lv_iconst (v := 1) hx hb dX11_isSo_29 (by decide) ?_
          refine lv_icmp_ne (tgt := 37) hx hb dX11_isSo_30 (by decide) (fun c_6 => ?_) (fun c_6 => ?_)
          · refine lv_iconst (v := 0) hx hb dX11_isSo_37 (by decide) ?_
            refine xcS_iR (As := [.int (S 133 (x3_4).toNatClampNeg), .int x1_4, .int 0]) (rest := []) hC hP hS (k_X11_sayBy l X S (S 133 (x3_4).toNatClampNeg) x1_4 0) (va_cwS 3 hts gX11_isSo_X11_sayBy rfl rfl rfl hs_X11_sayBy ⟨Nat.le_of_ble_eq_true rfl, Nat.le_of_ble_eq_true rfl⟩) rfl rfl hl.1 (Nat.le_of_ble_eq_true rfl) dX11_isSo_38 (fun r_7 hr_7 H locs hP hS => ?_)
            refine lv_aload_n hx hb dX11_isSo_41 rfl (lv_at hl 0 rfl) ?_
            refine xget (ref := "AbsentPraiseModel") (T := TX11) (v := .ref (X.2.1 134)) hC hP hin_X11 xo_X11 rfl 13 (by decide) (List.mem_of_getElem? (i := 4) rfl) rfl rfl dX11_isSo_42 ?_
            refine lv_iload_n hx hb dX11_isSo_45 rfl (lv_at hl 3 rfl) ?_
            refine xiald hC hP rfl hn_5 dX11_isSo_46 ?_
            refine lv_icmp_ne (tgt := 54) hx hb dX11_isSo_47 (by decide) (fun c_8 => ?_) (fun c_8 => ?_)
            · refine lv_iconst (v := 0) hx hb dX11_isSo_54 (by decide) ?_
              refine lv_istore_n (lv' := [(2, .int 0), (0, .ref (X.2.1 127)), (1, .int x1_4), (3, .int x3_4)]) hx hb dX11_isSo_55 rfl hl (by decide) rfl (fun ls hl => ?_)
              refine lv_iinc (v := (x3_4 + 1)) (lv' := [(3, .int (x3_4 + 1)), (2, .int 0), (0, .ref (X.2.1 127)), (1, .int x1_4)]) hx hb dX11_isSo_56 hl (k := 3) rfl rfl (by decide) rfl (fun ls hl => ?_)
              refine lv_goto (tgt := 4) hx hb dX11_isSo_59 (by decide) ?_
              have he_9 : f_X11_isSo_L4 (n + 1) S x1_4 x2_4 x3_4 = f_X11_isSo_L4 n S x1_4 0 (x3_4 + 1) := (by have hr_7 := hr_7.symm; subst hr_7; exact (iN c_1 (iN c_3 (iN c_6 (iN c_8 rfl)))))
              exact ih_4 x1_4 0 (x3_4 + 1) (by have hr_7 := hr_7.symm; subst hr_7; exact (sn (sn (nr (sn (sn hs_4 c_1) c_3)) c_6) c_8)) (fun q hq => hex_4 q (hq.trans he_9.symm)) _ _ hP hS ls (lv_sub hl [2, 3, 1, 0] rfl)
            · refine lv_iconst (v := 1) hx hb dX11_isSo_50 (by decide) ?_
              refine lv_goto (tgt := 55) hx hb dX11_isSo_51 (by decide) ?_
              refine lv_istore_n (lv' := [(2, .int 1), (0, .ref (X.2.1 127)), (1, .int x1_4), (3, .int x3_4)]) hx hb dX11_isSo_55 rfl hl (by decide) rfl (fun ls hl => ?_)
              refine lv_iinc (v := (x3_4 + 1)) (lv' := [(3, .int (x3_4 + 1)), (2, .int 1), (0, .ref (X.2.1 127)), (1, .int x1_4)]) hx hb dX11_isSo_56 hl (k := 3) rfl rfl (by decide) rfl (fun ls hl => ?_)
              refine lv_goto (tgt := 4) hx hb dX11_isSo_59 (by decide) ?_
              have he_10 : f_X11_isSo_L4 (n + 1) S x1_4 x2_4 x3_4 = f_X11_isSo_L4 n S x1_4 1 (x3_4 + 1) := (by have hr_7 := hr_7.symm; subst hr_7; exact (iN c_1 (iN c_3 (iN c_6 (ip c_8 rfl)))))
              exact ih_4 x1_4 1 (x3_4 + 1) (by have hr_7 := hr_7.symm; subst hr_7; exact (sp (sn (nr (sn (sn hs_4 c_1) c_3)) c_6) c_8)) (fun q hq => hex_4 q (hq.trans he_10.symm)) _ _ hP hS ls (lv_sub hl [2, 3, 1, 0] rfl)
          · refine lv_iconst (v := 1) hx hb dX11_isSo_33 (by decide) ?_
            refine lv_goto (tgt := 38) hx hb dX11_isSo_34 (by decide) ?_
            refine xcS_iR (As := [.int (S 133 (x3_4).toNatClampNeg), .int x1_4, .int 1]) (rest := []) hC hP hS (k_X11_sayBy l X S (S 133 (x3_4).toNatClampNeg) x1_4 1) (va_cwS 3 hts gX11_isSo_X11_sayBy rfl rfl rfl hs_X11_sayBy ⟨Nat.le_of_ble_eq_true rfl, Nat.le_of_ble_eq_true rfl⟩) rfl rfl hl.1 (Nat.le_of_ble_eq_true rfl) dX11_isSo_38 (fun r_11 hr_11 H locs hP hS => ?_)
            refine lv_aload_n hx hb dX11_isSo_41 rfl (lv_at hl 0 rfl) ?_
            refine xget (ref := "AbsentPraiseModel") (T := TX11) (v := .ref (X.2.1 134)) hC hP hin_X11 xo_X11 rfl 13 (by decide) (List.mem_of_getElem? (i := 4) rfl) rfl rfl dX11_isSo_42 ?_
            refine lv_iload_n hx hb dX11_isSo_45 rfl (lv_at hl 3 rfl) ?_
            refine xiald hC hP rfl hn_5 dX11_isSo_46 ?_
            refine lv_icmp_ne (tgt := 54) hx hb dX11_isSo_47 (by decide) (fun c_12 => ?_) (fun c_12 => ?_)
            · refine lv_iconst (v := 0) hx hb dX11_isSo_54 (by decide) ?_
              refine lv_istore_n (lv' := [(2, .int 0), (0, .ref (X.2.1 127)), (1, .int x1_4), (3, .int x3_4)]) hx hb dX11_isSo_55 rfl hl (by decide) rfl (fun ls hl => ?_)
              refine lv_iinc (v := (x3_4 + 1)) (lv' := [(3, .int (x3_4 + 1)), (2, .int 0), (0, .ref (X.2.1 127)), (1, .int x1_4)]) hx hb dX11_isSo_56 hl (k := 3) rfl rfl (by decide) rfl (fun ls hl => ?_)
              refine lv_goto (tgt := 4) hx hb dX11_isSo_59 (by decide) ?_
              have he_13 : f_X11_isSo_L4 (n + 1) S x1_4 x2_4 x3_4 = f_X11_isSo_L4 n S x1_4 0 (x3_4 + 1) := (by have hr_11 := hr_11.symm; subst hr_11; exact (iN c_1 (iN c_3 (ip c_6 (iN c_12 rfl)))))
              exact ih_4 x1_4 0 (x3_4 + 1) (by have hr_11 := hr_11.symm; subst hr_11; exact (sn (sp (nr (sn (sn hs_4 c_1) c_3)) c_6) c_12)) (fun q hq => hex_4 q (hq.trans he_13.symm)) _ _ hP hS ls (lv_sub hl [2, 3, 1, 0] rfl)
            · refine lv_iconst (v := 1) hx hb dX11_isSo_50 (by decide) ?_
              refine lv_goto (tgt := 55) hx hb dX11_isSo_51 (by decide) ?_
              refine lv_istore_n (lv' := [(2, .int 1), (0, .ref (X.2.1 127)), (1, .int x1_4), (3, .int x3_4)]) hx hb dX11_isSo_55 rfl hl (by decide) rfl (fun ls hl => ?_)
              refine lv_iinc (v := (x3_4 + 1)) (lv' := [(3, .int (x3_4 + 1)), (2, .int 1), (0, .ref (X.2.1 127)), (1, .int x1_4)]) hx hb dX11_isSo_56 hl (k := 3) rfl rfl (by decide) rfl (fun ls hl => ?_)
              refine lv_goto (tgt := 4) hx hb dX11_isSo_59 (by decide) ?_
              have he_14 : f_X11_isSo_L4 (n + 1) S x1_4 x2_4 x3_4 = f_X11_isSo_L4 n S x1_4 1 (x3_4 + 1) := (by have hr_11 := hr_11.symm; subst hr_11; exact (iN c_1 (iN c_3 (ip c_6 (ip c_12 rfl)))))
              exact ih_4 x1_4 1 (x3_4 + 1) (by have hr_11 := hr_11.symm; subst hr_11; exact (sp (sp (nr (sn (sn hs_4 c_1) c_3)) c_6) c_12)) (fun q hq => hex_4 q (hq.trans he_14.symm)) _ _ hP hS ls (lv_sub hl [2, 3, 1, 0] rfl)
  refine hLp_4 ((fu 0 (S 127 11))) p0 1 0 (nl hs) (fun q_4 hq_4 H locs hP hS ls hl => ?_) _ _ hP hS ls (lv_sub hl [2, 3, 1, 0] rfl)
  refine lv_iload_n hx hb dX11_isSo_62 rfl (lv_at hl 0 rfl) ?_
  have hn_15 : q_4 = 0 ∨ q_4 = 1 := (by have hq_4 := hq_4.symm; subst hq_4; exact nl (nr hs))
  exact xret_zR hC hP hS hb hr hn_15 ((by have hq_4 := hq_4.symm; subst hq_4; exact rfl)) dX11_isSo_63 hlocks
theorem hd_X11_thinks : yX11_thinks.cls = RX11 ∧ yX11_thinks.cls ≠ "java/lang/invoke/MethodHandle" ∧ yX11_thinks.cls ≠ "java/lang/invoke/VarHandle" ∧ (parseMethodDescriptor yX11_thinks.desc).map (fun d => d.parameters.length) = some 1 := by decide +kernel
set_option maxHeartbeats 4000000 in
set_option maxRecDepth 100000 in
theorem k_X11_thinks (l : Launch) (X : xX) (S : xS) (p0 : Int32) (hs : s_X11_thinks S p0) : Met l yX11_thinks wsX11_thinks ({ frames := 2, cells := 0, slots := 0, locals := 46 } : Room) (va_Pc [.ref (X.2.1 127), .int p0] (xI X S)) (va_Qi (fun (r : Int32) (u : xS) => r = (f_X11_thinks S p0) ∧ u = S) (xI X) (xA X)) 0 0 (xA X) := by
  refine Met.ofW (cc := cX11_thinks) (maxL := 6) (ret := (some .int)) (by decide +kernel) rfl ?_
  intro p e s m args below meth c s₁ B hml hv
  obtain ⟨rfl, hP, hK, hN, hJ⟩ := hv
  have hx := B.exec
  have hb := B.bytes
  have hr := B.returns
  have hts := atoms_spec (ws := wsX11_thinks) B.pre
  have hown : s.vm.findClass RX11 = some m.cls := findClass_of_methodNamed B.named
  have hlocks := B.notSynchronized
  have hC : xC X p m c cX11_thinks 6 s _ wsX11_thinks RX11 := ⟨⟨hx, hb, hml, hown, hts⟩, hK, hN, hJ⟩
  have hS : va_S (xA X) s.heap s.heap [] := va_S.rf
  have hl := lv_entry ([.ref (X.2.1 127), .int p0]) (n := 6) (Nat.le_of_ble_eq_true rfl)
  rw [lg_entry_eq]
  generalize (lg_sl ([.ref (X.2.1 127), .int p0]) ++ List.replicate (6 - (lg_sl ([.ref (X.2.1 127), .int p0])).length) Slot.unset).toArray = ls at hl ⊢
  have hl : lv_has ls 6 [(0, .ref (X.2.1 127)), (1, .int p0)] := hl
  refine lv_iload_n hx hb dX11_thinks_0 rfl (lv_at hl 1 rfl) ?_
  refine lv_i2l (v := (p0 : Int32).toInt64) hx hb dX11_thinks_1 rfl ?_
  refine lv_lconst (v := 0) hx hb dX11_thinks_2 (by decide) ?_
  refine lv_ldc2 (v := 2) hx hb hown (hts (.constantLong RX11 293 (2)) (List.mem_of_getElem? (i := 1) rfl)) dX11_thinks_3 ?_
  refine xcS_iR (As := [.long (p0 : Int32).toInt64, .long 0, .long 2]) (rest := []) hC hP hS (k_X11_in l X S (p0 : Int32).toInt64 0 2) (va_cwS 3 hts gX11_thinks_X11_in rfl rfl rfl hs_X11_in ⟨Nat.le_of_ble_eq_true rfl, Nat.le_of_ble_eq_true rfl⟩) rfl rfl hl.1 (Nat.le_of_ble_eq_true rfl) dX11_thinks_6 (fun r_1 hp_r_1 H locs hP hS => ?_)
  obtain ⟨hr_1, hzr_1⟩ := hp_r_1
  refine lv_if_ne (tgt := 15) hx hb dX11_thinks_9 (by decide) (fun c_2 => ?_) (fun c_2 => ?_)
  · refine lv_iconst (v := 0) hx hb dX11_thinks_15 (by decide) ?_
    refine lv_istore_n (lv' := [(2, .int 0), (0, .ref (X.2.1 127)), (1, .int p0)]) hx hb dX11_thinks_16 rfl hl (by decide) rfl (fun ls hl => ?_)
    refine lv_iconst (v := (-1)) hx hb dX11_thinks_17 (by decide) ?_
    refine lv_istore_n (lv' := [(3, .int (-1)), (2, .int 0), (0, .ref (X.2.1 127)), (1, .int p0)]) hx hb dX11_thinks_18 rfl hl (by decide) rfl (fun ls hl => ?_)
    refine lv_iconst (v := (-1)) hx hb dX11_thinks_19 (by decide) ?_
    refine lv_istore (lv' := [(4, .int (-1)), (3, .int (-1)), (2, .int 0), (0, .ref (X.2.1 127)), (1, .int p0)]) hx hb dX11_thinks_20 hl (by decide) rfl (fun ls hl => ?_)
    refine lv_iconst (v := 0) hx hb dX11_thinks_22 (by decide) ?_
    refine lv_istore (lv' := [(5, .int 0), (4, .int (-1)), (3, .int (-1)), (2, .int 0), (0, .ref (X.2.1 127)), (1, .int p0)]) hx hb dX11_thinks_23 hl (by decide) rfl (fun ls hl => ?_)
    have hLp_25 : ∀ (n : Nat) (x1_25 : Int32) (x2_25 : Int32) (x3_25 : Int32) (x4_25 : Int32) (x5_25 : Int32), s_X11_thinks_L25 n S x1_25 x2_25 x3_25 x4_25 x5_25 → (∀ q : Int32 × Int32 × Int32, q = f_X11_thinks_L25 n S x1_25 x2_25 x3_25 x4_25 x5_25 → (∀ (H : Heap) (locs : List Loc), va_P X.1 vwCl (xW X S) H → va_S (xA X) s.heap H locs → ∀ (ls : Array Slot), lv_has ls 6 [(1, .int x1_25), (2, .int q.1), (3, .int q.2.1), (4, .int q.2.2)] → W p l e ({ frames := 2, cells := 0, slots := 0, locals := 46 } : Room) s m ([.ref (X.2.1 127), .int p0] : List Value).toArray below meth c H locs 0 0 (MQ below (va_Qi (fun (r : Int32) (u : xS) => r = (f_X11_thinks S p0) ∧ u = S) (xI X) (xA X)) ([.ref (X.2.1 127), .int p0] : List Value).toArray s 0 0 (xA X)) (F0 m 65 ls []))) → ∀ (H : Heap) (locs : List Loc), va_P X.1 vwCl (xW X S) H → va_S (xA X) s.heap H locs → ∀ (ls : Array Slot), lv_has ls 6 [(0, .ref (X.2.1 127)), (1, .int x1_25), (2, .int x2_25), (3, .int x3_25), (4, .int x4_25), (5, .int x5_25)] → W p l e ({ frames := 2, cells := 0, slots := 0, locals := 46 } : Room) s m ([.ref (X.2.1 127), .int p0] : List Value).toArray below meth c H locs 0 0 (MQ below (va_Qi (fun (r : Int32) (u : xS) => r = (f_X11_thinks S p0) ∧ u = S) (xI X) (xA X)) ([.ref (X.2.1 127), .int p0] : List Value).toArray s 0 0 (xA X)) (F0 m 25 ls []) := by
      intro n
      induction n with
      | zero => intro x1_25 x2_25 x3_25 x4_25 x5_25 hs; exact hs.elim
      | succ n ih_25 =>
        intro x1_25 x2_25 x3_25 x4_25 x5_25 hs_25 hex_25 H locs hP hS ls hl
        refine lv_iload hx hb dX11_thinks_25 (lv_at hl 5 rfl) ?_
        refine lv_bipush (v := 10) hx hb dX11_thinks_27 (by decide) ?_
        refine lv_icmp_ge (tgt := 65) hx hb dX11_thinks_29 (by decide) (fun c_3 => ?_) (fun c_3 => ?_)
        · have he_4 : f_X11_thinks_L25 (n + 1) S x1_25 x2_25 x3_25 x4_25 x5_25 = (x2_25, x3_25, x4_25) := ((ip c_3 rfl))
          exact hex_25 _ he_4.symm _ _ hP hS ls (lv_sub hl [1, 2, 3, 4] rfl)
        · refine lv_aload_n hx hb dX11_thinks_32 rfl (lv_at hl 0 rfl) ?_
          refine lv_iload hx hb dX11_thinks_33 (lv_at hl 5 rfl) ?_
          have hn_5 : s_X11_isSo S x5_25 := (nl (sn hs_25 c_3))
          refine xcV_iR (b := 127) (As := [.int x5_25]) (rest := []) hC hP hS (k_X11_isSo l X S x5_25 hn_5) (cwV 1 hts gX11_thinks_X11_isSo rfl rfl rfl hd_X11_isSo ⟨Nat.le_of_ble_eq_true rfl, Nat.le_of_ble_eq_true rfl⟩) xo_X11 rfl rfl rfl hl.1 (Nat.le_of_ble_eq_true rfl) dX11_thinks_35 (fun r_6 hp_r_6 H locs hP hS => ?_)
          obtain ⟨hr_6, hzr_6⟩ := hp_r_6
          refine lv_if_eq (tgt := 59) hx hb dX11_thinks_38 (by decide) (fun c_7 => ?_) (fun c_7 => ?_)
          · refine lv_iinc (v := (x5_25 + 1)) (lv' := [(5, .int (x5_25 + 1)), (0, .ref (X.2.1 127)), (1, .int x1_25), (2, .int x2_25), (3, .int x3_25), (4, .int x4_25)]) hx hb dX11_thinks_59 hl (k := 5) rfl rfl (by decide) rfl (fun ls hl => ?_)
            refine lv_goto (tgt := 25) hx hb dX11_thinks_62 (by decide) ?_
            have he_8 : f_X11_thinks_L25 (n + 1) S x1_25 x2_25 x3_25 x4_25 x5_25 = f_X11_thinks_L25 n S x1_25 x2_25 x3_25 x4_25 (x5_25 + 1) := (by have hr_6 := hr_6.symm; subst hr_6; exact (iN c_3 (ip c_7 rfl)))
            exact ih_25 x1_25 x2_25 x3_25 x4_25 (x5_25 + 1) (by have hr_6 := hr_6.symm; subst hr_6; exact (sp (nr (sn hs_25 c_3)) c_7)) (fun q hq => hex_25 q (hq.trans he_8.symm)) _ _ hP hS ls (lv_sub hl [1, 2, 3, 4, 5, 0] rfl)
          · refine lv_iload_n hx hb dX11_thinks_41 rfl (lv_at hl 2 rfl) ?_
            refine lv_if_ne (tgt := 50) hx hb dX11_thinks_42 (by decide) (fun c_9 => ?_) (fun c_9 => ?_)
            · refine lv_iload_n hx hb dX11_thinks_50 rfl (lv_at hl 3 rfl) ?_
              refine lv_istore_n (lv' := [(3, .int x3_25), (0, .ref (X.2.1 127)), (1, .int x1_25), (2, .int x2_25), (4, .int x4_25), (5, .int x5_25)]) hx hb dX11_thinks_51 rfl hl (by decide) rfl (fun ls hl => ?_)
              refine lv_iload hx hb dX11_thinks_52 (lv_at hl 5 rfl) ?_
              refine lv_istore (lv' := [(4, .int x5_25), (3, .int x3_25), (0, .ref (X.2.1 127)), (1, .int x1_25), (2, .int x2_25), (5, .int x5_25)]) hx hb dX11_thinks_54 hl (by decide) rfl (fun ls hl => ?_)
              refine lv_iinc (v := (x2_25 + 1)) (lv' := [(2, .int (x2_25 + 1)), (4, .int x5_25), (3, .int x3_25), (0, .ref (X.2.1 127)), (1, .int x1_25), (5, .int x5_25)]) hx hb dX11_thinks_56 hl (k := 4) rfl rfl (by decide) rfl (fun ls hl => ?_)
              refine lv_iinc (v := (x5_25 + 1)) (lv' := [(5, .int (x5_25 + 1)), (2, .int (x2_25 + 1)), (4, .int x5_25), (3, .int x3_25), (0, .ref (X.2.1 127)), (1, .int x1_25)]) hx hb dX11_thinks_59 hl (k := 5) rfl rfl (by decide) rfl (fun ls hl => ?_)
              refine lv_goto (tgt := 25) hx hb dX11_thinks_62 (by decide) ?_
              have he_10 : f_X11_thinks_L25 (n + 1) S x1_25 x2_25 x3_25 x4_25 x5_25 = f_X11_thinks_L25 n S x1_25 (x2_25 + 1) x3_25 x5_25 (x5_25 + 1) := (by have hr_6 := hr_6.symm; subst hr_6; exact (iN c_3 (iN c_7 (iN c_9 rfl))))
              exact ih_25 x1_25 (x2_25 + 1) x3_25 x5_25 (x5_25 + 1) (by have hr_6 := hr_6.symm; subst hr_6; exact (sn (sn (nr (sn hs_25 c_3)) c_7) c_9)) (fun q hq => hex_25 q (hq.trans he_10.symm)) _ _ hP hS ls (lv_sub hl [4, 5, 1, 3, 2, 0] rfl)
            · refine lv_iload hx hb dX11_thinks_45 (lv_at hl 5 rfl) ?_
              refine lv_goto (tgt := 51) hx hb dX11_thinks_47 (by decide) ?_
              refine lv_istore_n (lv' := [(3, .int x5_25), (0, .ref (X.2.1 127)), (1, .int x1_25), (2, .int x2_25), (4, .int x4_25), (5, .int x5_25)]) hx hb dX11_thinks_51 rfl hl (by decide) rfl (fun ls hl => ?_)
              refine lv_iload hx hb dX11_thinks_52 (lv_at hl 5 rfl) ?_
              refine lv_istore (lv' := [(4, .int x5_25), (3, .int x5_25), (0, .ref (X.2.1 127)), (1, .int x1_25), (2, .int x2_25), (5, .int x5_25)]) hx hb dX11_thinks_54 hl (by decide) rfl (fun ls hl => ?_)
              refine lv_iinc (v := (x2_25 + 1)) (lv' := [(2, .int (x2_25 + 1)), (4, .int x5_25), (3, .int x5_25), (0, .ref (X.2.1 127)), (1, .int x1_25), (5, .int x5_25)]) hx hb dX11_thinks_56 hl (k := 4) rfl rfl (by decide) rfl (fun ls hl => ?_)
              refine lv_iinc (v := (x5_25 + 1)) (lv' := [(5, .int (x5_25 + 1)), (2, .int (x2_25 + 1)), (4, .int x5_25), (3, .int x5_25), (0, .ref (X.2.1 127)), (1, .int x1_25)]) hx hb dX11_thinks_59 hl (k := 5) rfl rfl (by decide) rfl (fun ls hl => ?_)
              refine lv_goto (tgt := 25) hx hb dX11_thinks_62 (by decide) ?_
              have he_11 : f_X11_thinks_L25 (n + 1) S x1_25 x2_25 x3_25 x4_25 x5_25 = f_X11_thinks_L25 n S x1_25 (x2_25 + 1) x5_25 x5_25 (x5_25 + 1) := (by have hr_6 := hr_6.symm; subst hr_6; exact (iN c_3 (iN c_7 (ip c_9 rfl))))
              exact ih_25 x1_25 (x2_25 + 1) x5_25 x5_25 (x5_25 + 1) (by have hr_6 := hr_6.symm; subst hr_6; exact (sp (sn (nr (sn hs_25 c_3)) c_7) c_9)) (fun q hq => hex_25 q (hq.trans he_11.symm)) _ _ hP hS ls (lv_sub hl [4, 5, 1, 3, 2, 0] rfl)
    refine hLp_25 ((fu 0 10)) p0 0 (-1) (-1) 0 (by have hr_1 := hr_1.symm; subst hr_1; exact nl (sn hs c_2)) (fun q_25 hq_25 H locs hP hS ls hl => ?_) _ _ hP hS ls (lv_sub hl [4, 5, 3, 2, 1, 0] rfl)
    refine lv_iload_n hx hb dX11_thinks_65 rfl (lv_at hl 0 rfl) ?_
    refine lv_if_ne (tgt := 73) hx hb dX11_thinks_66 (by decide) (fun c_12 => ?_) (fun c_12 => ?_)
    · refine lv_iload_n hx hb dX11_thinks_73 rfl (lv_at hl 0 rfl) ?_
      refine lv_iconst (v := 1) hx hb dX11_thinks_74 (by decide) ?_
      refine lv_icmp_ne (tgt := 82) hx hb dX11_thinks_75 (by decide) (fun c_13 => ?_) (fun c_13 => ?_)
      · refine lv_iload hx hb dX11_thinks_82 (lv_at hl 3 rfl) ?_
        exact xret_iR hC hP hS hb hr ((by have hr_1 := hr_1.symm; have hq_25 := hq_25.symm; subst hr_1 hq_25; exact (iN c_2 (iN c_12 (iN c_13 rfl))))) dX11_thinks_84 hlocks
      · refine lv_iload_n hx hb dX11_thinks_78 rfl (lv_at hl 2 rfl) ?_
        refine lv_goto (tgt := 84) hx hb dX11_thinks_79 (by decide) ?_
        exact xret_iR hC hP hS hb hr ((by have hr_1 := hr_1.symm; have hq_25 := hq_25.symm; subst hr_1 hq_25; exact (iN c_2 (iN c_12 (ip c_13 rfl))))) dX11_thinks_84 hlocks
    · refine lv_iload_n hx hb dX11_thinks_69 rfl (lv_at hl 1 rfl) ?_
      refine lv_goto (tgt := 84) hx hb dX11_thinks_70 (by decide) ?_
      exact xret_iR hC hP hS hb hr ((by have hr_1 := hr_1.symm; have hq_25 := hq_25.symm; subst hr_1 hq_25; exact (iN c_2 (ip c_12 rfl)))) dX11_thinks_84 hlocks
  · refine lv_ldc (v := (-1000000002)) hx hb hown (hts (.constant RX11 91 (-1000000002)) (List.mem_of_getElem? (i := 2) rfl)) dX11_thinks_12 ?_
    exact xret_iR hC hP hS hb hr ((by have hr_1 := hr_1.symm; subst hr_1; exact (ip c_2 rfl))) dX11_thinks_14 hlocks
