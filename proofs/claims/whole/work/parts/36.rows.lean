set_option linter.all false
/-! contracts: X11_cough, X11_like, X11_draw, X11_chance, X11_drift, X11_undo -/
theorem hd_X11_cough : yX11_cough.cls = RX11 ∧ yX11_cough.cls ≠ "java/lang/invoke/MethodHandle" ∧ yX11_cough.cls ≠ "java/lang/invoke/VarHandle" ∧ (parseMethodDescriptor yX11_cough.desc).map (fun d => d.parameters.length) = some 1 := by decide +kernel
set_option maxHeartbeats 4000000 in
set_option maxRecDepth 100000 in
theorem k_X11_cough (l : Launch) (X : xX) (S : xS) (p0 : Int32) (hs : s_X11_cough S p0) : Met l yX11_cough wsX11_cough ({ frames := 2, cells := 0, slots := 0, locals := 46 } : Room) (va_Pc [.ref (X.2.1 127), .int p0] (xI X S)) (va_Qi (fun (r : Int32) (u : xS) => r = (f_X11_cough S p0).1 ∧ u = (f_X11_cough S p0).2) (xI X) (xA X)) 0 0 (xA X) := by
  refine Met.ofW (cc := cX11_cough) (maxL := 2) (ret := (some .int)) (by decide +kernel) rfl ?_
  intro p e s m args below meth c s₁ B hml hv
  obtain ⟨rfl, hP, hK, hN, hJ⟩ := hv
  have hx := B.exec
  have hb := B.bytes
  have hr := B.returns
  have hts := atoms_spec (ws := wsX11_cough) B.pre
  have hown : s.vm.findClass RX11 = some m.cls := findClass_of_methodNamed B.named
  have hlocks := B.notSynchronized
  have hC : xC X p m c cX11_cough 2 s _ wsX11_cough RX11 := ⟨⟨hx, hb, hml, hown, hts⟩, hK, hN, hJ⟩
  have hS : va_S (xA X) s.heap s.heap [] := va_S.rf
  have hin_X11 : ∀ w ∈ u_ws RX11 TX11 41, w ∈ wsX11_cough := by decide +kernel
  have hl := lv_entry ([.ref (X.2.1 127), .int p0]) (n := 2) (Nat.le_of_ble_eq_true rfl)
  rw [lg_entry_eq]
  generalize (lg_sl ([.ref (X.2.1 127), .int p0]) ++ List.replicate (2 - (lg_sl ([.ref (X.2.1 127), .int p0])).length) Slot.unset).toArray = ls at hl ⊢
  have hl : lv_has ls 2 [(0, .ref (X.2.1 127)), (1, .int p0)] := hl
  refine lv_aload_n hx hb dX11_cough_0 rfl (lv_at hl 0 rfl) ?_
  refine lv_iload_n hx hb dX11_cough_1 rfl (lv_at hl 1 rfl) ?_
  refine xcV_iR (b := 127) (As := [.int p0]) (rest := []) hC hP hS (k_X11_isPerson l X S p0) (cwV 1 hts gX11_cough_X11_isPerson rfl rfl rfl hd_X11_isPerson ⟨Nat.le_of_ble_eq_true rfl, Nat.le_of_ble_eq_true rfl⟩) xo_X11 rfl rfl rfl hl.1 (Nat.le_of_ble_eq_true rfl) dX11_cough_2 (fun r_1 hp_r_1 H locs hP hS => ?_)
  obtain ⟨hr_1, hzr_1⟩ := hp_r_1
  refine lv_if_ne (tgt := 11) hx hb dX11_cough_5 (by decide) (fun c_2 => ?_) (fun c_2 => ?_)
  · refine lv_aload_n hx hb dX11_cough_11 rfl (lv_at hl 0 rfl) ?_
    refine xget (ref := "AbsentPraiseModel") (T := TX11) (v := .ref (X.2.1 131)) hC hP hin_X11 xo_X11 rfl 8 (by decide) (List.mem_of_getElem? (i := 2) rfl) rfl rfl dX11_cough_12 ?_
    refine lv_iconst (v := 1) hx hb dX11_cough_15 (by decide) ?_
    refine xiald hC hP rfl (vp_lit (by decide)) dX11_cough_16 ?_
    refine lv_iload_n hx hb dX11_cough_17 rfl (lv_at hl 1 rfl) ?_
    refine xcS_iR (As := [.int (S 131 (1 : Int32).toNatClampNeg), .int p0]) (rest := []) hC hP hS (k_X11_has l X S (S 131 (1 : Int32).toNatClampNeg) p0) (va_cwS 2 hts gX11_cough_X11_has rfl rfl rfl hs_X11_has ⟨Nat.le_of_ble_eq_true rfl, Nat.le_of_ble_eq_true rfl⟩) rfl rfl hl.1 (Nat.le_of_ble_eq_true rfl) dX11_cough_18 (fun r_3 hp_r_3 H locs hP hS => ?_)
    obtain ⟨hr_3, hzr_3⟩ := hp_r_3
    refine lv_if_eq (tgt := 27) hx hb dX11_cough_21 (by decide) (fun c_4 => ?_) (fun c_4 => ?_)
    · refine lv_aload_n hx hb dX11_cough_27 rfl (lv_at hl 0 rfl) ?_
      have hn_5 : s_X11_remember S := (by have hr_1 := hr_1.symm; have hr_3 := hr_3.symm; subst hr_1 hr_3; exact nl (sp (sn hs c_2) c_4))
      refine xcV_vW (b := 127) (As := []) (rest := []) hC hP hS (k_X11_remember l X S hn_5) (cwV 0 hts gX11_cough_X11_remember rfl rfl rfl hd_X11_remember ⟨Nat.le_of_ble_eq_true rfl, Nat.le_of_ble_eq_true rfl⟩) xo_X11 rfl rfl rfl hl.1 (Nat.le_of_ble_eq_true rfl) dX11_cough_28 (fun S_6 hS_6 H locs hP hS => ?_)
      refine lv_aload_n hx hb dX11_cough_31 rfl (lv_at hl 0 rfl) ?_
      refine xget (ref := "AbsentPraiseModel") (T := TX11) (v := .ref (X.2.1 131)) hC hP hin_X11 xo_X11 rfl 8 (by decide) (List.mem_of_getElem? (i := 2) rfl) rfl rfl dX11_cough_32 ?_
      refine lv_iconst (v := 1) hx hb dX11_cough_35 (by decide) ?_
      refine lv_dup2_11 hx hb dX11_cough_36 rfl rfl ?_
      refine xiald hC hP rfl (vp_lit (by decide)) dX11_cough_37 ?_
      refine lv_iconst (v := 1) hx hb dX11_cough_38 (by decide) ?_
      refine lv_iload_n hx hb dX11_cough_39 rfl (lv_at hl 1 rfl) ?_
      refine lv_ishl hx hb dX11_cough_40 ?_
      refine lv_ior hx hb dX11_cough_41 ?_
      refine xiast hC hP hS rfl (vp_lit (by decide)) dX11_cough_42 (fun S_7 hS_7 H locs hP hS => ?_)
      refine lv_aload_n hx hb dX11_cough_43 rfl (lv_at hl 0 rfl) ?_
      refine xget (ref := "AbsentPraiseModel") (T := TX11) (v := .ref (X.2.1 131)) hC hP hin_X11 xo_X11 rfl 8 (by decide) (List.mem_of_getElem? (i := 2) rfl) rfl rfl dX11_cough_44 ?_
      refine lv_iconst (v := 1) hx hb dX11_cough_47 (by decide) ?_
      refine xiald hC hP rfl (vp_lit (by decide)) dX11_cough_48 ?_
      exact xret_iW hC hP hS hb hr (by simp only [f_X11_cough, ← hr_1, ← hr_3, ← hS_6, ← hS_7, if_neg c_2, if_pos c_4]) dX11_cough_49 hlocks
    · refine lv_ldc (v := (-1000000003)) hx hb hown (hts (.constant RX11 239 (-1000000003)) (List.mem_of_getElem? (i := 3) rfl)) dX11_cough_24 ?_
      exact xret_iW hC hP hS hb hr (by simp only [f_X11_cough, ← hr_1, ← hr_3, if_neg c_2, if_neg c_4]) dX11_cough_26 hlocks
  · refine lv_ldc (v := (-1000000001)) hx hb hown (hts (.constant RX11 230 (-1000000001)) (List.mem_of_getElem? (i := 1) rfl)) dX11_cough_8 ?_
    exact xret_iW hC hP hS hb hr (by simp only [f_X11_cough, ← hr_1, if_pos c_2]) dX11_cough_10 hlocks
theorem hd_X11_like : yX11_like.cls = RX11 ∧ yX11_like.cls ≠ "java/lang/invoke/MethodHandle" ∧ yX11_like.cls ≠ "java/lang/invoke/VarHandle" ∧ (parseMethodDescriptor yX11_like.desc).map (fun d => d.parameters.length) = some 3 := by decide +kernel
set_option maxHeartbeats 4000000 in
set_option maxRecDepth 100000 in
theorem k_X11_like (l : Launch) (X : xX) (S : xS) (p0 : Int32) (p1 : Int32) (p2 : Int32) (hs : s_X11_like S p0 p1 p2) : Met l yX11_like wsX11_like ({ frames := 3, cells := 0, slots := 0, locals := 68 } : Room) (va_Pc [.ref (X.2.1 127), .int p0, .int p1, .int p2] (xI X S)) (va_Qi (fun (r : Int32) (u : xS) => r = (f_X11_like S p0 p1 p2).1 ∧ u = (f_X11_like S p0 p1 p2).2) (xI X) (xA X)) 0 0 (xA X) := by
  refine Met.ofW (cc := cX11_like) (maxL := 5) (ret := (some .int)) (by decide +kernel) rfl ?_
  intro p e s m args below meth c s₁ B hml hv
  obtain ⟨rfl, hP, hK, hN, hJ⟩ := hv
  have hx := B.exec
  have hb := B.bytes
  have hr := B.returns
  have hts := atoms_spec (ws := wsX11_like) B.pre
  have hown : s.vm.findClass RX11 = some m.cls := findClass_of_methodNamed B.named
  have hlocks := B.notSynchronized
  have hC : xC X p m c cX11_like 5 s _ wsX11_like RX11 := ⟨⟨hx, hb, hml, hown, hts⟩, hK, hN, hJ⟩
  have hS : va_S (xA X) s.heap s.heap [] := va_S.rf
  have hin_X11 : ∀ w ∈ u_ws RX11 TX11 41, w ∈ wsX11_like := by decide +kernel
  have hl := lv_entry ([.ref (X.2.1 127), .int p0, .int p1, .int p2]) (n := 5) (Nat.le_of_ble_eq_true rfl)
  rw [lg_entry_eq]
  generalize (lg_sl ([.ref (X.2.1 127), .int p0, .int p1, .int p2]) ++ List.replicate (5 - (lg_sl ([.ref (X.2.1 127), .int p0, .int p1, .int p2])).length) Slot.unset).toArray = ls at hl ⊢
  have hl : lv_has ls 5 [(0, .ref (X.2.1 127)), (1, .int p0), (2, .int p1), (3, .int p2)] := hl
  refine lv_aload_n hx hb dX11_like_0 rfl (lv_at hl 0 rfl) ?_
  refine lv_iload_n hx hb dX11_like_1 rfl (lv_at hl 1 rfl) ?_
  refine lv_iload_n hx hb dX11_like_2 rfl (lv_at hl 2 rfl) ?_
  refine xcV_iR (b := 127) (As := [.int p0, .int p1]) (rest := []) hC hP hS (k_X11_areTwo l X S p0 p1) (cwV 2 hts gX11_like_X11_areTwo rfl rfl rfl hd_X11_areTwo ⟨Nat.le_of_ble_eq_true rfl, Nat.le_of_ble_eq_true rfl⟩) xo_X11 rfl rfl rfl hl.1 (Nat.le_of_ble_eq_true rfl) dX11_like_3 (fun r_1 hp_r_1 H locs hP hS => ?_)
  obtain ⟨hr_1, hzr_1⟩ := hp_r_1
  refine lv_if_ne (tgt := 12) hx hb dX11_like_6 (by decide) (fun c_2 => ?_) (fun c_2 => ?_)
  · refine lv_iload_n hx hb dX11_like_12 rfl (lv_at hl 3 rfl) ?_
    refine lv_i2l (v := (p2 : Int32).toInt64) hx hb dX11_like_13 rfl ?_
    refine lv_lconst (v := 0) hx hb dX11_like_14 (by decide) ?_
    refine lv_ldc2 (v := 9) hx hb hown (hts (.constantLong RX11 250 (9)) (List.mem_of_getElem? (i := 2) rfl)) dX11_like_15 ?_
    refine xcS_iR (As := [.long (p2 : Int32).toInt64, .long 0, .long 9]) (rest := []) hC hP hS (k_X11_in l X S (p2 : Int32).toInt64 0 9) (va_cwS 3 hts gX11_like_X11_in rfl rfl rfl hs_X11_in ⟨Nat.le_of_ble_eq_true rfl, Nat.le_of_ble_eq_true rfl⟩) rfl rfl hl.1 (Nat.le_of_ble_eq_true rfl) dX11_like_18 (fun r_3 hp_r_3 H locs hP hS => ?_)
    obtain ⟨hr_3, hzr_3⟩ := hp_r_3
    refine lv_if_ne (tgt := 27) hx hb dX11_like_21 (by decide) (fun c_4 => ?_) (fun c_4 => ?_)
    · refine lv_aload_n hx hb dX11_like_27 rfl (lv_at hl 0 rfl) ?_
      have hn_5 : s_X11_remember S := (by have hr_1 := hr_1.symm; have hr_3 := hr_3.symm; subst hr_1 hr_3; exact nl (sn (sn hs c_2) c_4))
      refine xcV_vW (b := 127) (As := []) (rest := []) hC hP hS (k_X11_remember l X S hn_5) (cwV 0 hts gX11_like_X11_remember rfl rfl rfl hd_X11_remember ⟨Nat.le_of_ble_eq_true rfl, Nat.le_of_ble_eq_true rfl⟩) xo_X11 rfl rfl rfl hl.1 (Nat.le_of_ble_eq_true rfl) dX11_like_28 (fun S_6 hS_6 H locs hP hS => ?_)
      refine lv_aload_n hx hb dX11_like_31 rfl (lv_at hl 0 rfl) ?_
      refine xget (ref := "AbsentPraiseModel") (T := TX11) (v := .ref (X.2.1 131)) hC hP hin_X11 xo_X11 rfl 8 (by decide) (List.mem_of_getElem? (i := 4) rfl) rfl rfl dX11_like_32 ?_
      refine lv_bipush (v := 23) hx hb dX11_like_35 (by decide) ?_
      refine lv_bipush (v := 7) hx hb dX11_like_37 (by decide) ?_
      refine lv_iload_n hx hb dX11_like_39 rfl (lv_at hl 1 rfl) ?_
      refine lv_imul hx hb dX11_like_40 ?_
      refine lv_iadd hx hb dX11_like_41 ?_
      refine lv_iload_n hx hb dX11_like_42 rfl (lv_at hl 2 rfl) ?_
      refine lv_iadd hx hb dX11_like_43 ?_
      have hn_7 : vp_in ((23 + (7 * p0)) + p1) 72 := (by have hr_1 := hr_1.symm; have hr_3 := hr_3.symm; have hS_6 := hS_6.symm; subst hr_1 hr_3 hS_6; exact nl (nr (sn (sn hs c_2) c_4)))
      refine xiald hC hP rfl hn_7 dX11_like_44 ?_
      refine lv_istore (lv' := [(4, .int (S_6 131 (((23 + (7 * p0)) + p1)).toNatClampNeg)), (0, .ref (X.2.1 127)), (1, .int p0), (2, .int p1), (3, .int p2)]) hx hb dX11_like_45 hl (by decide) rfl (fun ls hl => ?_)
      refine lv_aload_n hx hb dX11_like_47 rfl (lv_at hl 1 rfl) ?_
      refine xget (ref := "AbsentPraiseModel") (T := TX11) (v := .ref (X.2.1 131)) hC hP hin_X11 xo_X11 rfl 8 (by decide) (List.mem_of_getElem? (i := 4) rfl) rfl rfl dX11_like_48 ?_
      refine lv_bipush (v := 23) hx hb dX11_like_51 (by decide) ?_
      refine lv_bipush (v := 7) hx hb dX11_like_53 (by decide) ?_
      refine lv_iload_n hx hb dX11_like_55 rfl (lv_at hl 2 rfl) ?_
      refine lv_imul hx hb dX11_like_56 ?_
      refine lv_iadd hx hb dX11_like_57 ?_
      refine lv_iload_n hx hb dX11_like_58 rfl (lv_at hl 3 rfl) ?_
      refine lv_iadd hx hb dX11_like_59 ?_
      refine lv_iload_n hx hb dX11_like_60 rfl (lv_at hl 4 rfl) ?_
      refine xiast hC hP hS rfl hn_7 dX11_like_61 (fun S_8 hS_8 H locs hP hS => ?_)
      refine lv_iload hx hb dX11_like_62 (lv_at hl 0 rfl) ?_
      exact xret_iW hC hP hS hb hr (by simp only [f_X11_like, ← hr_1, ← hr_3, ← hS_6, ← hS_8, if_neg c_2, if_neg c_4]) dX11_like_64 hlocks
    · refine lv_ldc (v := (-1000000002)) hx hb hown (hts (.constant RX11 91 (-1000000002)) (List.mem_of_getElem? (i := 3) rfl)) dX11_like_24 ?_
      exact xret_iW hC hP hS hb hr (by simp only [f_X11_like, ← hr_1, ← hr_3, if_neg c_2, if_pos c_4]) dX11_like_26 hlocks
  · refine lv_ldc (v := (-1000000001)) hx hb hown (hts (.constant RX11 230 (-1000000001)) (List.mem_of_getElem? (i := 1) rfl)) dX11_like_9 ?_
    exact xret_iW hC hP hS hb hr (by simp only [f_X11_like, ← hr_1, if_pos c_2]) dX11_like_11 hlocks
theorem hd_X11_draw : yX11_draw.cls = RX11 ∧ yX11_draw.cls ≠ "java/lang/invoke/MethodHandle" ∧ yX11_draw.cls ≠ "java/lang/invoke/VarHandle" ∧ (parseMethodDescriptor yX11_draw.desc).map (fun d => d.parameters.length) = some 1 := by decide +kernel
set_option maxHeartbeats 4000000 in
set_option maxRecDepth 100000 in
theorem k_X11_draw (l : Launch) (X : xX) (S : xS) (p0 : Int32) (hs : s_X11_draw S p0) : Met l yX11_draw wsX11_draw ({ frames := 0, cells := 0, slots := 0, locals := 0 } : Room) (va_Pc [.ref (X.2.1 127), .int p0] (xI X S)) (va_Qi (fun (r : Int32) (u : xS) => r = (f_X11_draw S p0).1 ∧ u = (f_X11_draw S p0).2) (xI X) (xA X)) 0 0 (xA X) := by
  refine Met.ofW (cc := cX11_draw) (maxL := 2) (ret := (some .int)) (by decide +kernel) rfl ?_
  intro p e s m args below meth c s₁ B hml hv
  obtain ⟨rfl, hP, hK, hN, hJ⟩ := hv
  have hx := B.exec
  have hb := B.bytes
  have hr := B.returns
  have hts := atoms_spec (ws := wsX11_draw) B.pre
  have hown : s.vm.findClass RX11 = some m.cls := findClass_of_methodNamed B.named
  have hlocks := B.notSynchronized
  have hC : xC X p m c cX11_draw 2 s _ wsX11_draw RX11 := ⟨⟨hx, hb, hml, hown, hts⟩, hK, hN, hJ⟩
  have hS : va_S (xA X) s.heap s.heap [] := va_S.rf
  have hin_X11 : ∀ w ∈ u_ws RX11 TX11 41, w ∈ wsX11_draw := by decide +kernel
  have hl := lv_entry ([.ref (X.2.1 127), .int p0]) (n := 2) (Nat.le_of_ble_eq_true rfl)
  rw [lg_entry_eq]
  generalize (lg_sl ([.ref (X.2.1 127), .int p0]) ++ List.replicate (2 - (lg_sl ([.ref (X.2.1 127), .int p0])).length) Slot.unset).toArray = ls at hl ⊢
  have hl : lv_has ls 2 [(0, .ref (X.2.1 127)), (1, .int p0)] := hl
  refine lv_aload_n hx hb dX11_draw_0 rfl (lv_at hl 0 rfl) ?_
  refine lv_aload_n hx hb dX11_draw_1 rfl (lv_at hl 0 rfl) ?_
  refine xget (ref := "AbsentPraiseModel") (T := TX11) (v := .int (S 127 10)) hC hP hin_X11 xo_X11 rfl 10 (by decide) (List.mem_of_getElem? (i := 1) rfl) rfl rfl dX11_draw_2 ?_
  refine lv_i2l (v := ((S 127 10) : Int32).toInt64) hx hb dX11_draw_5 rfl ?_
  refine lv_ldc2 (v := 1103515245) hx hb hown (hts (.constantLong RX11 255 (1103515245)) (List.mem_of_getElem? (i := 2) rfl)) dX11_draw_6 ?_
  refine lv_lmul hx hb dX11_draw_9 ?_
  refine lv_ldc2 (v := 12345) hx hb hown (hts (.constantLong RX11 257 (12345)) (List.mem_of_getElem? (i := 3) rfl)) dX11_draw_10 ?_
  refine lv_ladd hx hb dX11_draw_13 ?_
  refine lv_ldc2 (v := 2147483648) hx hb hown (hts (.constantLong RX11 259 (2147483648)) (List.mem_of_getElem? (i := 4) rfl)) dX11_draw_14 ?_
  refine lv_lrem hx hb dX11_draw_17 (by decide) ?_
  refine lv_l2i (v := ((((((S 127 10) : Int32).toInt64 * 1103515245) + 12345) - ((((S 127 10) : Int32).toInt64 * 1103515245) + 12345) / 2147483648 * 2147483648)).toInt32) hx hb dX11_draw_18 rfl ?_
  refine xput (ref := "AbsentPraiseModel") (T := TX11) (ty := .int) hC hP hS (by decide) hin_X11 tyX11 tyX11_ok nmX11 xo_X11 rfl 10 (by decide) (List.mem_of_getElem? (i := 1) rfl) rfl rfl rfl rfl rfl (Nat.le_of_ble_eq_true rfl) dX11_draw_19 rfl (fun S_1 hS_1 H locs hP hS => ?_)
  refine lv_aload_n hx hb dX11_draw_22 rfl (lv_at hl 0 rfl) ?_
  refine xget (ref := "AbsentPraiseModel") (T := TX11) (v := .int (S_1 127 10)) hC hP hin_X11 xo_X11 rfl 10 (by decide) (List.mem_of_getElem? (i := 1) rfl) rfl rfl dX11_draw_23 ?_
  refine lv_ldcw (v := 65536) hx hb hown (hts (.constant RX11 261 (65536)) (List.mem_of_getElem? (i := 5) rfl)) dX11_draw_26 ?_
  refine lv_idiv hx hb dX11_draw_29 (by decide) ?_
  refine lv_iload_n hx hb dX11_draw_30 rfl (lv_at hl 1 rfl) ?_
  have hn_2 : ¬ (p0 = 0) := (by have hS_1 := hS_1.symm; subst hS_1; exact nl hs)
  refine lv_irem hx hb dX11_draw_31 hn_2 ?_
  exact xret_iW hC hP hS hb hr (by simp only [f_X11_draw, ← hS_1]) dX11_draw_32 hlocks
theorem hd_X11_chance : yX11_chance.cls = RX11 ∧ yX11_chance.cls ≠ "java/lang/invoke/MethodHandle" ∧ yX11_chance.cls ≠ "java/lang/invoke/VarHandle" ∧ (parseMethodDescriptor yX11_chance.desc).map (fun d => d.parameters.length) = some 0 := by decide +kernel
set_option maxHeartbeats 4000000 in
set_option maxRecDepth 100000 in
theorem k_X11_chance (l : Launch) (X : xX) (S : xS) (hs : s_X11_chance S) : Met l yX11_chance wsX11_chance ({ frames := 1, cells := 0, slots := 0, locals := 21 } : Room) (va_Pc [.ref (X.2.1 127)] (xI X S)) (va_Qv (fun u : xS => u = (f_X11_chance S)) (xI X) (xA X)) 0 0 (xA X) := by
  refine Met.ofW (cc := cX11_chance) (maxL := 5) (ret := none) (by decide +kernel) rfl ?_
  intro p e s m args below meth c s₁ B hml hv
  obtain ⟨rfl, hP, hK, hN, hJ⟩ := hv
  have hx := B.exec
  have hb := B.bytes
  have hr := B.returns
  have hts := atoms_spec (ws := wsX11_chance) B.pre
  have hown : s.vm.findClass RX11 = some m.cls := findClass_of_methodNamed B.named
  have hlocks := B.notSynchronized
  have hC : xC X p m c cX11_chance 5 s _ wsX11_chance RX11 := ⟨⟨hx, hb, hml, hown, hts⟩, hK, hN, hJ⟩
  have hS : va_S (xA X) s.heap s.heap [] := va_S.rf
  have hin_X11 : ∀ w ∈ u_ws RX11 TX11 41, w ∈ wsX11_chance := by decide +kernel
  have hl := lv_entry ([.ref (X.2.1 127)]) (n := 5) (Nat.le_of_ble_eq_true rfl)
  rw [lg_entry_eq]
  generalize (lg_sl ([.ref (X.2.1 127)]) ++ List.replicate (5 - (lg_sl ([.ref (X.2.1 127)])).length) Slot.unset).toArray = ls at hl ⊢
  have hl : lv_has ls 5 [(0, .ref (X.2.1 127))] := hl
  refine lv_aload_n hx hb dX11_chance_0 rfl (lv_at hl 0 rfl) ?_
  refine lv_iconst (v := 4) hx hb dX11_chance_1 (by decide) ?_
  have hn_1 : s_X11_draw S 4 := (nl hs)
  refine xcV_iW (b := 127) (As := [.int 4]) (rest := []) hC hP hS (k_X11_draw l X S 4 hn_1) (cwV 1 hts gX11_chance_X11_draw rfl rfl rfl hd_X11_draw ⟨Nat.le_of_ble_eq_true rfl, Nat.le_of_ble_eq_true rfl⟩) xo_X11 rfl rfl rfl hl.1 (Nat.le_of_ble_eq_true rfl) dX11_chance_2 (fun r_2 S_3 hp_r_2 H locs hP hS => ?_)
  obtain ⟨hr_2, hS_3⟩ := hp_r_2
  refine lv_istore_n (lv' := [(1, .int r_2), (0, .ref (X.2.1 127))]) hx hb dX11_chance_5 rfl hl (by decide) rfl (fun ls hl => ?_)
  refine lv_aload_n hx hb dX11_chance_6 rfl (lv_at hl 1 rfl) ?_
  refine lv_aload_n hx hb dX11_chance_7 rfl (lv_at hl 1 rfl) ?_
  refine xget (ref := "AbsentPraiseModel") (T := TX11) (v := .int (S_3 127 6)) hC hP hin_X11 xo_X11 rfl 6 (by decide) (List.mem_of_getElem? (i := 1) rfl) rfl rfl dX11_chance_8 ?_
  have hn_5 : s_X11_draw S_3 (S_3 127 6) := (by have hr_2 := hr_2.symm; have hS_3 := hS_3.symm; subst hr_2 hS_3; exact nl (nr hs))
  refine xcV_iW (b := 127) (As := [.int (S_3 127 6)]) (rest := []) hC hP hS (k_X11_draw l X S_3 (S_3 127 6) hn_5) (cwV 1 hts gX11_chance_X11_draw rfl rfl rfl hd_X11_draw ⟨Nat.le_of_ble_eq_true rfl, Nat.le_of_ble_eq_true rfl⟩) xo_X11 rfl rfl rfl hl.1 (Nat.le_of_ble_eq_true rfl) dX11_chance_11 (fun r_6 S_7 hp_r_6 H locs hP hS => ?_)
  obtain ⟨hr_6, hS_7⟩ := hp_r_6
  refine lv_istore_n (lv' := [(2, .int r_6), (1, .int r_2), (0, .ref (X.2.1 127))]) hx hb dX11_chance_14 rfl hl (by decide) rfl (fun ls hl => ?_)
  refine lv_iload_n hx hb dX11_chance_15 rfl (lv_at hl 1 rfl) ?_
  refine lv_if_ne (tgt := 71) hx hb dX11_chance_16 (by decide) (fun c_9 => ?_) (fun c_9 => ?_)
  · refine lv_iload_n hx hb dX11_chance_71 rfl (lv_at hl 1 rfl) ?_
    refine lv_iconst (v := 1) hx hb dX11_chance_72 (by decide) ?_
    refine lv_icmp_ne (tgt := 91) hx hb dX11_chance_73 (by decide) (fun c_10 => ?_) (fun c_10 => ?_)
    · refine lv_iload_n hx hb dX11_chance_91 rfl (lv_at hl 1 rfl) ?_
      refine lv_iconst (v := 2) hx hb dX11_chance_92 (by decide) ?_
      refine lv_icmp_ne (tgt := 151) hx hb dX11_chance_93 (by decide) (fun c_11 => ?_) (fun c_11 => ?_)
      · exact xret_v hC hP hS hb hr (by simp only [f_X11_chance, ← hr_2, ← hS_3, ← hr_6, ← hS_7, if_neg c_9, if_neg c_10, if_neg c_11]) dX11_chance_151 hlocks
      · refine lv_aload_n hx hb dX11_chance_96 rfl (lv_at hl 2 rfl) ?_
        refine lv_aload_n hx hb dX11_chance_97 rfl (lv_at hl 2 rfl) ?_
        refine xget (ref := "AbsentPraiseModel") (T := TX11) (v := .int (S_7 127 6)) hC hP hin_X11 xo_X11 rfl 6 (by decide) (List.mem_of_getElem? (i := 1) rfl) rfl rfl dX11_chance_98 ?_
        have hn_12 : s_X11_draw S_7 (S_7 127 6) := (by have hr_2 := hr_2.symm; have hS_3 := hS_3.symm; have hr_6 := hr_6.symm; have hS_7 := hS_7.symm; subst hr_2 hS_3 hr_6 hS_7; exact nl (sp (sn (sn (nr (nr hs)) c_9) c_10) c_11))
        refine xcV_iW (b := 127) (As := [.int (S_7 127 6)]) (rest := []) hC hP hS (k_X11_draw l X S_7 (S_7 127 6) hn_12) (cwV 1 hts gX11_chance_X11_draw rfl rfl rfl hd_X11_draw ⟨Nat.le_of_ble_eq_true rfl, Nat.le_of_ble_eq_true rfl⟩) xo_X11 rfl rfl rfl hl.1 (Nat.le_of_ble_eq_true rfl) dX11_chance_101 (fun r_13 S_14 hp_r_13 H locs hP hS => ?_)
        obtain ⟨hr_13, hS_14⟩ := hp_r_13
        refine lv_istore_n (lv' := [(3, .int r_13), (2, .int r_6), (1, .int r_2), (0, .ref (X.2.1 127))]) hx hb dX11_chance_104 rfl hl (by decide) rfl (fun ls hl => ?_)
        refine lv_aload_n hx hb dX11_chance_105 rfl (lv_at hl 3 rfl) ?_
        refine lv_bipush (v := 10) hx hb dX11_chance_106 (by decide) ?_
        have hn_16 : s_X11_draw S_14 10 := (by have hr_2 := hr_2.symm; have hS_3 := hS_3.symm; have hr_6 := hr_6.symm; have hS_7 := hS_7.symm; have hr_13 := hr_13.symm; have hS_14 := hS_14.symm; subst hr_2 hS_3 hr_6 hS_7 hr_13 hS_14; exact nl (nr (sp (sn (sn (nr (nr hs)) c_9) c_10) c_11)))
        refine xcV_iW (b := 127) (As := [.int 10]) (rest := []) hC hP hS (k_X11_draw l X S_14 10 hn_16) (cwV 1 hts gX11_chance_X11_draw rfl rfl rfl hd_X11_draw ⟨Nat.le_of_ble_eq_true rfl, Nat.le_of_ble_eq_true rfl⟩) xo_X11 rfl rfl rfl hl.1 (Nat.le_of_ble_eq_true rfl) dX11_chance_108 (fun r_17 S_18 hp_r_17 H locs hP hS => ?_)
        obtain ⟨hr_17, hS_18⟩ := hp_r_17
        refine lv_istore (lv' := [(4, .int r_17), (3, .int r_13), (2, .int r_6), (1, .int r_2), (0, .ref (X.2.1 127))]) hx hb dX11_chance_111 hl (by decide) rfl (fun ls hl => ?_)
        refine lv_aload_n hx hb dX11_chance_113 rfl (lv_at hl 4 rfl) ?_
        refine xget (ref := "AbsentPraiseModel") (T := TX11) (v := .ref (X.2.1 131)) hC hP hin_X11 xo_X11 rfl 8 (by decide) (List.mem_of_getElem? (i := 3) rfl) rfl rfl dX11_chance_114 ?_
        refine lv_bipush (v := 23) hx hb dX11_chance_117 (by decide) ?_
        refine lv_bipush (v := 7) hx hb dX11_chance_119 (by decide) ?_
        refine lv_iload_n hx hb dX11_chance_121 rfl (lv_at hl 2 rfl) ?_
        refine lv_imul hx hb dX11_chance_122 ?_
        refine lv_iadd hx hb dX11_chance_123 ?_
        refine lv_iload_n hx hb dX11_chance_124 rfl (lv_at hl 1 rfl) ?_
        refine lv_iadd hx hb dX11_chance_125 ?_
        refine lv_iload_n hx hb dX11_chance_126 rfl (lv_at hl 1 rfl) ?_
        refine lv_iload_n hx hb dX11_chance_127 rfl (lv_at hl 2 rfl) ?_
        refine lv_icmp_ne (tgt := 148) hx hb dX11_chance_128 (by decide) (fun c_20 => ?_) (fun c_20 => ?_)
        · refine lv_iload hx hb dX11_chance_148 (lv_at hl 0 rfl) ?_
          have hn_21 : vp_in ((23 + (7 * r_6)) + r_13) 72 := (by have hr_2 := hr_2.symm; have hS_3 := hS_3.symm; have hr_6 := hr_6.symm; have hS_7 := hS_7.symm; have hr_13 := hr_13.symm; have hS_14 := hS_14.symm; have hr_17 := hr_17.symm; have hS_18 := hS_18.symm; subst hr_2 hS_3 hr_6 hS_7 hr_13 hS_14 hr_17 hS_18; exact nl (sn (nr (nr (sp (sn (sn (nr (nr hs)) c_9) c_10) c_11))) c_20))
          refine xiast hC hP hS rfl hn_21 dX11_chance_150 (fun S_22 hS_22 H locs hP hS => ?_)
          exact xret_v hC hP hS hb hr (by simp only [f_X11_chance, ← hr_2, ← hS_3, ← hr_6, ← hS_7, ← hr_13, ← hS_14, ← hr_17, ← hS_18, ← hS_22, if_neg c_9, if_neg c_10, if_pos c_11, if_neg c_20]) dX11_chance_151 hlocks
        · refine lv_aload_n hx hb dX11_chance_131 rfl (lv_at hl 4 rfl) ?_
          refine xget (ref := "AbsentPraiseModel") (T := TX11) (v := .ref (X.2.1 131)) hC hP hin_X11 xo_X11 rfl 8 (by decide) (List.mem_of_getElem? (i := 3) rfl) rfl rfl dX11_chance_132 ?_
          refine lv_bipush (v := 23) hx hb dX11_chance_135 (by decide) ?_
          refine lv_bipush (v := 7) hx hb dX11_chance_137 (by decide) ?_
          refine lv_iload_n hx hb dX11_chance_139 rfl (lv_at hl 2 rfl) ?_
          refine lv_imul hx hb dX11_chance_140 ?_
          refine lv_iadd hx hb dX11_chance_141 ?_
          refine lv_iload_n hx hb dX11_chance_142 rfl (lv_at hl 1 rfl) ?_
          refine lv_iadd hx hb dX11_chance_143 ?_
          have hn_23 : vp_in ((23 + (7 * r_6)) + r_13) 72 := (by have hr_2 := hr_2.symm; have hS_3 := hS_3.symm; have hr_6 := hr_6.symm; have hS_7 := hS_7.symm; have hr_13 := hr_13.symm; have hS_14 := hS_14.symm; have hr_17 := hr_17.symm; have hS_18 := hS_18.symm; subst hr_2 hS_3 hr_6 hS_7 hr_13 hS_14 hr_17 hS_18; exact nl (sp (nr (nr (sp (sn (sn (nr (nr hs)) c_9) c_10) c_11))) c_20))
          refine xiald hC hP rfl hn_23 dX11_chance_144 ?_
          refine lv_goto (tgt := 150) hx hb dX11_chance_145 (by decide) ?_
          refine xiast hC hP hS rfl hn_23 dX11_chance_150 (fun S_24 hS_24 H locs hP hS => ?_)
          exact xret_v hC hP hS hb hr (by simp only [f_X11_chance, ← hr_2, ← hS_3, ← hr_6, ← hS_7, ← hr_13, ← hS_14, ← hr_17, ← hS_18, ← hS_24, if_neg c_9, if_neg c_10, if_pos c_11, if_pos c_20]) dX11_chance_151 hlocks
    · refine lv_aload_n hx hb dX11_chance_76 rfl (lv_at hl 2 rfl) ?_
      refine xget (ref := "AbsentPraiseModel") (T := TX11) (v := .ref (X.2.1 131)) hC hP hin_X11 xo_X11 rfl 8 (by decide) (List.mem_of_getElem? (i := 3) rfl) rfl rfl dX11_chance_77 ?_
      refine lv_iconst (v := 1) hx hb dX11_chance_80 (by decide) ?_
      refine lv_dup2_11 hx hb dX11_chance_81 rfl rfl ?_
      refine xiald hC hP rfl (vp_lit (by decide)) dX11_chance_82 ?_
      refine lv_iconst (v := 1) hx hb dX11_chance_83 (by decide) ?_
      refine lv_iload_n hx hb dX11_chance_84 rfl (lv_at hl 0 rfl) ?_
      refine lv_ishl hx hb dX11_chance_85 ?_
      refine lv_ior hx hb dX11_chance_86 ?_
      refine xiast hC hP hS rfl (vp_lit (by decide)) dX11_chance_87 (fun S_25 hS_25 H locs hP hS => ?_)
      refine lv_goto (tgt := 151) hx hb dX11_chance_88 (by decide) ?_
      exact xret_v hC hP hS hb hr (by simp only [f_X11_chance, ← hr_2, ← hS_3, ← hr_6, ← hS_7, ← hS_25, if_neg c_9, if_pos c_10]) dX11_chance_151 hlocks
  · refine lv_aload_n hx hb dX11_chance_19 rfl (lv_at hl 2 rfl) ?_
    refine lv_aload_n hx hb dX11_chance_20 rfl (lv_at hl 2 rfl) ?_
    refine xget (ref := "AbsentPraiseModel") (T := TX11) (v := .int (S_7 127 0)) hC hP hin_X11 xo_X11 rfl 0 (by decide) (List.mem_of_getElem? (i := 2) rfl) rfl rfl dX11_chance_21 ?_
    have hn_26 : s_X11_draw S_7 (S_7 127 0) := (by have hr_2 := hr_2.symm; have hS_3 := hS_3.symm; have hr_6 := hr_6.symm; have hS_7 := hS_7.symm; subst hr_2 hS_3 hr_6 hS_7; exact nl (sp (nr (nr hs)) c_9))
    refine xcV_iW (b := 127) (As := [.int (S_7 127 0)]) (rest := []) hC hP hS (k_X11_draw l X S_7 (S_7 127 0) hn_26) (cwV 1 hts gX11_chance_X11_draw rfl rfl rfl hd_X11_draw ⟨Nat.le_of_ble_eq_true rfl, Nat.le_of_ble_eq_true rfl⟩) xo_X11 rfl rfl rfl hl.1 (Nat.le_of_ble_eq_true rfl) dX11_chance_24 (fun r_27 S_28 hp_r_27 H locs hP hS => ?_)
    obtain ⟨hr_27, hS_28⟩ := hp_r_27
    refine lv_istore_n (lv' := [(3, .int r_27), (2, .int r_6), (1, .int r_2), (0, .ref (X.2.1 127))]) hx hb dX11_chance_27 rfl hl (by decide) rfl (fun ls hl => ?_)
    refine lv_aload_n hx hb dX11_chance_28 rfl (lv_at hl 3 rfl) ?_
    refine xget (ref := "AbsentPraiseModel") (T := TX11) (v := .ref (X.2.1 131)) hC hP hin_X11 xo_X11 rfl 8 (by decide) (List.mem_of_getElem? (i := 3) rfl) rfl rfl dX11_chance_29 ?_
    refine lv_iconst (v := 2) hx hb dX11_chance_32 (by decide) ?_
    refine lv_iload_n hx hb dX11_chance_33 rfl (lv_at hl 1 rfl) ?_
    refine lv_iadd hx hb dX11_chance_34 ?_
    refine lv_aload_n hx hb dX11_chance_35 rfl (lv_at hl 3 rfl) ?_
    refine xget (ref := "AbsentPraiseModel") (T := TX11) (v := .ref (X.2.1 129)) hC hP hin_X11 xo_X11 rfl 5 (by decide) (List.mem_of_getElem? (i := 4) rfl) rfl rfl dX11_chance_36 ?_
    refine lv_aload_n hx hb dX11_chance_39 rfl (lv_at hl 3 rfl) ?_
    refine xget (ref := "AbsentPraiseModel") (T := TX11) (v := .ref (X.2.1 131)) hC hP hin_X11 xo_X11 rfl 8 (by decide) (List.mem_of_getElem? (i := 3) rfl) rfl rfl dX11_chance_40 ?_
    refine lv_iconst (v := 2) hx hb dX11_chance_43 (by decide) ?_
    refine lv_iload_n hx hb dX11_chance_44 rfl (lv_at hl 1 rfl) ?_
    refine lv_iadd hx hb dX11_chance_45 ?_
    have hn_30 : vp_in (2 + r_6) 72 := (by have hr_2 := hr_2.symm; have hS_3 := hS_3.symm; have hr_6 := hr_6.symm; have hS_7 := hS_7.symm; have hr_27 := hr_27.symm; have hS_28 := hS_28.symm; subst hr_2 hS_3 hr_6 hS_7 hr_27 hS_28; exact nl (nr (sp (nr (nr hs)) c_9)))
    refine xiald hC hP rfl hn_30 dX11_chance_46 ?_
    have hn_31 : vp_in (S_28 131 ((2 + r_6)).toNatClampNeg) 6 := (by have hr_2 := hr_2.symm; have hS_3 := hS_3.symm; have hr_6 := hr_6.symm; have hS_7 := hS_7.symm; have hr_27 := hr_27.symm; have hS_28 := hS_28.symm; subst hr_2 hS_3 hr_6 hS_7 hr_27 hS_28; exact nl (nr (nr (sp (nr (nr hs)) c_9))))
    refine xiald hC hP rfl hn_31 dX11_chance_47 ?_
    refine lv_iload_n hx hb dX11_chance_48 rfl (lv_at hl 0 rfl) ?_
    refine xcS_iR (As := [.int (S_28 129 ((S_28 131 ((2 + r_6)).toNatClampNeg)).toNatClampNeg), .int r_27]) (rest := [.int (2 + r_6), .ref (X.2.1 131)]) hC hP hS (k_X11_has l X S_28 (S_28 129 ((S_28 131 ((2 + r_6)).toNatClampNeg)).toNatClampNeg) r_27) (va_cwS 2 hts gX11_chance_X11_has rfl rfl rfl hs_X11_has ⟨Nat.le_of_ble_eq_true rfl, Nat.le_of_ble_eq_true rfl⟩) rfl rfl hl.1 (Nat.le_of_ble_eq_true rfl) dX11_chance_49 (fun r_32 hp_r_32 H locs hP hS => ?_)
    obtain ⟨hr_32, hzr_32⟩ := hp_r_32
    refine lv_if_eq (tgt := 59) hx hb dX11_chance_52 (by decide) (fun c_33 => ?_) (fun c_33 => ?_)
    · refine lv_aload_n hx hb dX11_chance_59 rfl (lv_at hl 3 rfl) ?_
      refine xget (ref := "AbsentPraiseModel") (T := TX11) (v := .ref (X.2.1 131)) hC hP hin_X11 xo_X11 rfl 8 (by decide) (List.mem_of_getElem? (i := 3) rfl) rfl rfl dX11_chance_60 ?_
      refine lv_iconst (v := 2) hx hb dX11_chance_63 (by decide) ?_
      refine lv_iload_n hx hb dX11_chance_64 rfl (lv_at hl 1 rfl) ?_
      refine lv_iadd hx hb dX11_chance_65 ?_
      refine xiald hC hP rfl hn_30 dX11_chance_66 ?_
      refine xiast hC hP hS rfl hn_30 dX11_chance_67 (fun S_34 hS_34 H locs hP hS => ?_)
      refine lv_goto (tgt := 151) hx hb dX11_chance_68 (by decide) ?_
      exact xret_v hC hP hS hb hr (by simp only [f_X11_chance, ← hr_2, ← hS_3, ← hr_6, ← hS_7, ← hr_27, ← hS_28, ← hr_32, ← hS_34, if_pos c_9, if_pos c_33]) dX11_chance_151 hlocks
    · refine lv_iload_n hx hb dX11_chance_55 rfl (lv_at hl 0 rfl) ?_
      refine lv_goto (tgt := 67) hx hb dX11_chance_56 (by decide) ?_
      refine xiast hC hP hS rfl hn_30 dX11_chance_67 (fun S_35 hS_35 H locs hP hS => ?_)
      refine lv_goto (tgt := 151) hx hb dX11_chance_68 (by decide) ?_
      exact xret_v hC hP hS hb hr (by simp only [f_X11_chance, ← hr_2, ← hS_3, ← hr_6, ← hS_7, ← hr_27, ← hS_28, ← hr_32, ← hS_35, if_pos c_9, if_neg c_33]) dX11_chance_151 hlocks
theorem hd_X11_drift : yX11_drift.cls = RX11 ∧ yX11_drift.cls ≠ "java/lang/invoke/MethodHandle" ∧ yX11_drift.cls ≠ "java/lang/invoke/VarHandle" ∧ (parseMethodDescriptor yX11_drift.desc).map (fun d => d.parameters.length) = some 1 := by decide +kernel
set_option maxHeartbeats 4000000 in
set_option maxRecDepth 100000 in
theorem k_X11_drift (l : Launch) (X : xX) (S : xS) (p0 : Int32) (hs : s_X11_drift S p0) : Met l yX11_drift wsX11_drift ({ frames := 4, cells := 0, slots := 0, locals := 92 } : Room) (va_Pc [.ref (X.2.1 127), .int p0] (xI X S)) (va_Qi (fun (r : Int32) (u : xS) => r = (f_X11_drift S p0).1 ∧ u = (f_X11_drift S p0).2) (xI X) (xA X)) 0 0 (xA X) := by
  refine Met.ofW (cc := cX11_drift) (maxL := 4) (ret := (some .int)) (by decide +kernel) rfl ?_
  intro p e s m args below meth c s₁ B hml hv
  obtain ⟨rfl, hP, hK, hN, hJ⟩ := hv
  have hx := B.exec
  have hb := B.bytes
  have hr := B.returns
  have hts := atoms_spec (ws := wsX11_drift) B.pre
  have hown : s.vm.findClass RX11 = some m.cls := findClass_of_methodNamed B.named
  have hlocks := B.notSynchronized
  have hC : xC X p m c cX11_drift 4 s _ wsX11_drift RX11 := ⟨⟨hx, hb, hml, hown, hts⟩, hK, hN, hJ⟩
  have hS : va_S (xA X) s.heap s.heap [] := va_S.rf
  have hin_X11 : ∀ w ∈ u_ws RX11 TX11 41, w ∈ wsX11_drift := by decide +kernel
  have hl := lv_entry ([.ref (X.2.1 127), .int p0]) (n := 4) (Nat.le_of_ble_eq_true rfl)
  rw [lg_entry_eq]
  generalize (lg_sl ([.ref (X.2.1 127), .int p0]) ++ List.replicate (4 - (lg_sl ([.ref (X.2.1 127), .int p0])).length) Slot.unset).toArray = ls at hl ⊢
  have hl : lv_has ls 4 [(0, .ref (X.2.1 127)), (1, .int p0)] := hl
  refine lv_aload_n hx hb dX11_drift_0 rfl (lv_at hl 0 rfl) ?_
  refine lv_iload_n hx hb dX11_drift_1 rfl (lv_at hl 1 rfl) ?_
  refine xcV_iR (b := 127) (As := [.int p0]) (rest := []) hC hP hS (k_X11_hoursRefused l X S p0) (cwV 1 hts gX11_drift_X11_hoursRefused rfl rfl rfl hd_X11_hoursRefused ⟨Nat.le_of_ble_eq_true rfl, Nat.le_of_ble_eq_true rfl⟩) xo_X11 rfl rfl rfl hl.1 (Nat.le_of_ble_eq_true rfl) dX11_drift_2 (fun r_1 hr_1 H locs hP hS => ?_)
  refine lv_istore_n (lv' := [(2, .int r_1), (0, .ref (X.2.1 127)), (1, .int p0)]) hx hb dX11_drift_5 rfl hl (by decide) rfl (fun ls hl => ?_)
  refine lv_iload_n hx hb dX11_drift_6 rfl (lv_at hl 0 rfl) ?_
  refine lv_if_eq (tgt := 12) hx hb dX11_drift_7 (by decide) (fun c_2 => ?_) (fun c_2 => ?_)
  · refine lv_aload_n hx hb dX11_drift_12 rfl (lv_at hl 1 rfl) ?_
    have hn_3 : s_X11_remember S := (by have hr_1 := hr_1.symm; subst hr_1; exact nl (sp hs c_2))
    refine xcV_vW (b := 127) (As := []) (rest := []) hC hP hS (k_X11_remember l X S hn_3) (cwV 0 hts gX11_drift_X11_remember rfl rfl rfl hd_X11_remember ⟨Nat.le_of_ble_eq_true rfl, Nat.le_of_ble_eq_true rfl⟩) xo_X11 rfl rfl rfl hl.1 (Nat.le_of_ble_eq_true rfl) dX11_drift_13 (fun S_4 hS_4 H locs hP hS => ?_)
    refine lv_iconst (v := 0) hx hb dX11_drift_16 (by decide) ?_
    refine lv_istore_n (lv' := [(3, .int 0), (2, .int r_1), (0, .ref (X.2.1 127)), (1, .int p0)]) hx hb dX11_drift_17 rfl hl (by decide) rfl (fun ls hl => ?_)
    have hLp_18 : ∀ (n : Nat) (T_18 : xS) (x1_18 : Int32) (x3_18 : Int32), s_X11_drift_L18 n T_18 x1_18 x3_18 → (∀ q : xS, q = f_X11_drift_L18 n T_18 x1_18 x3_18 → (∀ (H : Heap) (locs : List Loc), va_P X.1 vwCl (xW X q) H → va_S (xA X) s.heap H locs → ∀ (ls : Array Slot), lv_has ls 4 [(0, .ref (X.2.1 127))] → W p l e ({ frames := 4, cells := 0, slots := 0, locals := 92 } : Room) s m ([.ref (X.2.1 127), .int p0] : List Value).toArray below meth c H locs 0 0 (MQ below (va_Qi (fun (r : Int32) (u : xS) => r = (f_X11_drift S p0).1 ∧ u = (f_X11_drift S p0).2) (xI X) (xA X)) ([.ref (X.2.1 127), .int p0] : List Value).toArray s 0 0 (xA X)) (F0 m 48 ls []))) → ∀ (H : Heap) (locs : List Loc), va_P X.1 vwCl (xW X T_18) H → va_S (xA X) s.heap H locs → ∀ (ls : Array Slot), lv_has ls 4 [(0, .ref (X.2.1 127)), (1, .int x1_18), (3, .int x3_18)] → W p l e ({ frames := 4, cells := 0, slots := 0, locals := 92 } : Room) s m ([.ref (X.2.1 127), .int p0] : List Value).toArray below meth c H locs 0 0 (MQ below (va_Qi (fun (r : Int32) (u : xS) => r = (f_X11_drift S p0).1 ∧ u = (f_X11_drift S p0).2) (xI X) (xA X)) ([.ref (X.2.1 127), .int p0] : List Value).toArray s 0 0 (xA X)) (F0 m 18 ls []) := by
      intro n
      induction n with
      | zero => intro T_18 x1_18 x3_18 hs; exact hs.elim
      | succ n ih_18 =>
        intro T_18 x1_18 x3_18 hs_18 hex_18 H locs hP hS ls hl
        refine lv_iload_n hx hb dX11_drift_18 rfl (lv_at hl 2 rfl) ?_
        refine lv_iload_n hx hb dX11_drift_19 rfl (lv_at hl 1 rfl) ?_
        refine lv_icmp_ge (tgt := 48) hx hb dX11_drift_20 (by decide) (fun c_5 => ?_) (fun c_5 => ?_)
        · have he_6 : f_X11_drift_L18 (n + 1) T_18 x1_18 x3_18 = T_18 := ((ip c_5 rfl))
          exact hex_18 _ he_6.symm _ _ hP hS ls (lv_sub hl [0] rfl)
        · refine lv_aload_n hx hb dX11_drift_23 rfl (lv_at hl 0 rfl) ?_
          refine xget (ref := "AbsentPraiseModel") (T := TX11) (v := .int (T_18 127 6)) hC hP hin_X11 xo_X11 rfl 6 (by decide) (List.mem_of_getElem? (i := 1) rfl) rfl rfl dX11_drift_24 ?_
          refine lv_if_le (tgt := 34) hx hb dX11_drift_27 (by decide) (fun c_7 => ?_) (fun c_7 => ?_)
          · refine lv_aload_n hx hb dX11_drift_34 rfl (lv_at hl 0 rfl) ?_
            refine lv_aload_n hx hb dX11_drift_35 rfl (lv_at hl 0 rfl) ?_
            refine xget (ref := "AbsentPraiseModel") (T := TX11) (v := .ref (X.2.1 131)) hC hP hin_X11 xo_X11 rfl 8 (by decide) (List.mem_of_getElem? (i := 2) rfl) rfl rfl dX11_drift_36 ?_
            have hn_8 : s_X11_passes T_18 131 := (nl (sp (sn hs_18 c_5) c_7))
            refine xcV_vW (b := 127) (As := [.ref (X.2.1 131)]) (rest := []) hC hP hS (k_X11_passes l X T_18 131 rfl hn_8) (cwV 1 hts gX11_drift_X11_passes rfl rfl rfl hd_X11_passes ⟨Nat.le_of_ble_eq_true rfl, Nat.le_of_ble_eq_true rfl⟩) xo_X11 rfl rfl rfl hl.1 (Nat.le_of_ble_eq_true rfl) dX11_drift_39 (fun S_9 hS_9 H locs hP hS => ?_)
            refine lv_iinc (v := (x3_18 + 1)) (lv' := [(3, .int (x3_18 + 1)), (0, .ref (X.2.1 127)), (1, .int x1_18)]) hx hb dX11_drift_42 hl (k := 2) rfl rfl (by decide) rfl (fun ls hl => ?_)
            refine lv_goto (tgt := 18) hx hb dX11_drift_45 (by decide) ?_
            have he_10 : f_X11_drift_L18 (n + 1) T_18 x1_18 x3_18 = f_X11_drift_L18 n S_9 x1_18 (x3_18 + 1) := (by have hS_9 := hS_9.symm; subst hS_9; exact (iN c_5 (ip c_7 rfl)))
            exact ih_18 S_9 x1_18 (x3_18 + 1) (by have hS_9 := hS_9.symm; subst hS_9; exact (nr (sp (sn hs_18 c_5) c_7))) (fun q hq => hex_18 q (hq.trans he_10.symm)) _ _ hP hS ls (lv_sub hl [1, 2, 0] rfl)
          · refine lv_aload_n hx hb dX11_drift_30 rfl (lv_at hl 0 rfl) ?_
            have hn_11 : s_X11_chance T_18 := (nl (sn (sn hs_18 c_5) c_7))
            refine xcV_vW (b := 127) (As := []) (rest := []) hC hP hS (k_X11_chance l X T_18 hn_11) (cwV 0 hts gX11_drift_X11_chance rfl rfl rfl hd_X11_chance ⟨Nat.le_of_ble_eq_true rfl, Nat.le_of_ble_eq_true rfl⟩) xo_X11 rfl rfl rfl hl.1 (Nat.le_of_ble_eq_true rfl) dX11_drift_31 (fun S_12 hS_12 H locs hP hS => ?_)
            refine lv_aload_n hx hb dX11_drift_34 rfl (lv_at hl 0 rfl) ?_
            refine lv_aload_n hx hb dX11_drift_35 rfl (lv_at hl 0 rfl) ?_
            refine xget (ref := "AbsentPraiseModel") (T := TX11) (v := .ref (X.2.1 131)) hC hP hin_X11 xo_X11 rfl 8 (by decide) (List.mem_of_getElem? (i := 2) rfl) rfl rfl dX11_drift_36 ?_
            have hn_13 : s_X11_passes S_12 131 := (by have hS_12 := hS_12.symm; subst hS_12; exact nl (nr (sn (sn hs_18 c_5) c_7)))
            refine xcV_vW (b := 127) (As := [.ref (X.2.1 131)]) (rest := []) hC hP hS (k_X11_passes l X S_12 131 rfl hn_13) (cwV 1 hts gX11_drift_X11_passes rfl rfl rfl hd_X11_passes ⟨Nat.le_of_ble_eq_true rfl, Nat.le_of_ble_eq_true rfl⟩) xo_X11 rfl rfl rfl hl.1 (Nat.le_of_ble_eq_true rfl) dX11_drift_39 (fun S_14 hS_14 H locs hP hS => ?_)
            refine lv_iinc (v := (x3_18 + 1)) (lv' := [(3, .int (x3_18 + 1)), (0, .ref (X.2.1 127)), (1, .int x1_18)]) hx hb dX11_drift_42 hl (k := 2) rfl rfl (by decide) rfl (fun ls hl => ?_)
            refine lv_goto (tgt := 18) hx hb dX11_drift_45 (by decide) ?_
            have he_15 : f_X11_drift_L18 (n + 1) T_18 x1_18 x3_18 = f_X11_drift_L18 n S_14 x1_18 (x3_18 + 1) := (by have hS_12 := hS_12.symm; have hS_14 := hS_14.symm; subst hS_12 hS_14; exact (iN c_5 (iN c_7 rfl)))
            exact ih_18 S_14 x1_18 (x3_18 + 1) (by have hS_12 := hS_12.symm; have hS_14 := hS_14.symm; subst hS_12 hS_14; exact (nr (nr (sn (sn hs_18 c_5) c_7)))) (fun q hq => hex_18 q (hq.trans he_15.symm)) _ _ hP hS ls (lv_sub hl [1, 2, 0] rfl)
    refine hLp_18 ((fu 0 p0)) S_4 p0 0 (by have hr_1 := hr_1.symm; have hS_4 := hS_4.symm; subst hr_1 hS_4; exact nl (nr (sp hs c_2))) (fun q_18 hq_18 H locs hP hS ls hl => ?_) _ _ hP hS ls (lv_sub hl [2, 3, 0] rfl)
    refine lv_aload_n hx hb dX11_drift_48 rfl (lv_at hl 0 rfl) ?_
    refine xget (ref := "AbsentPraiseModel") (T := TX11) (v := .ref (X.2.1 131)) hC hP hin_X11 xo_X11 rfl 8 (by decide) (List.mem_of_getElem? (i := 2) rfl) rfl rfl dX11_drift_49 ?_
    refine lv_iconst (v := 0) hx hb dX11_drift_52 (by decide) ?_
    refine xiald hC hP rfl (vp_lit (by decide)) dX11_drift_53 ?_
    exact xret_iW hC hP hS hb hr (by simp only [f_X11_drift, ← hr_1, ← hS_4, ← hq_18, if_pos c_2]) dX11_drift_54 hlocks
  · refine lv_iload_n hx hb dX11_drift_10 rfl (lv_at hl 0 rfl) ?_
    exact xret_iW hC hP hS hb hr (by simp only [f_X11_drift, ← hr_1, if_neg c_2]) dX11_drift_11 hlocks
theorem hd_X11_undo : yX11_undo.cls = RX11 ∧ yX11_undo.cls ≠ "java/lang/invoke/MethodHandle" ∧ yX11_undo.cls ≠ "java/lang/invoke/VarHandle" ∧ (parseMethodDescriptor yX11_undo.desc).map (fun d => d.parameters.length) = some 0 := by decide +kernel
set_option maxHeartbeats 4000000 in
set_option maxRecDepth 100000 in
theorem k_X11_undo (l : Launch) (X : xX) (S : xS) (hs : s_X11_undo S) : Met l yX11_undo wsX11_undo ({ frames := 0, cells := 0, slots := 0, locals := 0 } : Room) (va_Pc [.ref (X.2.1 127)] (xI X S)) (va_Qi (fun (r : Int32) (u : xS) => r = (f_X11_undo S).1 ∧ u = (f_X11_undo S).2) (xI X) (xA X)) 0 0 (xA X) := by
  refine Met.ofW (cc := cX11_undo) (maxL := 2) (ret := (some .int)) (by decide +kernel) rfl ?_
  intro p e s m args below meth c s₁ B hml hv
  obtain ⟨rfl, hP, hK, hN, hJ⟩ := hv
  have hx := B.exec
  have hb := B.bytes
  have hr := B.returns
  have hts := atoms_spec (ws := wsX11_undo) B.pre
  have hown : s.vm.findClass RX11 = some m.cls := findClass_of_methodNamed B.named
  have hlocks := B.notSynchronized
  have hC : xC X p m c cX11_undo 2 s _ wsX11_undo RX11 := ⟨⟨hx, hb, hml, hown, hts⟩, hK, hN, hJ⟩
  have hS : va_S (xA X) s.heap s.heap [] := va_S.rf
  have hin_X11 : ∀ w ∈ u_ws RX11 TX11 41, w ∈ wsX11_undo := by decide +kernel
  have hl := lv_entry ([.ref (X.2.1 127)]) (n := 2) (Nat.le_of_ble_eq_true rfl)
  rw [lg_entry_eq]
  generalize (lg_sl ([.ref (X.2.1 127)]) ++ List.replicate (2 - (lg_sl ([.ref (X.2.1 127)])).length) Slot.unset).toArray = ls at hl ⊢
  have hl : lv_has ls 2 [(0, .ref (X.2.1 127))] := hl
  refine lv_aload_n hx hb dX11_undo_0 rfl (lv_at hl 0 rfl) ?_
  refine xget (ref := "AbsentPraiseModel") (T := TX11) (v := .int (S 127 36)) hC hP hin_X11 xo_X11 rfl 36 (by decide) (List.mem_of_getElem? (i := 1) rfl) rfl rfl dX11_undo_1 ?_
  refine lv_if_ne (tgt := 10) hx hb dX11_undo_4 (by decide) (fun c_1 => ?_) (fun c_1 => ?_)
  · refine lv_aload_n hx hb dX11_undo_10 rfl (lv_at hl 0 rfl) ?_
    refine lv_dup hx hb dX11_undo_11 rfl ?_
    refine xget (ref := "AbsentPraiseModel") (T := TX11) (v := .int (S 127 36)) hC hP hin_X11 xo_X11 rfl 36 (by decide) (List.mem_of_getElem? (i := 1) rfl) rfl rfl dX11_undo_12 ?_
    refine lv_iconst (v := 1) hx hb dX11_undo_15 (by decide) ?_
    refine lv_isub hx hb dX11_undo_16 ?_
    refine xput (ref := "AbsentPraiseModel") (T := TX11) (ty := .int) hC hP hS (by decide) hin_X11 tyX11 tyX11_ok nmX11 xo_X11 rfl 36 (by decide) (List.mem_of_getElem? (i := 1) rfl) rfl rfl rfl rfl rfl (Nat.le_of_ble_eq_true rfl) dX11_undo_17 rfl (fun S_2 hS_2 H locs hP hS => ?_)
    refine lv_iconst (v := 0) hx hb dX11_undo_20 (by decide) ?_
    refine lv_istore_n (lv' := [(1, .int 0), (0, .ref (X.2.1 127))]) hx hb dX11_undo_21 rfl hl (by decide) rfl (fun ls hl => ?_)
    have hLp_22 : ∀ (n : Nat) (T_22 : xS) (x1_22 : Int32), s_X11_undo_L22 n T_22 x1_22 → (∀ q : xS, q = f_X11_undo_L22 n T_22 x1_22 → (∀ (H : Heap) (locs : List Loc), va_P X.1 vwCl (xW X q) H → va_S (xA X) s.heap H locs → ∀ (ls : Array Slot), lv_has ls 2 [(0, .ref (X.2.1 127))] → W p l e ({ frames := 0, cells := 0, slots := 0, locals := 0 } : Room) s m ([.ref (X.2.1 127)] : List Value).toArray below meth c H locs 0 0 (MQ below (va_Qi (fun (r : Int32) (u : xS) => r = (f_X11_undo S).1 ∧ u = (f_X11_undo S).2) (xI X) (xA X)) ([.ref (X.2.1 127)] : List Value).toArray s 0 0 (xA X)) (F0 m 54 ls []))) → ∀ (H : Heap) (locs : List Loc), va_P X.1 vwCl (xW X T_22) H → va_S (xA X) s.heap H locs → ∀ (ls : Array Slot), lv_has ls 2 [(0, .ref (X.2.1 127)), (1, .int x1_22)] → W p l e ({ frames := 0, cells := 0, slots := 0, locals := 0 } : Room) s m ([.ref (X.2.1 127)] : List Value).toArray below meth c H locs 0 0 (MQ below (va_Qi (fun (r : Int32) (u : xS) => r = (f_X11_undo S).1 ∧ u = (f_X11_undo S).2) (xI X) (xA X)) ([.ref (X.2.1 127)] : List Value).toArray s 0 0 (xA X)) (F0 m 22 ls []) := by
      intro n
      induction n with
      | zero => intro T_22 x1_22 hs; exact hs.elim
      | succ n ih_22 =>
        intro T_22 x1_22 hs_22 hex_22 H locs hP hS ls hl
        refine lv_iload_n hx hb dX11_undo_22 rfl (lv_at hl 1 rfl) ?_
        refine lv_bipush (v := 72) hx hb dX11_undo_23 (by decide) ?_
        refine lv_icmp_ge (tgt := 54) hx hb dX11_undo_25 (by decide) (fun c_3 => ?_) (fun c_3 => ?_)
        · have he_4 : f_X11_undo_L22 (n + 1) T_22 x1_22 = T_22 := ((ip c_3 rfl))
          exact hex_22 _ he_4.symm _ _ hP hS ls (lv_sub hl [0] rfl)
        · refine lv_aload_n hx hb dX11_undo_28 rfl (lv_at hl 0 rfl) ?_
          refine xget (ref := "AbsentPraiseModel") (T := TX11) (v := .ref (X.2.1 131)) hC hP hin_X11 xo_X11 rfl 8 (by decide) (List.mem_of_getElem? (i := 3) rfl) rfl rfl dX11_undo_29 ?_
          refine lv_iload_n hx hb dX11_undo_32 rfl (lv_at hl 1 rfl) ?_
          refine lv_aload_n hx hb dX11_undo_33 rfl (lv_at hl 0 rfl) ?_
          refine xget (ref := "AbsentPraiseModel") (T := TX11) (v := .ref (X.2.1 144)) hC hP hin_X11 xo_X11 rfl 37 (by decide) (List.mem_of_getElem? (i := 4) rfl) rfl rfl dX11_undo_34 ?_
          refine lv_bipush (v := 72) hx hb dX11_undo_37 (by decide) ?_
          refine lv_aload_n hx hb dX11_undo_39 rfl (lv_at hl 0 rfl) ?_
          refine xget (ref := "AbsentPraiseModel") (T := TX11) (v := .int (T_22 127 36)) hC hP hin_X11 xo_X11 rfl 36 (by decide) (List.mem_of_getElem? (i := 1) rfl) rfl rfl dX11_undo_40 ?_
          refine lv_imul hx hb dX11_undo_43 ?_
          refine lv_iload_n hx hb dX11_undo_44 rfl (lv_at hl 1 rfl) ?_
          refine lv_iadd hx hb dX11_undo_45 ?_
          have hn_5 : vp_in ((72 * (T_22 127 36)) + x1_22) 1152 := (nl (sn hs_22 c_3))
          refine xiald hC hP rfl hn_5 dX11_undo_46 ?_
          have hn_6 : vp_in x1_22 72 := (nl (nr (sn hs_22 c_3)))
          refine xiast hC hP hS rfl hn_6 dX11_undo_47 (fun S_7 hS_7 H locs hP hS => ?_)
          refine lv_iinc (v := (x1_22 + 1)) (lv' := [(1, .int (x1_22 + 1)), (0, .ref (X.2.1 127))]) hx hb dX11_undo_48 hl (k := 1) rfl rfl (by decide) rfl (fun ls hl => ?_)
          refine lv_goto (tgt := 22) hx hb dX11_undo_51 (by decide) ?_
          have he_8 : f_X11_undo_L22 (n + 1) T_22 x1_22 = f_X11_undo_L22 n S_7 (x1_22 + 1) := (by have hS_7 := hS_7.symm; subst hS_7; exact (iN c_3 rfl))
          exact ih_22 S_7 (x1_22 + 1) (by have hS_7 := hS_7.symm; subst hS_7; exact (nr (nr (sn hs_22 c_3)))) (fun q hq => hex_22 q (hq.trans he_8.symm)) _ _ hP hS ls (lv_sub hl [1, 0] rfl)
    refine hLp_22 ((fu 0 72)) S_2 0 (by have hS_2 := hS_2.symm; subst hS_2; exact nl (sn hs c_1)) (fun q_22 hq_22 H locs hP hS ls hl => ?_) _ _ hP hS ls (lv_sub hl [1, 0] rfl)
    refine lv_aload_n hx hb dX11_undo_54 rfl (lv_at hl 0 rfl) ?_
    refine xget (ref := "AbsentPraiseModel") (T := TX11) (v := .int (q_22 127 36)) hC hP hin_X11 xo_X11 rfl 36 (by decide) (List.mem_of_getElem? (i := 1) rfl) rfl rfl dX11_undo_55 ?_
    exact xret_iW hC hP hS hb hr (by simp only [f_X11_undo, ← hS_2, ← hq_22, if_neg c_1]) dX11_undo_58 hlocks
  · refine lv_ldc (v := (-1000000003)) hx hb hown (hts (.constant RX11 239 (-1000000003)) (List.mem_of_getElem? (i := 2) rfl)) dX11_undo_7 ?_
    exact xret_iW hC hP hS hb hr (by simp only [f_X11_undo, if_pos c_1]) dX11_undo_9 hlocks
