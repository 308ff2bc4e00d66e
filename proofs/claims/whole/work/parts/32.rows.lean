set_option linter.all false
/-! contracts: X11_sayBy, X11_isThere, X11_says, X11_hears, X11_spokenOf, X11_saidAll -/
theorem hs_X11_sayBy : yX11_sayBy.cls ≠ "java/lang/invoke/MethodHandle" ∧ yX11_sayBy.cls ≠ "java/lang/invoke/VarHandle" ∧ (parseMethodDescriptor yX11_sayBy.desc).map (fun d => d.parameters.length) = some 3 := by decide +kernel
set_option maxHeartbeats 4000000 in
set_option maxRecDepth 100000 in
theorem k_X11_sayBy (l : Launch) (X : xX) (S : xS) (p0 : Int32) (p1 : Int32) (p2 : Int32) : Met l yX11_sayBy wsX11_sayBy ({ frames := 0, cells := 0, slots := 0, locals := 0 } : Room) (va_Pc [.int p0, .int p1, .int p2] (xI X S)) (va_Qi (fun (r : Int32) (u : xS) => r = (f_X11_sayBy S p0 p1 p2) ∧ u = S) (xI X) (xA X)) 0 0 (xA X) := by
  refine Met.ofW (cc := cX11_sayBy) (maxL := 4) (ret := (some .int)) (by decide +kernel) rfl ?_
  intro p e s m args below meth c s₁ B hml hv
  obtain ⟨rfl, hP, hK, hN, hJ⟩ := hv
  have hx := B.exec
  have hb := B.bytes
  have hr := B.returns
  have hts := atoms_spec (ws := wsX11_sayBy) B.pre
  have hown : s.vm.findClass RX11 = some m.cls := findClass_of_methodNamed B.named
  have hlocks := B.notSynchronized
  have hC : xC X p m c cX11_sayBy 4 s _ wsX11_sayBy RX11 := ⟨⟨hx, hb, hml, hown, hts⟩, hK, hN, hJ⟩
  have hS : va_S (xA X) s.heap s.heap [] := va_S.rf
  have hl := lv_entry ([.int p0, .int p1, .int p2]) (n := 4) (Nat.le_of_ble_eq_true rfl)
  rw [lg_entry_eq]
  generalize (lg_sl ([.int p0, .int p1, .int p2]) ++ List.replicate (4 - (lg_sl ([.int p0, .int p1, .int p2])).length) Slot.unset).toArray = ls at hl ⊢
  have hl : lv_has ls 4 [(0, .int p0), (1, .int p1), (2, .int p2)] := hl
  refine lv_iload_n hx hb dX11_sayBy_0 rfl (lv_at hl 2 rfl) ?_
  refine lv_if_eq (tgt := 11) hx hb dX11_sayBy_1 (by decide) (fun c_1 => ?_) (fun c_1 => ?_)
  · refine lv_iload_n hx hb dX11_sayBy_11 rfl (lv_at hl 1 rfl) ?_
    refine lv_iconst (v := 5) hx hb dX11_sayBy_12 (by decide) ?_
    refine lv_icmp_lt (tgt := 20) hx hb dX11_sayBy_13 (by decide) (fun c_2 => ?_) (fun c_2 => ?_)
    · refine lv_iconst (v := 0) hx hb dX11_sayBy_20 (by decide) ?_
      refine lv_istore_n (lv' := [(3, .int 0), (0, .int p0), (1, .int p1), (2, .int p2)]) hx hb dX11_sayBy_21 rfl hl (by decide) rfl (fun ls hl => ?_)
      refine lv_iload_n hx hb dX11_sayBy_22 rfl (lv_at hl 1 rfl) ?_
      refine lv_iconst (v := 1) hx hb dX11_sayBy_23 (by decide) ?_
      refine lv_icmp_ne (tgt := 35) hx hb dX11_sayBy_24 (by decide) (fun c_3 => ?_) (fun c_3 => ?_)
      · refine lv_iload_n hx hb dX11_sayBy_35 rfl (lv_at hl 1 rfl) ?_
        refine lv_iconst (v := 2) hx hb dX11_sayBy_36 (by decide) ?_
        refine lv_icmp_ne (tgt := 50) hx hb dX11_sayBy_37 (by decide) (fun c_4 => ?_) (fun c_4 => ?_)
        · refine lv_iload_n hx hb dX11_sayBy_50 rfl (lv_at hl 0 rfl) ?_
          exact xret_iR hC hP hS hb hr (((ip c_1 (ip c_2 (iN c_3 (iN c_4 rfl)))))) dX11_sayBy_51 hlocks
        · refine lv_iload_n hx hb dX11_sayBy_40 rfl (lv_at hl 0 rfl) ?_
          refine lv_if_le (tgt := 50) hx hb dX11_sayBy_41 (by decide) (fun _ => ?_) (fun c => absurd c (by decide))
          refine lv_iload_n hx hb dX11_sayBy_50 rfl (lv_at hl 0 rfl) ?_
          exact xret_iR hC hP hS hb hr (((ip c_1 (ip c_2 (iN c_3 (ip c_4 rfl)))))) dX11_sayBy_51 hlocks
      · refine lv_iload_n hx hb dX11_sayBy_27 rfl (lv_at hl 0 rfl) ?_
        refine lv_if_ge (tgt := 35) hx hb dX11_sayBy_28 (by decide) (fun _ => ?_) (fun c => absurd c (by decide))
        refine lv_iload_n hx hb dX11_sayBy_35 rfl (lv_at hl 1 rfl) ?_
        refine lv_iconst (v := 2) hx hb dX11_sayBy_36 (by decide) ?_
        refine lv_icmp_ne (tgt := 50) hx hb dX11_sayBy_37 (by decide) (fun c_5 => ?_) (fun c_5 => ?_)
        · refine lv_iload_n hx hb dX11_sayBy_50 rfl (lv_at hl 0 rfl) ?_
          exact xret_iR hC hP hS hb hr (((ip c_1 (ip c_2 (ip c_3 (iN c_5 rfl)))))) dX11_sayBy_51 hlocks
        · refine lv_iload_n hx hb dX11_sayBy_40 rfl (lv_at hl 0 rfl) ?_
          refine lv_if_le (tgt := 50) hx hb dX11_sayBy_41 (by decide) (fun _ => ?_) (fun c => absurd c (by decide))
          refine lv_iload_n hx hb dX11_sayBy_50 rfl (lv_at hl 0 rfl) ?_
          exact xret_iR hC hP hS hb hr (((ip c_1 (ip c_2 (ip c_3 (ip c_5 rfl)))))) dX11_sayBy_51 hlocks
    · refine lv_iload_n hx hb dX11_sayBy_16 rfl (lv_at hl 1 rfl) ?_
      refine lv_goto (tgt := 21) hx hb dX11_sayBy_17 (by decide) ?_
      refine lv_istore_n (lv' := [(3, .int p1), (0, .int p0), (1, .int p1), (2, .int p2)]) hx hb dX11_sayBy_21 rfl hl (by decide) rfl (fun ls hl => ?_)
      refine lv_iload_n hx hb dX11_sayBy_22 rfl (lv_at hl 1 rfl) ?_
      refine lv_iconst (v := 1) hx hb dX11_sayBy_23 (by decide) ?_
      refine lv_icmp_ne (tgt := 35) hx hb dX11_sayBy_24 (by decide) (fun c_6 => ?_) (fun c_6 => ?_)
      · refine lv_iload_n hx hb dX11_sayBy_35 rfl (lv_at hl 1 rfl) ?_
        refine lv_iconst (v := 2) hx hb dX11_sayBy_36 (by decide) ?_
        refine lv_icmp_ne (tgt := 50) hx hb dX11_sayBy_37 (by decide) (fun c_7 => ?_) (fun c_7 => ?_)
        · refine lv_iload_n hx hb dX11_sayBy_50 rfl (lv_at hl 0 rfl) ?_
          exact xret_iR hC hP hS hb hr (((ip c_1 (iN c_2 (iN c_6 (iN c_7 rfl)))))) dX11_sayBy_51 hlocks
        · refine lv_iload_n hx hb dX11_sayBy_40 rfl (lv_at hl 0 rfl) ?_
          refine lv_if_le (tgt := 50) hx hb dX11_sayBy_41 (by decide) (fun c_8 => ?_) (fun c_8 => ?_)
          · refine lv_iload_n hx hb dX11_sayBy_50 rfl (lv_at hl 0 rfl) ?_
            exact xret_iR hC hP hS hb hr (((ip c_1 (iN c_2 (iN c_6 (ip c_7 (ip c_8 rfl))))))) dX11_sayBy_51 hlocks
          · refine lv_iload_n hx hb dX11_sayBy_44 rfl (lv_at hl 0 rfl) ?_
            refine lv_iconst (v := 2) hx hb dX11_sayBy_45 (by decide) ?_
            refine lv_idiv hx hb dX11_sayBy_46 (by decide) ?_
            refine lv_goto (tgt := 51) hx hb dX11_sayBy_47 (by decide) ?_
            exact xret_iR hC hP hS hb hr (((ip c_1 (iN c_2 (iN c_6 (ip c_7 (iN c_8 rfl))))))) dX11_sayBy_51 hlocks
      · refine lv_iload_n hx hb dX11_sayBy_27 rfl (lv_at hl 0 rfl) ?_
        refine lv_if_ge (tgt := 35) hx hb dX11_sayBy_28 (by decide) (fun c_9 => ?_) (fun c_9 => ?_)
        · refine lv_iload_n hx hb dX11_sayBy_35 rfl (lv_at hl 1 rfl) ?_
          refine lv_iconst (v := 2) hx hb dX11_sayBy_36 (by decide) ?_
          refine lv_icmp_ne (tgt := 50) hx hb dX11_sayBy_37 (by decide) (fun c_10 => ?_) (fun c_10 => ?_)
          · refine lv_iload_n hx hb dX11_sayBy_50 rfl (lv_at hl 0 rfl) ?_
            exact xret_iR hC hP hS hb hr (((ip c_1 (iN c_2 (ip c_6 (ip c_9 (iN c_10 rfl))))))) dX11_sayBy_51 hlocks
          · refine lv_iload_n hx hb dX11_sayBy_40 rfl (lv_at hl 0 rfl) ?_
            refine lv_if_le (tgt := 50) hx hb dX11_sayBy_41 (by decide) (fun c_11 => ?_) (fun c_11 => ?_)
            · refine lv_iload_n hx hb dX11_sayBy_50 rfl (lv_at hl 0 rfl) ?_
              exact xret_iR hC hP hS hb hr (((ip c_1 (iN c_2 (ip c_6 (ip c_9 (ip c_10 (ip c_11 rfl)))))))) dX11_sayBy_51 hlocks
            · refine lv_iload_n hx hb dX11_sayBy_44 rfl (lv_at hl 0 rfl) ?_
              refine lv_iconst (v := 2) hx hb dX11_sayBy_45 (by decide) ?_
              refine lv_idiv hx hb dX11_sayBy_46 (by decide) ?_
              refine lv_goto (tgt := 51) hx hb dX11_sayBy_47 (by decide) ?_
              exact xret_iR hC hP hS hb hr (((ip c_1 (iN c_2 (ip c_6 (ip c_9 (ip c_10 (iN c_11 rfl)))))))) dX11_sayBy_51 hlocks
        · refine lv_iconst (v := 0) hx hb dX11_sayBy_31 (by decide) ?_
          refine lv_goto (tgt := 51) hx hb dX11_sayBy_32 (by decide) ?_
          exact xret_iR hC hP hS hb hr (((ip c_1 (iN c_2 (ip c_6 (iN c_9 rfl)))))) dX11_sayBy_51 hlocks
  · refine lv_iload_n hx hb dX11_sayBy_4 rfl (lv_at hl 1 rfl) ?_
    refine lv_bipush (v := 9) hx hb dX11_sayBy_5 (by decide) ?_
    refine lv_isub hx hb dX11_sayBy_7 ?_
    refine lv_goto (tgt := 21) hx hb dX11_sayBy_8 (by decide) ?_
    refine lv_istore_n (lv' := [(3, .int (p1 - 9)), (0, .int p0), (1, .int p1), (2, .int p2)]) hx hb dX11_sayBy_21 rfl hl (by decide) rfl (fun ls hl => ?_)
    refine lv_iload_n hx hb dX11_sayBy_22 rfl (lv_at hl 1 rfl) ?_
    refine lv_iconst (v := 1) hx hb dX11_sayBy_23 (by decide) ?_
    refine lv_icmp_ne (tgt := 35) hx hb dX11_sayBy_24 (by decide) (fun c_12 => ?_) (fun c_12 => ?_)
    · refine lv_iload_n hx hb dX11_sayBy_35 rfl (lv_at hl 1 rfl) ?_
      refine lv_iconst (v := 2) hx hb dX11_sayBy_36 (by decide) ?_
      refine lv_icmp_ne (tgt := 50) hx hb dX11_sayBy_37 (by decide) (fun c_13 => ?_) (fun c_13 => ?_)
      · refine lv_iload_n hx hb dX11_sayBy_50 rfl (lv_at hl 0 rfl) ?_
        exact xret_iR hC hP hS hb hr (((iN c_1 (iN c_12 (iN c_13 rfl))))) dX11_sayBy_51 hlocks
      · refine lv_iload_n hx hb dX11_sayBy_40 rfl (lv_at hl 0 rfl) ?_
        refine lv_if_le (tgt := 50) hx hb dX11_sayBy_41 (by decide) (fun c_14 => ?_) (fun c_14 => ?_)
        · refine lv_iload_n hx hb dX11_sayBy_50 rfl (lv_at hl 0 rfl) ?_
          exact xret_iR hC hP hS hb hr (((iN c_1 (iN c_12 (ip c_13 (ip c_14 rfl)))))) dX11_sayBy_51 hlocks
        · refine lv_iload_n hx hb dX11_sayBy_44 rfl (lv_at hl 0 rfl) ?_
          refine lv_iconst (v := 2) hx hb dX11_sayBy_45 (by decide) ?_
          refine lv_idiv hx hb dX11_sayBy_46 (by decide) ?_
          refine lv_goto (tgt := 51) hx hb dX11_sayBy_47 (by decide) ?_
          exact xret_iR hC hP hS hb hr (((iN c_1 (iN c_12 (ip c_13 (iN c_14 rfl)))))) dX11_sayBy_51 hlocks
    · refine lv_iload_n hx hb dX11_sayBy_27 rfl (lv_at hl 0 rfl) ?_
      refine lv_if_ge (tgt := 35) hx hb dX11_sayBy_28 (by decide) (fun c_15 => ?_) (fun c_15 => ?_)
      · refine lv_iload_n hx hb dX11_sayBy_35 rfl (lv_at hl 1 rfl) ?_
        refine lv_iconst (v := 2) hx hb dX11_sayBy_36 (by decide) ?_
        refine lv_icmp_ne (tgt := 50) hx hb dX11_sayBy_37 (by decide) (fun c_16 => ?_) (fun c_16 => ?_)
        · refine lv_iload_n hx hb dX11_sayBy_50 rfl (lv_at hl 0 rfl) ?_
          exact xret_iR hC hP hS hb hr (((iN c_1 (ip c_12 (ip c_15 (iN c_16 rfl)))))) dX11_sayBy_51 hlocks
        · refine lv_iload_n hx hb dX11_sayBy_40 rfl (lv_at hl 0 rfl) ?_
          refine lv_if_le (tgt := 50) hx hb dX11_sayBy_41 (by decide) (fun c_17 => ?_) (fun c_17 => ?_)
          · refine lv_iload_n hx hb dX11_sayBy_50 rfl (lv_at hl 0 rfl) ?_
            exact xret_iR hC hP hS hb hr (((iN c_1 (ip c_12 (ip c_15 (ip c_16 (ip c_17 rfl))))))) dX11_sayBy_51 hlocks
          · refine lv_iload_n hx hb dX11_sayBy_44 rfl (lv_at hl 0 rfl) ?_
            refine lv_iconst (v := 2) hx hb dX11_sayBy_45 (by decide) ?_
            refine lv_idiv hx hb dX11_sayBy_46 (by decide) ?_
            refine lv_goto (tgt := 51) hx hb dX11_sayBy_47 (by decide) ?_
            exact xret_iR hC hP hS hb hr (((iN c_1 (ip c_12 (ip c_15 (ip c_16 (iN c_17 rfl))))))) dX11_sayBy_51 hlocks
      · refine lv_iconst (v := 0) hx hb dX11_sayBy_31 (by decide) ?_
        refine lv_goto (tgt := 51) hx hb dX11_sayBy_32 (by decide) ?_
        exact xret_iR hC hP hS hb hr (((iN c_1 (ip c_12 (iN c_15 rfl))))) dX11_sayBy_51 hlocks
theorem hd_X11_isThere : yX11_isThere.cls = RX11 ∧ yX11_isThere.cls ≠ "java/lang/invoke/MethodHandle" ∧ yX11_isThere.cls ≠ "java/lang/invoke/VarHandle" ∧ (parseMethodDescriptor yX11_isThere.desc).map (fun d => d.parameters.length) = some 3 := by decide +kernel
set_option maxHeartbeats 4000000 in
set_option maxRecDepth 100000 in
theorem k_X11_isThere (l : Launch) (X : xX) (S : xS) (p0 : Int32) (p1 : Int32) (p2 : Int32) (hs : s_X11_isThere S p0 p1 p2) : Met l yX11_isThere wsX11_isThere ({ frames := 1, cells := 0, slots := 0, locals := 21 } : Room) (va_Pc [.ref (X.2.1 127), .int p0, .int p1, .int p2] (xI X S)) (va_Qi (fun (r : Int32) (u : xS) => (r = (f_X11_isThere S p0 p1 p2) ∧ (r = 0 ∨ r = 1)) ∧ u = S) (xI X) (xA X)) 0 0 (xA X) := by
  refine Met.ofW (cc := cX11_isThere) (maxL := 4) (ret := (some .boolean)) (by decide +kernel) rfl ?_
  intro p e s m args below meth c s₁ B hml hv
  obtain ⟨rfl, hP, hK, hN, hJ⟩ := hv
  have hx := B.exec
  have hb := B.bytes
  have hr := B.returns
  have hts := atoms_spec (ws := wsX11_isThere) B.pre
  have hown : s.vm.findClass RX11 = some m.cls := findClass_of_methodNamed B.named
  have hlocks := B.notSynchronized
  have hC : xC X p m c cX11_isThere 4 s _ wsX11_isThere RX11 := ⟨⟨hx, hb, hml, hown, hts⟩, hK, hN, hJ⟩
  have hS : va_S (xA X) s.heap s.heap [] := va_S.rf
  have hin_X11 : ∀ w ∈ u_ws RX11 TX11 41, w ∈ wsX11_isThere := by decide +kernel
  have hl := lv_entry ([.ref (X.2.1 127), .int p0, .int p1, .int p2]) (n := 4) (Nat.le_of_ble_eq_true rfl)
  rw [lg_entry_eq]
  generalize (lg_sl ([.ref (X.2.1 127), .int p0, .int p1, .int p2]) ++ List.replicate (4 - (lg_sl ([.ref (X.2.1 127), .int p0, .int p1, .int p2])).length) Slot.unset).toArray = ls at hl ⊢
  have hl : lv_has ls 4 [(0, .ref (X.2.1 127)), (1, .int p0), (2, .int p1), (3, .int p2)] := hl
  refine lv_iload_n hx hb dX11_isThere_0 rfl (lv_at hl 1 rfl) ?_
  refine lv_iload_n hx hb dX11_isThere_1 rfl (lv_at hl 2 rfl) ?_
  refine lv_icmp_eq (tgt := 22) hx hb dX11_isThere_2 (by decide) (fun c_1 => ?_) (fun c_1 => ?_)
  · refine lv_iconst (v := 1) hx hb dX11_isThere_22 (by decide) ?_
    refine lv_goto (tgt := 27) hx hb dX11_isThere_23 (by decide) ?_
    exact xret_zR hC hP hS hb hr (.inr rfl) (((ip c_1 rfl))) dX11_isThere_27 hlocks
  · refine lv_iload_n hx hb dX11_isThere_5 rfl (lv_at hl 3 rfl) ?_
    refine lv_if_eq (tgt := 26) hx hb dX11_isThere_6 (by decide) (fun c_2 => ?_) (fun c_2 => ?_)
    · refine lv_iconst (v := 0) hx hb dX11_isThere_26 (by decide) ?_
      exact xret_zR hC hP hS hb hr (.inl rfl) (((iN c_1 (ip c_2 rfl)))) dX11_isThere_27 hlocks
    · refine lv_aload_n hx hb dX11_isThere_9 rfl (lv_at hl 0 rfl) ?_
      refine xget (ref := "AbsentPraiseModel") (T := TX11) (v := .ref (X.2.1 128)) hC hP hin_X11 xo_X11 rfl 4 (by decide) (List.mem_of_getElem? (i := 1) rfl) rfl rfl dX11_isThere_10 ?_
      refine lv_iload_n hx hb dX11_isThere_13 rfl (lv_at hl 1 rfl) ?_
      have hn_3 : vp_in p0 6 := (nl (sn (sn hs c_1) c_2))
      refine xiald hC hP rfl hn_3 dX11_isThere_14 ?_
      refine lv_iload_n hx hb dX11_isThere_15 rfl (lv_at hl 2 rfl) ?_
      refine xcS_iR (As := [.int (S 128 (p0).toNatClampNeg), .int p1]) (rest := []) hC hP hS (k_X11_has l X S (S 128 (p0).toNatClampNeg) p1) (va_cwS 2 hts gX11_isThere_X11_has rfl rfl rfl hs_X11_has ⟨Nat.le_of_ble_eq_true rfl, Nat.le_of_ble_eq_true rfl⟩) rfl rfl hl.1 (Nat.le_of_ble_eq_true rfl) dX11_isThere_16 (fun r_4 hp_r_4 H locs hP hS => ?_)
      obtain ⟨hr_4, hzr_4⟩ := hp_r_4
      refine lv_if_eq (tgt := 26) hx hb dX11_isThere_19 (by decide) (fun c_5 => ?_) (fun c_5 => ?_)
      · refine lv_iconst (v := 0) hx hb dX11_isThere_26 (by decide) ?_
        exact xret_zR hC hP hS hb hr (.inl rfl) ((by have hr_4 := hr_4.symm; subst hr_4; exact (iN c_1 (iN c_2 (ip c_5 rfl))))) dX11_isThere_27 hlocks
      · refine lv_iconst (v := 1) hx hb dX11_isThere_22 (by decide) ?_
        refine lv_goto (tgt := 27) hx hb dX11_isThere_23 (by decide) ?_
        exact xret_zR hC hP hS hb hr (.inr rfl) ((by have hr_4 := hr_4.symm; subst hr_4; exact (iN c_1 (iN c_2 (iN c_5 rfl))))) dX11_isThere_27 hlocks
theorem hd_X11_says : yX11_says.cls = RX11 ∧ yX11_says.cls ≠ "java/lang/invoke/MethodHandle" ∧ yX11_says.cls ≠ "java/lang/invoke/VarHandle" ∧ (parseMethodDescriptor yX11_says.desc).map (fun d => d.parameters.length) = some 3 := by decide +kernel
set_option maxHeartbeats 4000000 in
set_option maxRecDepth 100000 in
theorem k_X11_says (l : Launch) (X : xX) (S : xS) (k0 : Nat) (p1 : Int32) (p2 : Int32) (hk0 : isI k0 = true) (hs : s_X11_says S k0 p1 p2) : Met l yX11_says wsX11_says ({ frames := 2, cells := 0, slots := 0, locals := 44 } : Room) (va_Pc [.ref (X.2.1 127), .ref (X.2.1 k0), .int p1, .int p2] (xI X S)) (va_Qi (fun (r : Int32) (u : xS) => r = (f_X11_says S k0 p1 p2) ∧ u = S) (xI X) (xA X)) 0 0 (xA X) := by
  refine Met.ofW (cc := cX11_says) (maxL := 5) (ret := (some .int)) (by decide +kernel) rfl ?_
  intro p e s m args below meth c s₁ B hml hv
  obtain ⟨rfl, hP, hK, hN, hJ⟩ := hv
  have hx := B.exec
  have hb := B.bytes
  have hr := B.returns
  have hts := atoms_spec (ws := wsX11_says) B.pre
  have hown : s.vm.findClass RX11 = some m.cls := findClass_of_methodNamed B.named
  have hlocks := B.notSynchronized
  have hC : xC X p m c cX11_says 5 s _ wsX11_says RX11 := ⟨⟨hx, hb, hml, hown, hts⟩, hK, hN, hJ⟩
  have hS : va_S (xA X) s.heap s.heap [] := va_S.rf
  have hin_X11 : ∀ w ∈ u_ws RX11 TX11 41, w ∈ wsX11_says := by decide +kernel
  have hl := lv_entry ([.ref (X.2.1 127), .ref (X.2.1 k0), .int p1, .int p2]) (n := 5) (Nat.le_of_ble_eq_true rfl)
  rw [lg_entry_eq]
  generalize (lg_sl ([.ref (X.2.1 127), .ref (X.2.1 k0), .int p1, .int p2]) ++ List.replicate (5 - (lg_sl ([.ref (X.2.1 127), .ref (X.2.1 k0), .int p1, .int p2])).length) Slot.unset).toArray = ls at hl ⊢
  have hl : lv_has ls 5 [(0, .ref (X.2.1 127)), (1, .ref (X.2.1 k0)), (2, .int p1), (3, .int p2)] := hl
  refine lv_aload_n hx hb dX11_says_0 rfl (lv_at hl 0 rfl) ?_
  refine lv_aload_n hx hb dX11_says_1 rfl (lv_at hl 1 rfl) ?_
  refine lv_iconst (v := 2) hx hb dX11_says_2 (by decide) ?_
  refine lv_iload_n hx hb dX11_says_3 rfl (lv_at hl 2 rfl) ?_
  refine lv_iadd hx hb dX11_says_4 ?_
  have hn_1 : vp_in (2 + p1) (xlen k0) := (nl hs)
  refine xiald hC hP hk0 hn_1 dX11_says_5 ?_
  refine lv_aload_n hx hb dX11_says_6 rfl (lv_at hl 1 rfl) ?_
  refine lv_iconst (v := 2) hx hb dX11_says_7 (by decide) ?_
  refine lv_iload_n hx hb dX11_says_8 rfl (lv_at hl 3 rfl) ?_
  refine lv_iadd hx hb dX11_says_9 ?_
  have hn_2 : vp_in (2 + p2) (xlen k0) := (nl (nr hs))
  refine xiald hC hP hk0 hn_2 dX11_says_10 ?_
  refine lv_aload_n hx hb dX11_says_11 rfl (lv_at hl 0 rfl) ?_
  refine xget (ref := "AbsentPraiseModel") (T := TX11) (v := .ref (X.2.1 130)) hC hP hin_X11 xo_X11 rfl 7 (by decide) (List.mem_of_getElem? (i := 1) rfl) rfl rfl dX11_says_12 ?_
  refine lv_iload_n hx hb dX11_says_15 rfl (lv_at hl 2 rfl) ?_
  have hn_3 : vp_in p1 7 := (nl (nr (nr hs)))
  refine xiald hC hP rfl hn_3 dX11_says_16 ?_
  refine lv_iconst (v := 3) hx hb dX11_says_17 (by decide) ?_
  refine lv_icmp_eq (tgt := 35) hx hb dX11_says_18 (by decide) (fun c_4 => ?_) (fun c_4 => ?_)
  · refine lv_iconst (v := 0) hx hb dX11_says_35 (by decide) ?_
    have hn_5 : s_X11_isThere S (S k0 ((2 + p1)).toNatClampNeg) (S k0 ((2 + p2)).toNatClampNeg) 0 := (nl (sp (nr (nr (nr hs))) c_4))
    refine xcV_iR (b := 127) (As := [.int (S k0 ((2 + p1)).toNatClampNeg), .int (S k0 ((2 + p2)).toNatClampNeg), .int 0]) (rest := []) hC hP hS (k_X11_isThere l X S (S k0 ((2 + p1)).toNatClampNeg) (S k0 ((2 + p2)).toNatClampNeg) 0 hn_5) (cwV 3 hts gX11_says_X11_isThere rfl rfl rfl hd_X11_isThere ⟨Nat.le_of_ble_eq_true rfl, Nat.le_of_ble_eq_true rfl⟩) xo_X11 rfl rfl rfl hl.1 (Nat.le_of_ble_eq_true rfl) dX11_says_36 (fun r_6 hp_r_6 H locs hP hS => ?_)
    obtain ⟨hr_6, hzr_6⟩ := hp_r_6
    refine lv_istore (lv' := [(4, .int r_6), (0, .ref (X.2.1 127)), (1, .ref (X.2.1 k0)), (2, .int p1), (3, .int p2)]) hx hb dX11_says_39 hl (by decide) rfl (fun ls hl => ?_)
    refine lv_aload_n hx hb dX11_says_41 rfl (lv_at hl 1 rfl) ?_
    refine xget (ref := "AbsentPraiseModel") (T := TX11) (v := .ref (X.2.1 130)) hC hP hin_X11 xo_X11 rfl 7 (by decide) (List.mem_of_getElem? (i := 1) rfl) rfl rfl dX11_says_42 ?_
    refine lv_iload_n hx hb dX11_says_45 rfl (lv_at hl 3 rfl) ?_
    refine xiald hC hP rfl hn_3 dX11_says_46 ?_
    refine lv_aload_n hx hb dX11_says_47 rfl (lv_at hl 2 rfl) ?_
    refine lv_bipush (v := 23) hx hb dX11_says_48 (by decide) ?_
    refine lv_bipush (v := 7) hx hb dX11_says_50 (by decide) ?_
    refine lv_iload_n hx hb dX11_says_52 rfl (lv_at hl 3 rfl) ?_
    refine lv_imul hx hb dX11_says_53 ?_
    refine lv_iadd hx hb dX11_says_54 ?_
    refine lv_iload_n hx hb dX11_says_55 rfl (lv_at hl 4 rfl) ?_
    refine lv_iadd hx hb dX11_says_56 ?_
    have hn_7 : vp_in ((23 + (7 * p1)) + p2) (xlen k0) := (by have hr_6 := hr_6.symm; subst hr_6; exact nl (nr (sp (nr (nr (nr hs))) c_4)))
    refine xiald hC hP hk0 hn_7 dX11_says_57 ?_
    refine lv_iload hx hb dX11_says_58 (lv_at hl 0 rfl) ?_
    refine xcS_iR (As := [.int (S 130 (p1).toNatClampNeg), .int (S k0 (((23 + (7 * p1)) + p2)).toNatClampNeg), .int r_6]) (rest := []) hC hP hS (k_X11_sayBy l X S (S 130 (p1).toNatClampNeg) (S k0 (((23 + (7 * p1)) + p2)).toNatClampNeg) r_6) (va_cwS 3 hts gX11_says_X11_sayBy rfl rfl rfl hs_X11_sayBy ⟨Nat.le_of_ble_eq_true rfl, Nat.le_of_ble_eq_true rfl⟩) rfl rfl hl.1 (Nat.le_of_ble_eq_true rfl) dX11_says_60 (fun r_8 hr_8 H locs hP hS => ?_)
    exact xret_iR hC hP hS hb hr ((by have hr_6 := hr_6.symm; have hr_8 := hr_8.symm; subst hr_6 hr_8; exact (ip c_4 rfl))) dX11_says_63 hlocks
  · refine lv_aload_n hx hb dX11_says_21 rfl (lv_at hl 1 rfl) ?_
    refine lv_iconst (v := 1) hx hb dX11_says_22 (by decide) ?_
    have hn_9 : vp_in 1 (xlen k0) := (nl (sn (nr (nr (nr hs))) c_4))
    refine xiald hC hP hk0 hn_9 dX11_says_23 ?_
    refine lv_iload_n hx hb dX11_says_24 rfl (lv_at hl 3 rfl) ?_
    refine xcS_iR (As := [.int (S k0 (1 : Int32).toNatClampNeg), .int p2]) (rest := [.int (S k0 ((2 + p2)).toNatClampNeg), .int (S k0 ((2 + p1)).toNatClampNeg), .ref (X.2.1 127)]) hC hP hS (k_X11_has l X S (S k0 (1 : Int32).toNatClampNeg) p2) (va_cwS 2 hts gX11_says_X11_has rfl rfl rfl hs_X11_has ⟨Nat.le_of_ble_eq_true rfl, Nat.le_of_ble_eq_true rfl⟩) rfl rfl hl.1 (Nat.le_of_ble_eq_true rfl) dX11_says_25 (fun r_10 hp_r_10 H locs hP hS => ?_)
    obtain ⟨hr_10, hzr_10⟩ := hp_r_10
    refine lv_if_eq (tgt := 35) hx hb dX11_says_28 (by decide) (fun c_11 => ?_) (fun c_11 => ?_)
    · refine lv_iconst (v := 0) hx hb dX11_says_35 (by decide) ?_
      have hn_12 : s_X11_isThere S (S k0 ((2 + p1)).toNatClampNeg) (S k0 ((2 + p2)).toNatClampNeg) 0 := (by have hr_10 := hr_10.symm; subst hr_10; exact nl (sp (nr (sn (nr (nr (nr hs))) c_4)) c_11))
      refine xcV_iR (b := 127) (As := [.int (S k0 ((2 + p1)).toNatClampNeg), .int (S k0 ((2 + p2)).toNatClampNeg), .int 0]) (rest := []) hC hP hS (k_X11_isThere l X S (S k0 ((2 + p1)).toNatClampNeg) (S k0 ((2 + p2)).toNatClampNeg) 0 hn_12) (cwV 3 hts gX11_says_X11_isThere rfl rfl rfl hd_X11_isThere ⟨Nat.le_of_ble_eq_true rfl, Nat.le_of_ble_eq_true rfl⟩) xo_X11 rfl rfl rfl hl.1 (Nat.le_of_ble_eq_true rfl) dX11_says_36 (fun r_13 hp_r_13 H locs hP hS => ?_)
      obtain ⟨hr_13, hzr_13⟩ := hp_r_13
      refine lv_istore (lv' := [(4, .int r_13), (0, .ref (X.2.1 127)), (1, .ref (X.2.1 k0)), (2, .int p1), (3, .int p2)]) hx hb dX11_says_39 hl (by decide) rfl (fun ls hl => ?_)
      refine lv_aload_n hx hb dX11_says_41 rfl (lv_at hl 1 rfl) ?_
      refine xget (ref := "AbsentPraiseModel") (T := TX11) (v := .ref (X.2.1 130)) hC hP hin_X11 xo_X11 rfl 7 (by decide) (List.mem_of_getElem? (i := 1) rfl) rfl rfl dX11_says_42 ?_
      refine lv_iload_n hx hb dX11_says_45 rfl (lv_at hl 3 rfl) ?_
      refine xiald hC hP rfl hn_3 dX11_says_46 ?_
      refine lv_aload_n hx hb dX11_says_47 rfl (lv_at hl 2 rfl) ?_
      refine lv_bipush (v := 23) hx hb dX11_says_48 (by decide) ?_
      refine lv_bipush (v := 7) hx hb dX11_says_50 (by decide) ?_
      refine lv_iload_n hx hb dX11_says_52 rfl (lv_at hl 3 rfl) ?_
      refine lv_imul hx hb dX11_says_53 ?_
      refine lv_iadd hx hb dX11_says_54 ?_
      refine lv_iload_n hx hb dX11_says_55 rfl (lv_at hl 4 rfl) ?_
      refine lv_iadd hx hb dX11_says_56 ?_
      have hn_14 : vp_in ((23 + (7 * p1)) + p2) (xlen k0) := (by have hr_10 := hr_10.symm; have hr_13 := hr_13.symm; subst hr_10 hr_13; exact nl (nr (sp (nr (sn (nr (nr (nr hs))) c_4)) c_11)))
      refine xiald hC hP hk0 hn_14 dX11_says_57 ?_
      refine lv_iload hx hb dX11_says_58 (lv_at hl 0 rfl) ?_
      refine xcS_iR (As := [.int (S 130 (p1).toNatClampNeg), .int (S k0 (((23 + (7 * p1)) + p2)).toNatClampNeg), .int r_13]) (rest := []) hC hP hS (k_X11_sayBy l X S (S 130 (p1).toNatClampNeg) (S k0 (((23 + (7 * p1)) + p2)).toNatClampNeg) r_13) (va_cwS 3 hts gX11_says_X11_sayBy rfl rfl rfl hs_X11_sayBy ⟨Nat.le_of_ble_eq_true rfl, Nat.le_of_ble_eq_true rfl⟩) rfl rfl hl.1 (Nat.le_of_ble_eq_true rfl) dX11_says_60 (fun r_15 hr_15 H locs hP hS => ?_)
      exact xret_iR hC hP hS hb hr ((by have hr_10 := hr_10.symm; have hr_13 := hr_13.symm; have hr_15 := hr_15.symm; subst hr_10 hr_13 hr_15; exact (iN c_4 (ip c_11 rfl)))) dX11_says_63 hlocks
    · refine lv_iconst (v := 1) hx hb dX11_says_31 (by decide) ?_
      refine lv_goto (tgt := 36) hx hb dX11_says_32 (by decide) ?_
      have hn_16 : s_X11_isThere S (S k0 ((2 + p1)).toNatClampNeg) (S k0 ((2 + p2)).toNatClampNeg) 1 := (by have hr_10 := hr_10.symm; subst hr_10; exact nl (sn (nr (sn (nr (nr (nr hs))) c_4)) c_11))
      refine xcV_iR (b := 127) (As := [.int (S k0 ((2 + p1)).toNatClampNeg), .int (S k0 ((2 + p2)).toNatClampNeg), .int 1]) (rest := []) hC hP hS (k_X11_isThere l X S (S k0 ((2 + p1)).toNatClampNeg) (S k0 ((2 + p2)).toNatClampNeg) 1 hn_16) (cwV 3 hts gX11_says_X11_isThere rfl rfl rfl hd_X11_isThere ⟨Nat.le_of_ble_eq_true rfl, Nat.le_of_ble_eq_true rfl⟩) xo_X11 rfl rfl rfl hl.1 (Nat.le_of_ble_eq_true rfl) dX11_says_36 (fun r_17 hp_r_17 H locs hP hS => ?_)
      obtain ⟨hr_17, hzr_17⟩ := hp_r_17
      refine lv_istore (lv' := [(4, .int r_17), (0, .ref (X.2.1 127)), (1, .ref (X.2.1 k0)), (2, .int p1), (3, .int p2)]) hx hb dX11_says_39 hl (by decide) rfl (fun ls hl => ?_)
      refine lv_aload_n hx hb dX11_says_41 rfl (lv_at hl 1 rfl) ?_
      refine xget (ref := "AbsentPraiseModel") (T := TX11) (v := .ref (X.2.1 130)) hC hP hin_X11 xo_X11 rfl 7 (by decide) (List.mem_of_getElem? (i := 1) rfl) rfl rfl dX11_says_42 ?_
      refine lv_iload_n hx hb dX11_says_45 rfl (lv_at hl 3 rfl) ?_
      refine xiald hC hP rfl hn_3 dX11_says_46 ?_
      refine lv_aload_n hx hb dX11_says_47 rfl (lv_at hl 2 rfl) ?_
      refine lv_bipush (v := 23) hx hb dX11_says_48 (by decide) ?_
      refine lv_bipush (v := 7) hx hb dX11_says_50 (by decide) ?_
      refine lv_iload_n hx hb dX11_says_52 rfl (lv_at hl 3 rfl) ?_
      refine lv_imul hx hb dX11_says_53 ?_
      refine lv_iadd hx hb dX11_says_54 ?_
      refine lv_iload_n hx hb dX11_says_55 rfl (lv_at hl 4 rfl) ?_
      refine lv_iadd hx hb dX11_says_56 ?_
      have hn_18 : vp_in ((23 + (7 * p1)) + p2) (xlen k0) := (by have hr_10 := hr_10.symm; have hr_17 := hr_17.symm; subst hr_10 hr_17; exact nl (nr (sn (nr (sn (nr (nr (nr hs))) c_4)) c_11)))
      refine xiald hC hP hk0 hn_18 dX11_says_57 ?_
      refine lv_iload hx hb dX11_says_58 (lv_at hl 0 rfl) ?_
      refine xcS_iR (As := [.int (S 130 (p1).toNatClampNeg), .int (S k0 (((23 + (7 * p1)) + p2)).toNatClampNeg), .int r_17]) (rest := []) hC hP hS (k_X11_sayBy l X S (S 130 (p1).toNatClampNeg) (S k0 (((23 + (7 * p1)) + p2)).toNatClampNeg) r_17) (va_cwS 3 hts gX11_says_X11_sayBy rfl rfl rfl hs_X11_sayBy ⟨Nat.le_of_ble_eq_true rfl, Nat.le_of_ble_eq_true rfl⟩) rfl rfl hl.1 (Nat.le_of_ble_eq_true rfl) dX11_says_60 (fun r_19 hr_19 H locs hP hS => ?_)
      exact xret_iR hC hP hS hb hr ((by have hr_10 := hr_10.symm; have hr_17 := hr_17.symm; have hr_19 := hr_19.symm; subst hr_10 hr_17 hr_19; exact (iN c_4 (iN c_11 rfl)))) dX11_says_63 hlocks
theorem hd_X11_hears : yX11_hears.cls = RX11 ∧ yX11_hears.cls ≠ "java/lang/invoke/MethodHandle" ∧ yX11_hears.cls ≠ "java/lang/invoke/VarHandle" ∧ (parseMethodDescriptor yX11_hears.desc).map (fun d => d.parameters.length) = some 3 := by decide +kernel
set_option maxHeartbeats 4000000 in
set_option maxRecDepth 100000 in
theorem k_X11_hears (l : Launch) (X : xX) (S : xS) (k0 : Nat) (p1 : Int32) (p2 : Int32) (hk0 : isI k0 = true) (hs : s_X11_hears S k0 p1 p2) : Met l yX11_hears wsX11_hears ({ frames := 1, cells := 0, slots := 0, locals := 21 } : Room) (va_Pc [.ref (X.2.1 127), .ref (X.2.1 k0), .int p1, .int p2] (xI X S)) (va_Qi (fun (r : Int32) (u : xS) => (r = (f_X11_hears S k0 p1 p2) ∧ (r = 0 ∨ r = 1)) ∧ u = S) (xI X) (xA X)) 0 0 (xA X) := by
  refine Met.ofW (cc := cX11_hears) (maxL := 4) (ret := (some .boolean)) (by decide +kernel) rfl ?_
  intro p e s m args below meth c s₁ B hml hv
  obtain ⟨rfl, hP, hK, hN, hJ⟩ := hv
  have hx := B.exec
  have hb := B.bytes
  have hr := B.returns
  have hts := atoms_spec (ws := wsX11_hears) B.pre
  have hown : s.vm.findClass RX11 = some m.cls := findClass_of_methodNamed B.named
  have hlocks := B.notSynchronized
  have hC : xC X p m c cX11_hears 4 s _ wsX11_hears RX11 := ⟨⟨hx, hb, hml, hown, hts⟩, hK, hN, hJ⟩
  have hS : va_S (xA X) s.heap s.heap [] := va_S.rf
  have hin_X11 : ∀ w ∈ u_ws RX11 TX11 41, w ∈ wsX11_hears := by decide +kernel
  have hl := lv_entry ([.ref (X.2.1 127), .ref (X.2.1 k0), .int p1, .int p2]) (n := 4) (Nat.le_of_ble_eq_true rfl)
  rw [lg_entry_eq]
  generalize (lg_sl ([.ref (X.2.1 127), .ref (X.2.1 k0), .int p1, .int p2]) ++ List.replicate (4 - (lg_sl ([.ref (X.2.1 127), .ref (X.2.1 k0), .int p1, .int p2])).length) Slot.unset).toArray = ls at hl ⊢
  have hl : lv_has ls 4 [(0, .ref (X.2.1 127)), (1, .ref (X.2.1 k0)), (2, .int p1), (3, .int p2)] := hl
  refine lv_aload_n hx hb dX11_hears_0 rfl (lv_at hl 1 rfl) ?_
  refine lv_iconst (v := 2) hx hb dX11_hears_1 (by decide) ?_
  refine lv_iload_n hx hb dX11_hears_2 rfl (lv_at hl 2 rfl) ?_
  refine lv_iadd hx hb dX11_hears_3 ?_
  have hn_1 : vp_in (2 + p1) (xlen k0) := (nl hs)
  refine xiald hC hP hk0 hn_1 dX11_hears_4 ?_
  refine lv_aload_n hx hb dX11_hears_5 rfl (lv_at hl 1 rfl) ?_
  refine lv_iconst (v := 2) hx hb dX11_hears_6 (by decide) ?_
  refine lv_iload_n hx hb dX11_hears_7 rfl (lv_at hl 3 rfl) ?_
  refine lv_iadd hx hb dX11_hears_8 ?_
  have hn_2 : vp_in (2 + p2) (xlen k0) := (nl (nr hs))
  refine xiald hC hP hk0 hn_2 dX11_hears_9 ?_
  refine lv_icmp_eq (tgt := 34) hx hb dX11_hears_10 (by decide) (fun c_3 => ?_) (fun c_3 => ?_)
  · refine lv_iconst (v := 1) hx hb dX11_hears_34 (by decide) ?_
    refine lv_goto (tgt := 39) hx hb dX11_hears_35 (by decide) ?_
    exact xret_zR hC hP hS hb hr (.inr rfl) (((ip c_3 rfl))) dX11_hears_39 hlocks
  · refine lv_aload_n hx hb dX11_hears_13 rfl (lv_at hl 0 rfl) ?_
    refine xget (ref := "AbsentPraiseModel") (T := TX11) (v := .ref (X.2.1 128)) hC hP hin_X11 xo_X11 rfl 4 (by decide) (List.mem_of_getElem? (i := 1) rfl) rfl rfl dX11_hears_14 ?_
    refine lv_aload_n hx hb dX11_hears_17 rfl (lv_at hl 1 rfl) ?_
    refine lv_iconst (v := 2) hx hb dX11_hears_18 (by decide) ?_
    refine lv_iload_n hx hb dX11_hears_19 rfl (lv_at hl 2 rfl) ?_
    refine lv_iadd hx hb dX11_hears_20 ?_
    refine xiald hC hP hk0 hn_1 dX11_hears_21 ?_
    have hn_4 : vp_in (S k0 ((2 + p1)).toNatClampNeg) 6 := (nl (sn (nr (nr hs)) c_3))
    refine xiald hC hP rfl hn_4 dX11_hears_22 ?_
    refine lv_aload_n hx hb dX11_hears_23 rfl (lv_at hl 1 rfl) ?_
    refine lv_iconst (v := 2) hx hb dX11_hears_24 (by decide) ?_
    refine lv_iload_n hx hb dX11_hears_25 rfl (lv_at hl 3 rfl) ?_
    refine lv_iadd hx hb dX11_hears_26 ?_
    refine xiald hC hP hk0 hn_2 dX11_hears_27 ?_
    refine xcS_iR (As := [.int (S 128 ((S k0 ((2 + p1)).toNatClampNeg)).toNatClampNeg), .int (S k0 ((2 + p2)).toNatClampNeg)]) (rest := []) hC hP hS (k_X11_has l X S (S 128 ((S k0 ((2 + p1)).toNatClampNeg)).toNatClampNeg) (S k0 ((2 + p2)).toNatClampNeg)) (va_cwS 2 hts gX11_hears_X11_has rfl rfl rfl hs_X11_has ⟨Nat.le_of_ble_eq_true rfl, Nat.le_of_ble_eq_true rfl⟩) rfl rfl hl.1 (Nat.le_of_ble_eq_true rfl) dX11_hears_28 (fun r_5 hp_r_5 H locs hP hS => ?_)
    obtain ⟨hr_5, hzr_5⟩ := hp_r_5
    refine lv_if_eq (tgt := 38) hx hb dX11_hears_31 (by decide) (fun c_6 => ?_) (fun c_6 => ?_)
    · refine lv_iconst (v := 0) hx hb dX11_hears_38 (by decide) ?_
      exact xret_zR hC hP hS hb hr (.inl rfl) ((by have hr_5 := hr_5.symm; subst hr_5; exact (iN c_3 (ip c_6 rfl)))) dX11_hears_39 hlocks
    · refine lv_iconst (v := 1) hx hb dX11_hears_34 (by decide) ?_
      refine lv_goto (tgt := 39) hx hb dX11_hears_35 (by decide) ?_
      exact xret_zR hC hP hS hb hr (.inr rfl) ((by have hr_5 := hr_5.symm; subst hr_5; exact (iN c_3 (iN c_6 rfl)))) dX11_hears_39 hlocks
theorem hd_X11_spokenOf : yX11_spokenOf.cls = RX11 ∧ yX11_spokenOf.cls ≠ "java/lang/invoke/MethodHandle" ∧ yX11_spokenOf.cls ≠ "java/lang/invoke/VarHandle" ∧ (parseMethodDescriptor yX11_spokenOf.desc).map (fun d => d.parameters.length) = some 2 := by decide +kernel
set_option maxHeartbeats 4000000 in
set_option maxRecDepth 100000 in
theorem k_X11_spokenOf (l : Launch) (X : xX) (S : xS) (p0 : Int32) (p1 : Int32) (hs : s_X11_spokenOf S p0 p1) : Met l yX11_spokenOf wsX11_spokenOf ({ frames := 0, cells := 0, slots := 0, locals := 0 } : Room) (va_Pc [.ref (X.2.1 127), .int p0, .int p1] (xI X S)) (va_Qi (fun (r : Int32) (u : xS) => r = (f_X11_spokenOf S p0 p1) ∧ u = S) (xI X) (xA X)) 0 0 (xA X) := by
  refine Met.ofW (cc := cX11_spokenOf) (maxL := 3) (ret := (some .int)) (by decide +kernel) rfl ?_
  intro p e s m args below meth c s₁ B hml hv
  obtain ⟨rfl, hP, hK, hN, hJ⟩ := hv
  have hx := B.exec
  have hb := B.bytes
  have hr := B.returns
  have hts := atoms_spec (ws := wsX11_spokenOf) B.pre
  have hown : s.vm.findClass RX11 = some m.cls := findClass_of_methodNamed B.named
  have hlocks := B.notSynchronized
  have hC : xC X p m c cX11_spokenOf 3 s _ wsX11_spokenOf RX11 := ⟨⟨hx, hb, hml, hown, hts⟩, hK, hN, hJ⟩
  have hS : va_S (xA X) s.heap s.heap [] := va_S.rf
  have hin_X11 : ∀ w ∈ u_ws RX11 TX11 41, w ∈ wsX11_spokenOf := by decide +kernel
  have hl := lv_entry ([.ref (X.2.1 127), .int p0, .int p1]) (n := 3) (Nat.le_of_ble_eq_true rfl)
  rw [lg_entry_eq]
  generalize (lg_sl ([.ref (X.2.1 127), .int p0, .int p1]) ++ List.replicate (3 - (lg_sl ([.ref (X.2.1 127), .int p0, .int p1])).length) Slot.unset).toArray = ls at hl ⊢
  have hl : lv_has ls 3 [(0, .ref (X.2.1 127)), (1, .int p0), (2, .int p1)] := hl
  refine lv_iload_n hx hb dX11_spokenOf_0 rfl (lv_at hl 1 rfl) ?_
  refine lv_iload_n hx hb dX11_spokenOf_1 rfl (lv_at hl 2 rfl) ?_
  refine lv_iadd hx hb dX11_spokenOf_2 ?_
  refine lv_iconst (v := 1) hx hb dX11_spokenOf_3 (by decide) ?_
  refine lv_iadd hx hb dX11_spokenOf_4 ?_
  refine lv_aload_n hx hb dX11_spokenOf_5 rfl (lv_at hl 0 rfl) ?_
  refine xget (ref := "AbsentPraiseModel") (T := TX11) (v := .int (S 127 6)) hC hP hin_X11 xo_X11 rfl 6 (by decide) (List.mem_of_getElem? (i := 1) rfl) rfl rfl dX11_spokenOf_6 ?_
  have hn_1 : ¬ ((S 127 6) = 0) := (nl hs)
  refine lv_irem hx hb dX11_spokenOf_9 hn_1 ?_
  exact xret_iR hC hP hS hb hr ((rfl)) dX11_spokenOf_10 hlocks
theorem hd_X11_saidAll : yX11_saidAll.cls = RX11 ∧ yX11_saidAll.cls ≠ "java/lang/invoke/MethodHandle" ∧ yX11_saidAll.cls ≠ "java/lang/invoke/VarHandle" ∧ (parseMethodDescriptor yX11_saidAll.desc).map (fun d => d.parameters.length) = some 1 := by decide +kernel
set_option maxHeartbeats 4000000 in
set_option maxRecDepth 100000 in
theorem k_X11_saidAll (l : Launch) (X : xX) (S : xS) (k0 : Nat) (hk0 : isI k0 = true) (hs : s_X11_saidAll S k0) : Met l yX11_saidAll wsX11_saidAll ({ frames := 3, cells := 0, slots := 0, locals := 68 } : Room) (va_Pc [.ref (X.2.1 127), .ref (X.2.1 k0)] (xI X S)) (va_Qi (fun (r : Int32) (u : xS) => r = (f_X11_saidAll S k0) ∧ u = S) (xI X) (xA X)) 0 0 (xA X) := by
  refine Met.ofW (cc := cX11_saidAll) (maxL := 5) (ret := (some .int)) (by decide +kernel) rfl ?_
  intro p e s m args below meth c s₁ B hml hv
  obtain ⟨rfl, hP, hK, hN, hJ⟩ := hv
  have hx := B.exec
  have hb := B.bytes
  have hr := B.returns
  have hts := atoms_spec (ws := wsX11_saidAll) B.pre
  have hown : s.vm.findClass RX11 = some m.cls := findClass_of_methodNamed B.named
  have hlocks := B.notSynchronized
  have hC : xC X p m c cX11_saidAll 5 s _ wsX11_saidAll RX11 := ⟨⟨hx, hb, hml, hown, hts⟩, hK, hN, hJ⟩
  have hS : va_S (xA X) s.heap s.heap [] := va_S.rf
  have hin_X11 : ∀ w ∈ u_ws RX11 TX11 41, w ∈ wsX11_saidAll := by decide +kernel
  have hl := lv_entry ([.ref (X.2.1 127), .ref (X.2.1 k0)]) (n := 5) (Nat.le_of_ble_eq_true rfl)
  rw [lg_entry_eq]
  generalize (lg_sl ([.ref (X.2.1 127), .ref (X.2.1 k0)]) ++ List.replicate (5 - (lg_sl ([.ref (X.2.1 127), .ref (X.2.1 k0)])).length) Slot.unset).toArray = ls at hl ⊢
  have hl : lv_has ls 5 [(0, .ref (X.2.1 127)), (1, .ref (X.2.1 k0))] := hl
  refine lv_iconst (v := 0) hx hb dX11_saidAll_0 (by decide) ?_
  refine lv_istore_n (lv' := [(2, .int 0), (0, .ref (X.2.1 127)), (1, .ref (X.2.1 k0))]) hx hb dX11_saidAll_1 rfl hl (by decide) rfl (fun ls hl => ?_)
  refine lv_iconst (v := 0) hx hb dX11_saidAll_2 (by decide) ?_
  refine lv_istore_n (lv' := [(3, .int 0), (2, .int 0), (0, .ref (X.2.1 127)), (1, .ref (X.2.1 k0))]) hx hb dX11_saidAll_3 rfl hl (by decide) rfl (fun ls hl => ?_)
  have hLp_4 : ∀ (n : Nat) (x2_4 : Int32) (x3_4 : Int32), s_X11_saidAll_L4 n S k0 x2_4 x3_4 → (∀ q : Int32, q = f_X11_saidAll_L4 n S k0 x2_4 x3_4 → (∀ (H : Heap) (locs : List Loc), va_P X.1 vwCl (xW X S) H → va_S (xA X) s.heap H locs → ∀ (ls : Array Slot), lv_has ls 5 [(2, .int q)] → W p l e ({ frames := 3, cells := 0, slots := 0, locals := 68 } : Room) s m ([.ref (X.2.1 127), .ref (X.2.1 k0)] : List Value).toArray below meth c H locs 0 0 (MQ below (va_Qi (fun (r : Int32) (u : xS) => r = (f_X11_saidAll S k0) ∧ u = S) (xI X) (xA X)) ([.ref (X.2.1 127), .ref (X.2.1 k0)] : List Value).toArray s 0 0 (xA X)) (F0 m 49 ls []))) → ∀ (H : Heap) (locs : List Loc), va_P X.1 vwCl (xW X S) H → va_S (xA X) s.heap H locs → ∀ (ls : Array Slot), lv_has ls 5 [(0, .ref (X.2.1 127)), (1, .ref (X.2.1 k0)), (2, .int x2_4), (3, .int x3_4)] → W p l e ({ frames := 3, cells := 0, slots := 0, locals := 68 } : Room) s m ([.ref (X.2.1 127), .ref (X.2.1 k0)] : List Value).toArray below meth c H locs 0 0 (MQ below (va_Qi (fun (r : Int32) (u : xS) => r = (f_X11_saidAll S k0) ∧ u = S) (xI X) (xA X)) ([.ref (X.2.1 127), .ref (X.2.1 k0)] : List Value).toArray s 0 0 (xA X)) (F0 m 4 ls []) := by
    intro n
    induction n with
    | zero => intro x2_4 x3_4 hs; exact hs.elim
    | succ n ih_4 =>
      intro x2_4 x3_4 hs_4 hex_4 H locs hP hS ls hl
      refine lv_iload_n hx hb dX11_saidAll_4 rfl (lv_at hl 3 rfl) ?_
      refine lv_aload_n hx hb dX11_saidAll_5 rfl (lv_at hl 0 rfl) ?_
      refine xget (ref := "AbsentPraiseModel") (T := TX11) (v := .int (S 127 6)) hC hP hin_X11 xo_X11 rfl 6 (by decide) (List.mem_of_getElem? (i := 1) rfl) rfl rfl dX11_saidAll_6 ?_
      refine lv_icmp_ge (tgt := 49) hx hb dX11_saidAll_9 (by decide) (fun c_1 => ?_) (fun c_1 => ?_)
      · have he_2 : f_X11_saidAll_L4 (n + 1) S k0 x2_4 x3_4 = x2_4 := ((ip c_1 rfl))
        exact hex_4 _ he_2.symm _ _ hP hS ls (lv_sub hl [2] rfl)
      · refine lv_aload_n hx hb dX11_saidAll_12 rfl (lv_at hl 0 rfl) ?_
        refine lv_iload_n hx hb dX11_saidAll_13 rfl (lv_at hl 3 rfl) ?_
        refine lv_aload_n hx hb dX11_saidAll_14 rfl (lv_at hl 1 rfl) ?_
        refine lv_iconst (v := 0) hx hb dX11_saidAll_15 (by decide) ?_
        have hn_3 : vp_in 0 (xlen k0) := (nl (sn hs_4 c_1))
        refine xiald hC hP hk0 hn_3 dX11_saidAll_16 ?_
        have hn_4 : s_X11_spokenOf S x3_4 (S k0 (0 : Int32).toNatClampNeg) := (nl (nr (sn hs_4 c_1)))
        refine xcV_iR (b := 127) (As := [.int x3_4, .int (S k0 (0 : Int32).toNatClampNeg)]) (rest := []) hC hP hS (k_X11_spokenOf l X S x3_4 (S k0 (0 : Int32).toNatClampNeg) hn_4) (cwV 2 hts gX11_saidAll_X11_spokenOf rfl rfl rfl hd_X11_spokenOf ⟨Nat.le_of_ble_eq_true rfl, Nat.le_of_ble_eq_true rfl⟩) xo_X11 rfl rfl rfl hl.1 (Nat.le_of_ble_eq_true rfl) dX11_saidAll_17 (fun r_5 hr_5 H locs hP hS => ?_)
        refine lv_istore (lv' := [(4, .int r_5), (0, .ref (X.2.1 127)), (1, .ref (X.2.1 k0)), (2, .int x2_4), (3, .int x3_4)]) hx hb dX11_saidAll_20 hl (by decide) rfl (fun ls hl => ?_)
        refine lv_iload_n hx hb dX11_saidAll_22 rfl (lv_at hl 3 rfl) ?_
        refine lv_iload hx hb dX11_saidAll_23 (lv_at hl 0 rfl) ?_
        refine lv_iload_n hx hb dX11_saidAll_25 rfl (lv_at hl 4 rfl) ?_
        refine lv_icmp_ne (tgt := 33) hx hb dX11_saidAll_26 (by decide) (fun c_6 => ?_) (fun c_6 => ?_)
        · refine lv_aload_n hx hb dX11_saidAll_33 rfl (lv_at hl 1 rfl) ?_
          refine lv_aload_n hx hb dX11_saidAll_34 rfl (lv_at hl 2 rfl) ?_
          refine lv_iload_n hx hb dX11_saidAll_35 rfl (lv_at hl 4 rfl) ?_
          refine lv_iload hx hb dX11_saidAll_36 (lv_at hl 0 rfl) ?_
          have hn_7 : s_X11_says S k0 x3_4 r_5 := (by have hr_5 := hr_5.symm; subst hr_5; exact nl (sn (nr (nr (sn hs_4 c_1))) c_6))
          refine xcV_iR (b := 127) (As := [.ref (X.2.1 k0), .int x3_4, .int r_5]) (rest := [.int x2_4]) hC hP hS (k_X11_says l X S k0 x3_4 r_5 hk0 hn_7) (cwV 3 hts gX11_saidAll_X11_says rfl rfl rfl hd_X11_says ⟨Nat.le_of_ble_eq_true rfl, Nat.le_of_ble_eq_true rfl⟩) xo_X11 rfl rfl rfl hl.1 (Nat.le_of_ble_eq_true rfl) dX11_saidAll_38 (fun r_8 hr_8 H locs hP hS => ?_)
          refine lv_iadd hx hb dX11_saidAll_41 ?_
          refine lv_istore_n (lv' := [(2, .int (x2_4 + r_8)), (4, .int r_5), (0, .ref (X.2.1 127)), (1, .ref (X.2.1 k0)), (3, .int x3_4)]) hx hb dX11_saidAll_42 rfl hl (by decide) rfl (fun ls hl => ?_)
          refine lv_iinc (v := (x3_4 + 1)) (lv' := [(3, .int (x3_4 + 1)), (2, .int (x2_4 + r_8)), (4, .int r_5), (0, .ref (X.2.1 127)), (1, .ref (X.2.1 k0))]) hx hb dX11_saidAll_43 hl (k := 4) rfl rfl (by decide) rfl (fun ls hl => ?_)
          refine lv_goto (tgt := 4) hx hb dX11_saidAll_46 (by decide) ?_
          have he_9 : f_X11_saidAll_L4 (n + 1) S k0 x2_4 x3_4 = f_X11_saidAll_L4 n S k0 (x2_4 + r_8) (x3_4 + 1) := (by have hr_5 := hr_5.symm; have hr_8 := hr_8.symm; subst hr_5 hr_8; exact (iN c_1 (iN c_6 rfl)))
          exact ih_4 (x2_4 + r_8) (x3_4 + 1) (by have hr_5 := hr_5.symm; have hr_8 := hr_8.symm; subst hr_5 hr_8; exact (nr (sn (nr (nr (sn hs_4 c_1))) c_6))) (fun q hq => hex_4 q (hq.trans he_9.symm)) _ _ hP hS ls (lv_sub hl [3, 4, 1, 0] rfl)
        · refine lv_iconst (v := 0) hx hb dX11_saidAll_29 (by decide) ?_
          refine lv_goto (tgt := 41) hx hb dX11_saidAll_30 (by decide) ?_
          refine lv_iadd hx hb dX11_saidAll_41 ?_
          refine lv_istore_n (lv' := [(2, .int (x2_4 + 0)), (4, .int r_5), (0, .ref (X.2.1 127)), (1, .ref (X.2.1 k0)), (3, .int x3_4)]) hx hb dX11_saidAll_42 rfl hl (by decide) rfl (fun ls hl => ?_)
          refine lv_iinc (v := (x3_4 + 1)) (lv' := [(3, .int (x3_4 + 1)), (2, .int (x2_4 + 0)), (4, .int r_5), (0, .ref (X.2.1 127)), (1, .ref (X.2.1 k0))]) hx hb dX11_saidAll_43 hl (k := 4) rfl rfl (by decide) rfl (fun ls hl => ?_)
          refine lv_goto (tgt := 4) hx hb dX11_saidAll_46 (by decide) ?_
          have he_10 : f_X11_saidAll_L4 (n + 1) S k0 x2_4 x3_4 = f_X11_saidAll_L4 n S k0 (x2_4 + 0) (x3_4 + 1) := (by have hr_5 := hr_5.symm; subst hr_5; exact (iN c_1 (ip c_6 rfl)))
          exact ih_4 (x2_4 + 0) (x3_4 + 1) (by have hr_5 := hr_5.symm; subst hr_5; exact (sp (nr (nr (sn hs_4 c_1))) c_6)) (fun q hq => hex_4 q (hq.trans he_10.symm)) _ _ hP hS ls (lv_sub hl [3, 4, 1, 0] rfl)
  refine hLp_4 ((fu 0 (S 127 6))) 0 0 (nl hs) (fun q_4 hq_4 H locs hP hS ls hl => ?_) _ _ hP hS ls (lv_sub hl [2, 3, 1, 0] rfl)
  refine lv_iload_n hx hb dX11_saidAll_49 rfl (lv_at hl 0 rfl) ?_
  exact xret_iR hC hP hS hb hr ((by have hq_4 := hq_4.symm; subst hq_4; exact rfl)) dX11_saidAll_50 hlocks
