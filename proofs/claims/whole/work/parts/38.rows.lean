set_option linter.all false
/-! contracts: X11_warmer -/
theorem hd_X11_warmer : yX11_warmer.cls = RX11 ∧ yX11_warmer.cls ≠ "java/lang/invoke/MethodHandle" ∧ yX11_warmer.cls ≠ "java/lang/invoke/VarHandle" ∧ (parseMethodDescriptor yX11_warmer.desc).map (fun d => d.parameters.length) = some 4 := by decide +kernel
set_option maxHeartbeats 4000000 in
set_option maxRecDepth 100000 in
theorem k_X11_warmer (l : Launch) (X : xX) (S : xS) (p0 : Int32) (p1 : Int32) (p2 : Int32) (p3 : Int32) (hs : s_X11_warmer S p0 p1 p2 p3) : Met l yX11_warmer wsX11_warmer ({ frames := 3, cells := 0, slots := 0, locals := 68 } : Room) (va_Pc [.ref (X.2.1 127), .int p0, .int p1, .int p2, .int p3] (xI X S)) (va_Qi (fun (r : Int32) (u : xS) => r = (f_X11_warmer S p0 p1 p2 p3).1 ∧ u = (f_X11_warmer S p0 p1 p2 p3).2) (xI X) (xA X)) 0 0 (xA X) := by
  refine Met.ofW (cc := cX11_warmer) (maxL := 7) (ret := (some .int)) (by decide +kernel) rfl ?_
  intro p e s m args below meth c s₁ B hml hv
  obtain ⟨rfl, hP, hK, hN, hJ⟩ := hv
  have hx := B.exec
  have hb := B.bytes
  have hr := B.returns
  have hts := atoms_spec (ws := wsX11_warmer) B.pre
  have hown : s.vm.findClass RX11 = some m.cls := findClass_of_methodNamed B.named
  have hlocks := B.notSynchronized
  have hC : xC X p m c cX11_warmer 7 s _ wsX11_warmer RX11 := ⟨⟨hx, hb, hml, hown, hts⟩, hK, hN, hJ⟩
  have hS : va_S (xA X) s.heap s.heap [] := va_S.rf
  have hin_X11 : ∀ w ∈ u_ws RX11 TX11 41, w ∈ wsX11_warmer := by decide +kernel
  have hl := lv_entry ([.ref (X.2.1 127), .int p0, .int p1, .int p2, .int p3]) (n := 7) (Nat.le_of_ble_eq_true rfl)
  rw [lg_entry_eq]
  generalize (lg_sl ([.ref (X.2.1 127), .int p0, .int p1, .int p2, .int p3]) ++ List.replicate (7 - (lg_sl ([.ref (X.2.1 127), .int p0, .int p1, .int p2, .int p3])).length) Slot.unset).toArray = ls at hl ⊢
  have hl : lv_has ls 7 [(0, .ref (X.2.1 127)), (1, .int p0), (2, .int p1), (3, .int p2), (4, .int p3)] := hl
  refine lv_aload_n hx hb dX11_warmer_0 rfl (lv_at hl 0 rfl) ?_
  refine xget (ref := "AbsentPraiseModel") (T := TX11) (v := .ref (X.2.1 132)) hC hP hin_X11 xo_X11 rfl 9 (by decide) (List.mem_of_getElem? (i := 1) rfl) rfl rfl dX11_warmer_1 ?_
  refine lv_iconst (v := 2) hx hb dX11_warmer_4 (by decide) ?_
  refine lv_iload_n hx hb dX11_warmer_5 rfl (lv_at hl 1 rfl) ?_
  refine lv_iadd hx hb dX11_warmer_6 ?_
  refine lv_iload_n hx hb dX11_warmer_7 rfl (lv_at hl 2 rfl) ?_
  have hn_1 : vp_in (2 + p0) 72 := (nl hs)
  refine xiast hC hP hS rfl hn_1 dX11_warmer_8 (fun S_2 hS_2 H locs hP hS => ?_)
  refine lv_aload_n hx hb dX11_warmer_9 rfl (lv_at hl 0 rfl) ?_
  refine xget (ref := "AbsentPraiseModel") (T := TX11) (v := .ref (X.2.1 132)) hC hP hin_X11 xo_X11 rfl 9 (by decide) (List.mem_of_getElem? (i := 1) rfl) rfl rfl dX11_warmer_10 ?_
  refine lv_iconst (v := 1) hx hb dX11_warmer_13 (by decide) ?_
  refine lv_iload hx hb dX11_warmer_14 (lv_at hl 4 rfl) ?_
  refine lv_if_eq (tgt := 28) hx hb dX11_warmer_16 (by decide) (fun c_3 => ?_) (fun c_3 => ?_)
  · refine lv_iconst (v := 0) hx hb dX11_warmer_28 (by decide) ?_
    refine xiast hC hP hS rfl (vp_lit (by decide)) dX11_warmer_29 (fun S_4 hS_4 H locs hP hS => ?_)
    refine lv_iconst (v := 0) hx hb dX11_warmer_30 (by decide) ?_
    refine lv_istore (lv' := [(5, .int 0), (0, .ref (X.2.1 127)), (1, .int p0), (2, .int p1), (3, .int p2), (4, .int p3)]) hx hb dX11_warmer_31 hl (by decide) rfl (fun ls hl => ?_)
    refine lv_iconst (v := 0) hx hb dX11_warmer_33 (by decide) ?_
    refine lv_istore (lv' := [(6, .int 0), (5, .int 0), (0, .ref (X.2.1 127)), (1, .int p0), (2, .int p1), (3, .int p2), (4, .int p3)]) hx hb dX11_warmer_34 hl (by decide) rfl (fun ls hl => ?_)
    have hLp_36 : ∀ (n : Nat) (x1_36 : Int32) (x3_36 : Int32) (x5_36 : Int32) (x6_36 : Int32), s_X11_warmer_L36 n S_4 x1_36 x3_36 x5_36 x6_36 → (∀ q : Int32, q = f_X11_warmer_L36 n S_4 x1_36 x3_36 x5_36 x6_36 → (∀ (H : Heap) (locs : List Loc), va_P X.1 vwCl (xW X S_4) H → va_S (xA X) s.heap H locs → ∀ (ls : Array Slot), lv_has ls 7 [(5, .int q)] → W p l e ({ frames := 3, cells := 0, slots := 0, locals := 68 } : Room) s m ([.ref (X.2.1 127), .int p0, .int p1, .int p2, .int p3] : List Value).toArray below meth c H locs 0 0 (MQ below (va_Qi (fun (r : Int32) (u : xS) => r = (f_X11_warmer S p0 p1 p2 p3).1 ∧ u = (f_X11_warmer S p0 p1 p2 p3).2) (xI X) (xA X)) ([.ref (X.2.1 127), .int p0, .int p1, .int p2, .int p3] : List Value).toArray s 0 0 (xA X)) (F0 m 102 ls []))) → ∀ (H : Heap) (locs : List Loc), va_P X.1 vwCl (xW X S_4) H → va_S (xA X) s.heap H locs → ∀ (ls : Array Slot), lv_has ls 7 [(0, .ref (X.2.1 127)), (1, .int x1_36), (3, .int x3_36), (5, .int x5_36), (6, .int x6_36)] → W p l e ({ frames := 3, cells := 0, slots := 0, locals := 68 } : Room) s m ([.ref (X.2.1 127), .int p0, .int p1, .int p2, .int p3] : List Value).toArray below meth c H locs 0 0 (MQ below (va_Qi (fun (r : Int32) (u : xS) => r = (f_X11_warmer S p0 p1 p2 p3).1 ∧ u = (f_X11_warmer S p0 p1 p2 p3).2) (xI X) (xA X)) ([.ref (X.2.1 127), .int p0, .int p1, .int p2, .int p3] : List Value).toArray s 0 0 (xA X)) (F0 m 36 ls []) := by
      intro n
      induction n with
      | zero => intro x1_36 x3_36 x5_36 x6_36 hs; exact hs.elim
      | succ n ih_36 =>
        intro x1_36 x3_36 x5_36 x6_36 hs_36 hex_36 H locs hP hS ls hl
        refine lv_iload hx hb dX11_warmer_36 (lv_at hl 4 rfl) ?_
        refine lv_aload_n hx hb dX11_warmer_38 rfl (lv_at hl 0 rfl) ?_
        refine xget (ref := "AbsentPraiseModel") (T := TX11) (v := .int (S_4 127 6)) hC hP hin_X11 xo_X11 rfl 6 (by decide) (List.mem_of_getElem? (i := 3) rfl) rfl rfl dX11_warmer_39 ?_
        refine lv_icmp_ge (tgt := 102) hx hb dX11_warmer_42 (by decide) (fun c_5 => ?_) (fun c_5 => ?_)
        · have he_6 : f_X11_warmer_L36 (n + 1) S_4 x1_36 x3_36 x5_36 x6_36 = x5_36 := ((ip c_5 rfl))
          exact hex_36 _ he_6.symm _ _ hP hS ls (lv_sub hl [3] rfl)
        · refine lv_iload hx hb dX11_warmer_45 (lv_at hl 3 rfl) ?_
          refine lv_iload hx hb dX11_warmer_47 (lv_at hl 4 rfl) ?_
          refine lv_iload_n hx hb dX11_warmer_49 rfl (lv_at hl 1 rfl) ?_
          refine lv_icmp_eq (tgt := 92) hx hb dX11_warmer_50 (by decide) (fun c_7 => ?_) (fun c_7 => ?_)
          · refine lv_iconst (v := 0) hx hb dX11_warmer_92 (by decide) ?_
            refine lv_iadd hx hb dX11_warmer_93 ?_
            refine lv_istore (lv' := [(5, .int (x5_36 + 0)), (0, .ref (X.2.1 127)), (1, .int x1_36), (3, .int x3_36), (6, .int x6_36)]) hx hb dX11_warmer_94 hl (by decide) rfl (fun ls hl => ?_)
            refine lv_iinc (v := (x6_36 + 1)) (lv' := [(6, .int (x6_36 + 1)), (5, .int (x5_36 + 0)), (0, .ref (X.2.1 127)), (1, .int x1_36), (3, .int x3_36)]) hx hb dX11_warmer_96 hl (k := 4) rfl rfl (by decide) rfl (fun ls hl => ?_)
            refine lv_goto (tgt := 36) hx hb dX11_warmer_99 (by decide) ?_
            have he_8 : f_X11_warmer_L36 (n + 1) S_4 x1_36 x3_36 x5_36 x6_36 = f_X11_warmer_L36 n S_4 x1_36 x3_36 (x5_36 + 0) (x6_36 + 1) := ((iN c_5 (ip c_7 rfl)))
            exact ih_36 x1_36 x3_36 (x5_36 + 0) (x6_36 + 1) ((sp (sn hs_36 c_5) c_7)) (fun q hq => hex_36 q (hq.trans he_8.symm)) _ _ hP hS ls (lv_sub hl [2, 3, 4, 1, 0] rfl)
          · refine lv_aload_n hx hb dX11_warmer_53 rfl (lv_at hl 0 rfl) ?_
            refine lv_iload hx hb dX11_warmer_54 (lv_at hl 4 rfl) ?_
            refine lv_iload_n hx hb dX11_warmer_56 rfl (lv_at hl 2 rfl) ?_
            have hn_9 : s_X11_spokenOf S_4 x6_36 x3_36 := (nl (sn (sn hs_36 c_5) c_7))
            refine xcV_iR (b := 127) (As := [.int x6_36, .int x3_36]) (rest := [.int x5_36]) hC hP hS (k_X11_spokenOf l X S_4 x6_36 x3_36 hn_9) (cwV 2 hts gX11_warmer_X11_spokenOf rfl rfl rfl hd_X11_spokenOf ⟨Nat.le_of_ble_eq_true rfl, Nat.le_of_ble_eq_true rfl⟩) xo_X11 rfl rfl rfl hl.1 (Nat.le_of_ble_eq_true rfl) dX11_warmer_57 (fun r_10 hr_10 H locs hP hS => ?_)
            refine lv_iload_n hx hb dX11_warmer_60 rfl (lv_at hl 1 rfl) ?_
            refine lv_icmp_ne (tgt := 92) hx hb dX11_warmer_61 (by decide) (fun c_11 => ?_) (fun c_11 => ?_)
            · refine lv_iconst (v := 0) hx hb dX11_warmer_92 (by decide) ?_
              refine lv_iadd hx hb dX11_warmer_93 ?_
              refine lv_istore (lv' := [(5, .int (x5_36 + 0)), (0, .ref (X.2.1 127)), (1, .int x1_36), (3, .int x3_36), (6, .int x6_36)]) hx hb dX11_warmer_94 hl (by decide) rfl (fun ls hl => ?_)
              refine lv_iinc (v := (x6_36 + 1)) (lv' := [(6, .int (x6_36 + 1)), (5, .int (x5_36 + 0)), (0, .ref (X.2.1 127)), (1, .int x1_36), (3, .int x3_36)]) hx hb dX11_warmer_96 hl (k := 4) rfl rfl (by decide) rfl (fun ls hl => ?_)
              refine lv_goto (tgt := 36) hx hb dX11_warmer_99 (by decide) ?_
              have he_12 : f_X11_warmer_L36 (n + 1) S_4 x1_36 x3_36 x5_36 x6_36 = f_X11_warmer_L36 n S_4 x1_36 x3_36 (x5_36 + 0) (x6_36 + 1) := (by have hr_10 := hr_10.symm; subst hr_10; exact (iN c_5 (iN c_7 (iN c_11 rfl))))
              exact ih_36 x1_36 x3_36 (x5_36 + 0) (x6_36 + 1) (by have hr_10 := hr_10.symm; subst hr_10; exact (sn (nr (sn (sn hs_36 c_5) c_7)) c_11)) (fun q hq => hex_36 q (hq.trans he_12.symm)) _ _ hP hS ls (lv_sub hl [2, 3, 4, 1, 0] rfl)
            · refine lv_aload_n hx hb dX11_warmer_64 rfl (lv_at hl 0 rfl) ?_
              refine lv_aload_n hx hb dX11_warmer_65 rfl (lv_at hl 0 rfl) ?_
              refine xget (ref := "AbsentPraiseModel") (T := TX11) (v := .ref (X.2.1 132)) hC hP hin_X11 xo_X11 rfl 9 (by decide) (List.mem_of_getElem? (i := 1) rfl) rfl rfl dX11_warmer_66 ?_
              refine lv_iload hx hb dX11_warmer_69 (lv_at hl 4 rfl) ?_
              refine lv_iload_n hx hb dX11_warmer_71 rfl (lv_at hl 1 rfl) ?_
              have hn_13 : s_X11_hears S_4 132 x6_36 x1_36 := (by have hr_10 := hr_10.symm; subst hr_10; exact nl (sp (nr (sn (sn hs_36 c_5) c_7)) c_11))
              refine xcV_iR (b := 127) (As := [.ref (X.2.1 132), .int x6_36, .int x1_36]) (rest := [.int x5_36]) hC hP hS (k_X11_hears l X S_4 132 x6_36 x1_36 rfl hn_13) (cwV 3 hts gX11_warmer_X11_hears rfl rfl rfl hd_X11_hears ⟨Nat.le_of_ble_eq_true rfl, Nat.le_of_ble_eq_true rfl⟩) xo_X11 rfl rfl rfl hl.1 (Nat.le_of_ble_eq_true rfl) dX11_warmer_72 (fun r_14 hp_r_14 H locs hP hS => ?_)
              obtain ⟨hr_14, hzr_14⟩ := hp_r_14
              refine lv_if_eq (tgt := 92) hx hb dX11_warmer_75 (by decide) (fun c_15 => ?_) (fun c_15 => ?_)
              · refine lv_iconst (v := 0) hx hb dX11_warmer_92 (by decide) ?_
                refine lv_iadd hx hb dX11_warmer_93 ?_
                refine lv_istore (lv' := [(5, .int (x5_36 + 0)), (0, .ref (X.2.1 127)), (1, .int x1_36), (3, .int x3_36), (6, .int x6_36)]) hx hb dX11_warmer_94 hl (by decide) rfl (fun ls hl => ?_)
                refine lv_iinc (v := (x6_36 + 1)) (lv' := [(6, .int (x6_36 + 1)), (5, .int (x5_36 + 0)), (0, .ref (X.2.1 127)), (1, .int x1_36), (3, .int x3_36)]) hx hb dX11_warmer_96 hl (k := 4) rfl rfl (by decide) rfl (fun ls hl => ?_)
                refine lv_goto (tgt := 36) hx hb dX11_warmer_99 (by decide) ?_
                have he_16 : f_X11_warmer_L36 (n + 1) S_4 x1_36 x3_36 x5_36 x6_36 = f_X11_warmer_L36 n S_4 x1_36 x3_36 (x5_36 + 0) (x6_36 + 1) := (by have hr_10 := hr_10.symm; have hr_14 := hr_14.symm; subst hr_10 hr_14; exact (iN c_5 (iN c_7 (ip c_11 (ip c_15 rfl)))))
                exact ih_36 x1_36 x3_36 (x5_36 + 0) (x6_36 + 1) (by have hr_10 := hr_10.symm; have hr_14 := hr_14.symm; subst hr_10 hr_14; exact (sp (nr (sp (nr (sn (sn hs_36 c_5) c_7)) c_11)) c_15)) (fun q hq => hex_36 q (hq.trans he_16.symm)) _ _ hP hS ls (lv_sub hl [2, 3, 4, 1, 0] rfl)
              · refine lv_aload_n hx hb dX11_warmer_78 rfl (lv_at hl 0 rfl) ?_
                refine lv_aload_n hx hb dX11_warmer_79 rfl (lv_at hl 0 rfl) ?_
                refine xget (ref := "AbsentPraiseModel") (T := TX11) (v := .ref (X.2.1 132)) hC hP hin_X11 xo_X11 rfl 9 (by decide) (List.mem_of_getElem? (i := 1) rfl) rfl rfl dX11_warmer_80 ?_
                refine lv_iload hx hb dX11_warmer_83 (lv_at hl 4 rfl) ?_
                refine lv_iload_n hx hb dX11_warmer_85 rfl (lv_at hl 1 rfl) ?_
                have hn_17 : s_X11_says S_4 132 x6_36 x1_36 := (by have hr_10 := hr_10.symm; have hr_14 := hr_14.symm; subst hr_10 hr_14; exact nl (sn (nr (sp (nr (sn (sn hs_36 c_5) c_7)) c_11)) c_15))
                refine xcV_iR (b := 127) (As := [.ref (X.2.1 132), .int x6_36, .int x1_36]) (rest := [.int x5_36]) hC hP hS (k_X11_says l X S_4 132 x6_36 x1_36 rfl hn_17) (cwV 3 hts gX11_warmer_X11_says rfl rfl rfl hd_X11_says ⟨Nat.le_of_ble_eq_true rfl, Nat.le_of_ble_eq_true rfl⟩) xo_X11 rfl rfl rfl hl.1 (Nat.le_of_ble_eq_true rfl) dX11_warmer_86 (fun r_18 hr_18 H locs hP hS => ?_)
                refine lv_goto (tgt := 93) hx hb dX11_warmer_89 (by decide) ?_
                refine lv_iadd hx hb dX11_warmer_93 ?_
                refine lv_istore (lv' := [(5, .int (x5_36 + r_18)), (0, .ref (X.2.1 127)), (1, .int x1_36), (3, .int x3_36), (6, .int x6_36)]) hx hb dX11_warmer_94 hl (by decide) rfl (fun ls hl => ?_)
                refine lv_iinc (v := (x6_36 + 1)) (lv' := [(6, .int (x6_36 + 1)), (5, .int (x5_36 + r_18)), (0, .ref (X.2.1 127)), (1, .int x1_36), (3, .int x3_36)]) hx hb dX11_warmer_96 hl (k := 4) rfl rfl (by decide) rfl (fun ls hl => ?_)
                refine lv_goto (tgt := 36) hx hb dX11_warmer_99 (by decide) ?_
                have he_19 : f_X11_warmer_L36 (n + 1) S_4 x1_36 x3_36 x5_36 x6_36 = f_X11_warmer_L36 n S_4 x1_36 x3_36 (x5_36 + r_18) (x6_36 + 1) := (by have hr_10 := hr_10.symm; have hr_14 := hr_14.symm; have hr_18 := hr_18.symm; subst hr_10 hr_14 hr_18; exact (iN c_5 (iN c_7 (ip c_11 (iN c_15 rfl)))))
                exact ih_36 x1_36 x3_36 (x5_36 + r_18) (x6_36 + 1) (by have hr_10 := hr_10.symm; have hr_14 := hr_14.symm; have hr_18 := hr_18.symm; subst hr_10 hr_14 hr_18; exact (nr (sn (nr (sp (nr (sn (sn hs_36 c_5) c_7)) c_11)) c_15))) (fun q hq => hex_36 q (hq.trans he_19.symm)) _ _ hP hS ls (lv_sub hl [2, 3, 4, 1, 0] rfl)
    refine hLp_36 ((fu 0 (S_4 127 6))) p0 p2 0 0 (by have hS_2 := hS_2.symm; have hS_4 := hS_4.symm; subst hS_2 hS_4; exact nl (sp (nr hs) c_3)) (fun q_36 hq_36 H locs hP hS ls hl => ?_) _ _ hP hS ls (lv_sub hl [2, 3, 5, 1, 0] rfl)
    refine lv_iload hx hb dX11_warmer_102 (lv_at hl 0 rfl) ?_
    exact xret_iW hC hP hS hb hr (by simp only [f_X11_warmer, ← hS_2, ← hS_4, ← hq_36, if_pos c_3]) dX11_warmer_104 hlocks
  · refine lv_aload_n hx hb dX11_warmer_19 rfl (lv_at hl 0 rfl) ?_
    refine xget (ref := "AbsentPraiseModel") (T := TX11) (v := .ref (X.2.1 131)) hC hP hin_X11 xo_X11 rfl 8 (by decide) (List.mem_of_getElem? (i := 2) rfl) rfl rfl dX11_warmer_20 ?_
    refine lv_iconst (v := 1) hx hb dX11_warmer_23 (by decide) ?_
    refine xiald hC hP rfl (vp_lit (by decide)) dX11_warmer_24 ?_
    refine lv_goto (tgt := 29) hx hb dX11_warmer_25 (by decide) ?_
    refine xiast hC hP hS rfl (vp_lit (by decide)) dX11_warmer_29 (fun S_20 hS_20 H locs hP hS => ?_)
    refine lv_iconst (v := 0) hx hb dX11_warmer_30 (by decide) ?_
    refine lv_istore (lv' := [(5, .int 0), (0, .ref (X.2.1 127)), (1, .int p0), (2, .int p1), (3, .int p2), (4, .int p3)]) hx hb dX11_warmer_31 hl (by decide) rfl (fun ls hl => ?_)
    refine lv_iconst (v := 0) hx hb dX11_warmer_33 (by decide) ?_
    refine lv_istore (lv' := [(6, .int 0), (5, .int 0), (0, .ref (X.2.1 127)), (1, .int p0), (2, .int p1), (3, .int p2), (4, .int p3)]) hx hb dX11_warmer_34 hl (by decide) rfl (fun ls hl => ?_)
    have hLp_36 : ∀ (n : Nat) (x1_36 : Int32) (x3_36 : Int32) (x5_36 : Int32) (x6_36 : Int32), s_X11_warmer_L36 n S_20 x1_36 x3_36 x5_36 x6_36 → (∀ q : Int32, q = f_X11_warmer_L36 n S_20 x1_36 x3_36 x5_36 x6_36 → (∀ (H : Heap) (locs : List Loc), va_P X.1 vwCl (xW X S_20) H → va_S (xA X) s.heap H locs → ∀ (ls : Array Slot), lv_has ls 7 [(5, .int q)] → W p l e ({ frames := 3, cells := 0, slots := 0, locals := 68 } : Room) s m ([.ref (X.2.1 127), .int p0, .int p1, .int p2, .int p3] : List Value).toArray below meth c H locs 0 0 (MQ below (va_Qi (fun (r : Int32) (u : xS) => r = (f_X11_warmer S p0 p1 p2 p3).1 ∧ u = (f_X11_warmer S p0 p1 p2 p3).2) (xI X) (xA X)) ([.ref (X.2.1 127), .int p0, .int p1, .int p2, .int p3] : List Value).toArray s 0 0 (xA X)) (F0 m 102 ls []))) → ∀ (H : Heap) (locs : List Loc), va_P X.1 vwCl (xW X S_20) H → va_S (xA X) s.heap H locs → ∀ (ls : Array Slot), lv_has ls 7 [(0, .ref (X.2.1 127)), (1, .int x1_36), (3, .int x3_36), (5, .int x5_36), (6, .int x6_36)] → W p l e ({ frames := 3, cells := 0, slots := 0, locals := 68 } : Room) s m ([.ref (X.2.1 127), .int p0, .int p1, .int p2, .int p3] : List Value).toArray below meth c H locs 0 0 (MQ below (va_Qi (fun (r : Int32) (u : xS) => r = (f_X11_warmer S p0 p1 p2 p3).1 ∧ u = (f_X11_warmer S p0 p1 p2 p3).2) (xI X) (xA X)) ([.ref (X.2.1 127), .int p0, .int p1, .int p2, .int p3] : List Value).toArray s 0 0 (xA X)) (F0 m 36 ls []) := by
      intro n
      induction n with
      | zero => intro x1_36 x3_36 x5_36 x6_36 hs; exact hs.elim
      | succ n ih_36 =>
        intro x1_36 x3_36 x5_36 x6_36 hs_36 hex_36 H locs hP hS ls hl
        refine lv_iload hx hb dX11_warmer_36 (lv_at hl 4 rfl) ?_
        refine lv_aload_n hx hb dX11_warmer_38 rfl (lv_at hl 0 rfl) ?_
        refine xget (ref := "AbsentPraiseModel") (T := TX11) (v := .int (S_20 127 6)) hC hP hin_X11 xo_X11 rfl 6 (by decide) (List.mem_of_getElem? (i := 3) rfl) rfl rfl dX11_warmer_39 ?_
        refine lv_icmp_ge (tgt := 102) hx hb dX11_warmer_42 (by decide) (fun c_21 => ?_) (fun c_21 => ?_)
        · have he_22 : f_X11_warmer_L36 (n + 1) S_20 x1_36 x3_36 x5_36 x6_36 = x5_36 := ((ip c_21 rfl))
          exact hex_36 _ he_22.symm _ _ hP hS ls (lv_sub hl [3] rfl)
        · refine lv_iload hx hb dX11_warmer_45 (lv_at hl 3 rfl) ?_
          refine lv_iload hx hb dX11_warmer_47 (lv_at hl 4 rfl) ?_
          refine lv_iload_n hx hb dX11_warmer_49 rfl (lv_at hl 1 rfl) ?_
          refine lv_icmp_eq (tgt := 92) hx hb dX11_warmer_50 (by decide) (fun c_23 => ?_) (fun c_23 => ?_)
          · refine lv_iconst (v := 0) hx hb dX11_warmer_92 (by decide) ?_
            refine lv_iadd hx hb dX11_warmer_93 ?_
            refine lv_istore (lv' := [(5, .int (x5_36 + 0)), (0, .ref (X.2.1 127)), (1, .int x1_36), (3, .int x3_36), (6, .int x6_36)]) hx hb dX11_warmer_94 hl (by decide) rfl (fun ls hl => ?_)
            refine lv_iinc (v := (x6_36 + 1)) (lv' := [(6, .int (x6_36 + 1)), (5, .int (x5_36 + 0)), (0, .ref (X.2.1 127)), (1, .int x1_36), (3, .int x3_36)]) hx hb dX11_warmer_96 hl (k := 4) rfl rfl (by decide) rfl (fun ls hl => ?_)
            refine lv_goto (tgt := 36) hx hb dX11_warmer_99 (by decide) ?_
            have he_24 : f_X11_warmer_L36 (n + 1) S_20 x1_36 x3_36 x5_36 x6_36 = f_X11_warmer_L36 n S_20 x1_36 x3_36 (x5_36 + 0) (x6_36 + 1) := ((iN c_21 (ip c_23 rfl)))
            exact ih_36 x1_36 x3_36 (x5_36 + 0) (x6_36 + 1) ((sp (sn hs_36 c_21) c_23)) (fun q hq => hex_36 q (hq.trans he_24.symm)) _ _ hP hS ls (lv_sub hl [2, 3, 4, 1, 0] rfl)
          · refine lv_aload_n hx hb dX11_warmer_53 rfl (lv_at hl 0 rfl) ?_
            refine lv_iload hx hb dX11_warmer_54 (lv_at hl 4 rfl) ?_
            refine lv_iload_n hx hb dX11_warmer_56 rfl (lv_at hl 2 rfl) ?_
            have hn_25 : s_X11_spokenOf S_20 x6_36 x3_36 := (nl (sn (sn hs_36 c_21) c_23))
            refine xcV_iR (b := 127) (As := [.int x6_36, .int x3_36]) (rest := [.int x5_36]) hC hP hS (k_X11_spokenOf l X S_20 x6_36 x3_36 hn_25) (cwV 2 hts gX11_warmer_X11_spokenOf rfl rfl rfl hd_X11_spokenOf ⟨Nat.le_of_ble_eq_true rfl, Nat.le_of_ble_eq_true rfl⟩) xo_X11 rfl rfl rfl hl.1 (Nat.le_of_ble_eq_true rfl) dX11_warmer_57 (fun r_26 hr_26 H locs hP hS => ?_)
            refine lv_iload_n hx hb dX11_warmer_60 rfl (lv_at hl 1 rfl) ?_
            refine lv_icmp_ne (tgt := 92) hx hb dX11_warmer_61 (by decide) (fun c_27 => ?_) (fun c_27 => ?_)
            · refine lv_iconst (v := 0) hx hb dX11_warmer_92 (by decide) ?_
              refine lv_iadd hx hb dX11_warmer_93 ?_
              refine lv_istore (lv' := [(5, .int (x5_36 + 0)), (0, .ref (X.2.1 127)), (1, .int x1_36), (3, .int x3_36), (6, .int x6_36)]) hx hb dX11_warmer_94 hl (by decide) rfl (fun ls hl => ?_)
              refine lv_iinc (v := (x6_36 + 1)) (lv' := [(6, .int (x6_36 + 1)), (5, .int (x5_36 + 0)), (0, .ref (X.2.1 127)), (1, .int x1_36), (3, .int x3_36)]) hx hb dX11_warmer_96 hl (k := 4) rfl rfl (by decide) rfl (fun ls hl => ?_)
              refine lv_goto (tgt := 36) hx hb dX11_warmer_99 (by decide) ?_
              have he_28 : f_X11_warmer_L36 (n + 1) S_20 x1_36 x3_36 x5_36 x6_36 = f_X11_warmer_L36 n S_20 x1_36 x3_36 (x5_36 + 0) (x6_36 + 1) := (by have hr_26 := hr_26.symm; subst hr_26; exact (iN c_21 (iN c_23 (iN c_27 rfl))))
              exact ih_36 x1_36 x3_36 (x5_36 + 0) (x6_36 + 1) (by have hr_26 := hr_26.symm; subst hr_26; exact (sn (nr (sn (sn hs_36 c_21) c_23)) c_27)) (fun q hq => hex_36 q (hq.trans he_28.symm)) _ _ hP hS ls (lv_sub hl [2, 3, 4, 1, 0] rfl)
            · refine lv_aload_n hx hb dX11_warmer_64 rfl (lv_at hl 0 rfl) ?_
              refine lv_aload_n hx hb dX11_warmer_65 rfl (lv_at hl 0 rfl) ?_
              refine xget (ref := "AbsentPraiseModel") (T := TX11) (v := .ref (X.2.1 132)) hC hP hin_X11 xo_X11 rfl 9 (by decide) (List.mem_of_getElem? (i := 1) rfl) rfl rfl dX11_warmer_66 ?_
              refine lv_iload hx hb dX11_warmer_69 (lv_at hl 4 rfl) ?_
              refine lv_iload_n hx hb dX11_warmer_71 rfl (lv_at hl 1 rfl) ?_
              have hn_29 : s_X11_hears S_20 132 x6_36 x1_36 := (by have hr_26 := hr_26.symm; subst hr_26; exact nl (sp (nr (sn (sn hs_36 c_21) c_23)) c_27))
              refine xcV_iR (b := 127) (As := [.ref (X.2.1 132), .int x6_36, .int x1_36]) (rest := [.int x5_36]) hC hP hS (k_X11_hears l X S_20 132 x6_36 x1_36 rfl hn_29) (cwV 3 hts gX11_warmer_X11_hears rfl rfl rfl hd_X11_hears ⟨Nat.le_of_ble_eq_true rfl, Nat.le_of_ble_eq_true rfl⟩) xo_X11 rfl rfl rfl hl.1 (Nat.le_of_ble_eq_true rfl) dX11_warmer_72 (fun r_30 hp_r_30 H locs hP hS => ?_)
              obtain ⟨hr_30, hzr_30⟩ := hp_r_30
              refine lv_if_eq (tgt := 92) hx hb dX11_warmer_75 (by decide) (fun c_31 => ?_) (fun c_31 => ?_)
              · refine lv_iconst (v := 0) hx hb dX11_warmer_92 (by decide) ?_
                refine lv_iadd hx hb dX11_warmer_93 ?_
                refine lv_istore (lv' := [(5, .int (x5_36 + 0)), (0, .ref (X.2.1 127)), (1, .int x1_36), (3, .int x3_36), (6, .int x6_36)]) hx hb dX11_warmer_94 hl (by decide) rfl (fun ls hl => ?_)
                refine lv_iinc (v := (x6_36 + 1)) (lv' := [(6, .int (x6_36 + 1)), (5, .int (x5_36 + 0)), (0, .ref (X.2.1 127)), (1, .int x1_36), (3, .int x3_36)]) hx hb dX11_warmer_96 hl (k := 4) rfl rfl (by decide) rfl (fun ls hl => ?_)
                refine lv_goto (tgt := 36) hx hb dX11_warmer_99 (by decide) ?_
                have he_32 : f_X11_warmer_L36 (n + 1) S_20 x1_36 x3_36 x5_36 x6_36 = f_X11_warmer_L36 n S_20 x1_36 x3_36 (x5_36 + 0) (x6_36 + 1) := (by have hr_26 := hr_26.symm; have hr_30 := hr_30.symm; subst hr_26 hr_30; exact (iN c_21 (iN c_23 (ip c_27 (ip c_31 rfl)))))
                exact ih_36 x1_36 x3_36 (x5_36 + 0) (x6_36 + 1) (by have hr_26 := hr_26.symm; have hr_30 := hr_30.symm; subst hr_26 hr_30; exact (sp (nr (sp (nr (sn (sn hs_36 c_21) c_23)) c_27)) c_31)) (fun q hq => hex_36 q (hq.trans he_32.symm)) _ _ hP hS ls (lv_sub hl [2, 3, 4, 1, 0] rfl)
              · refine lv_aload_n hx hb dX11_warmer_78 rfl (lv_at hl 0 rfl) ?_
                refine lv_aload_n hx hb dX11_warmer_79 rfl (lv_at hl 0 rfl) ?_
                refine xget (ref := "AbsentPraiseModel") (T := TX11) (v := .ref (X.2.1 132)) hC hP hin_X11 xo_X11 rfl 9 (by decide) (List.mem_of_getElem? (i := 1) rfl) rfl rfl dX11_warmer_80 ?_
                refine lv_iload hx hb dX11_warmer_83 (lv_at hl 4 rfl) ?_
                refine lv_iload_n hx hb dX11_warmer_85 rfl (lv_at hl 1 rfl) ?_
                have hn_33 : s_X11_says S_20 132 x6_36 x1_36 := (by have hr_26 := hr_26.symm; have hr_30 := hr_30.symm; subst hr_26 hr_30; exact nl (sn (nr (sp (nr (sn (sn hs_36 c_21) c_23)) c_27)) c_31))
                refine xcV_iR (b := 127) (As := [.ref (X.2.1 132), .int x6_36, .int x1_36]) (rest := [.int x5_36]) hC hP hS (k_X11_says l X S_20 132 x6_36 x1_36 rfl hn_33) (cwV 3 hts gX11_warmer_X11_says rfl rfl rfl hd_X11_says ⟨Nat.le_of_ble_eq_true rfl, Nat.le_of_ble_eq_true rfl⟩) xo_X11 rfl rfl rfl hl.1 (Nat.le_of_ble_eq_true rfl) dX11_warmer_86 (fun r_34 hr_34 H locs hP hS => ?_)
                refine lv_goto (tgt := 93) hx hb dX11_warmer_89 (by decide) ?_
                refine lv_iadd hx hb dX11_warmer_93 ?_
                refine lv_istore (lv' := [(5, .int (x5_36 + r_34)), (0, .ref (X.2.1 127)), (1, .int x1_36), (3, .int x3_36), (6, .int x6_36)]) hx hb dX11_warmer_94 hl (by decide) rfl (fun ls hl => ?_)
                refine lv_iinc (v := (x6_36 + 1)) (lv' := [(6, .int (x6_36 + 1)), (5, .int (x5_36 + r_34)), (0, .ref (X.2.1 127)), (1, .int x1_36), (3, .int x3_36)]) hx hb dX11_warmer_96 hl (k := 4) rfl rfl (by decide) rfl (fun ls hl => ?_)
                refine lv_goto (tgt := 36) hx hb dX11_warmer_99 (by decide) ?_
                have he_35 : f_X11_warmer_L36 (n + 1) S_20 x1_36 x3_36 x5_36 x6_36 = f_X11_warmer_L36 n S_20 x1_36 x3_36 (x5_36 + r_34) (x6_36 + 1) := (by have hr_26 := hr_26.symm; have hr_30 := hr_30.symm; have hr_34 := hr_34.symm; subst hr_26 hr_30 hr_34; exact (iN c_21 (iN c_23 (ip c_27 (iN c_31 rfl)))))
                exact ih_36 x1_36 x3_36 (x5_36 + r_34) (x6_36 + 1) (by have hr_26 := hr_26.symm; have hr_30 := hr_30.symm; have hr_34 := hr_34.symm; subst hr_26 hr_30 hr_34; exact (nr (sn (nr (sp (nr (sn (sn hs_36 c_21) c_23)) c_27)) c_31))) (fun q hq => hex_36 q (hq.trans he_35.symm)) _ _ hP hS ls (lv_sub hl [2, 3, 4, 1, 0] rfl)
    refine hLp_36 ((fu 0 (S_20 127 6))) p0 p2 0 0 (by have hS_2 := hS_2.symm; have hS_20 := hS_20.symm; subst hS_2 hS_20; exact nl (sn (nr hs) c_3)) (fun q_36 hq_36 H locs hP hS ls hl => ?_) _ _ hP hS ls (lv_sub hl [2, 3, 5, 1, 0] rfl)
    refine lv_iload hx hb dX11_warmer_102 (lv_at hl 0 rfl) ?_
    exact xret_iW hC hP hS hb hr (by simp only [f_X11_warmer, ← hS_2, ← hS_20, ← hq_36, if_neg c_3]) dX11_warmer_104 hlocks
