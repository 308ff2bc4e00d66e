/-! contracts: X11_hill, X11_fault, X11_sayBy, X11_isThere, X11_says, X11_hears, X11_spokenOf, X11_saidAll -/
theorem hd_X11_hill : yX11_hill.cls = RX11 ∧ yX11_hill.cls ≠ "java/lang/invoke/MethodHandle" ∧ yX11_hill.cls ≠ "java/lang/invoke/VarHandle" ∧ (parseMethodDescriptor yX11_hill.desc).map (fun d => d.parameters.length) = some 0 := by decide +kernel
set_option maxHeartbeats 4000000 in
set_option maxRecDepth 100000 in
theorem k_X11_hill (l : Launch) (X : xX) (S : xS) (hs : s_X11_hill S) : Met l yX11_hill wsX11_hill ({ frames := 6, cells := 0, slots := 0, locals := 135 } : Room) (va_Pc [.ref (X.2.1 127)] (xI X S)) (va_Qi (fun (r : Int32) (u : xS) => r = (f_X11_hill S).1 ∧ u = (f_X11_hill S).2) (xI X) (xA X)) 0 0 (xA X) := by
  refine Met.ofW (cc := cX11_hill) (maxL := 2) (ret := (some .int)) (by decide) rfl ?_
  intro p e s m args below meth c s₁ B hml hv
  obtain ⟨rfl, hP, hK, hN, hJ⟩ := hv
  have hx := B.exec
  have hb := B.bytes
  have hr := B.returns
  have hts := atoms_spec (ws := wsX11_hill) B.pre
  have hown : s.vm.findClass RX11 = some m.cls := findClass_of_methodNamed B.named
  have hlocks := B.notSynchronized
  have hC : xC X p m c cX11_hill 2 s _ wsX11_hill RX11 := ⟨⟨hx, hb, hml, hown, hts⟩, hK, hN, hJ⟩
  have hS : va_S (xA X) s.heap s.heap [] := va_S.rf
  have hin_X11 : ∀ w ∈ u_ws RX11 TX11 41, w ∈ wsX11_hill := by decide +kernel
  have hl := lv_entry ([.ref (X.2.1 127)]) (n := 2) (Nat.le_of_ble_eq_true rfl)
  rw [lg_entry_eq]
  generalize (lg_sl ([.ref (X.2.1 127)]) ++ List.replicate (2 - (lg_sl ([.ref (X.2.1 127)])).length) Slot.unset).toArray = ls at hl ⊢
  have hl : lv_has ls 2 [(0, .ref (X.2.1 127))] := hl
  refine lv_aload_n hx hb dX11_hill_0 rfl (lv_at hl 0 rfl) ?_
  refine lv_iconst (v := (-1)) hx hb dX11_hill_1 (by decide) ?_
  refine xput (ref := "AbsentPraiseModel") (T := TX11) (ty := .int) hC hP hS (by decide) hin_X11 tyX11 tyX11_ok nmX11 xo_X11 rfl 20 (by decide) (List.mem_of_getElem? (i := 1) rfl) rfl rfl rfl rfl rfl (Nat.le_of_ble_eq_true rfl) dX11_hill_2 rfl (fun S_1 hS_1 H locs hP hS => ?_)
  refine lv_aload_n hx hb dX11_hill_5 rfl (lv_at hl 0 rfl) ?_
  refine lv_iconst (v := 0) hx hb dX11_hill_6 (by decide) ?_
  refine xput (ref := "AbsentPraiseModel") (T := TX11) (ty := .int) hC hP hS (by decide) hin_X11 tyX11 tyX11_ok nmX11 xo_X11 rfl 21 (by decide) (List.mem_of_getElem? (i := 2) rfl) rfl rfl rfl rfl rfl (Nat.le_of_ble_eq_true rfl) dX11_hill_7 rfl (fun S_2 hS_2 H locs hP hS => ?_)
  refine lv_aload_n hx hb dX11_hill_10 rfl (lv_at hl 0 rfl) ?_
  refine lv_iconst (v := 0) hx hb dX11_hill_11 (by decide) ?_
  refine xput (ref := "AbsentPraiseModel") (T := TX11) (ty := .int) hC hP hS (by decide) hin_X11 tyX11 tyX11_ok nmX11 xo_X11 rfl 24 (by decide) (List.mem_of_getElem? (i := 3) rfl) rfl rfl rfl rfl rfl (Nat.le_of_ble_eq_true rfl) dX11_hill_12 rfl (fun S_3 hS_3 H locs hP hS => ?_)
  refine lv_aload_n hx hb dX11_hill_15 rfl (lv_at hl 0 rfl) ?_
  refine lv_iconst (v := 0) hx hb dX11_hill_16 (by decide) ?_
  refine xput (ref := "AbsentPraiseModel") (T := TX11) (ty := .int) hC hP hS (by decide) hin_X11 tyX11 tyX11_ok nmX11 xo_X11 rfl 25 (by decide) (List.mem_of_getElem? (i := 4) rfl) rfl rfl rfl rfl rfl (Nat.le_of_ble_eq_true rfl) dX11_hill_17 rfl (fun S_4 hS_4 H locs hP hS => ?_)
  refine lv_aload_n hx hb dX11_hill_20 rfl (lv_at hl 0 rfl) ?_
  refine lv_iconst (v := 0) hx hb dX11_hill_21 (by decide) ?_
  refine xput (ref := "AbsentPraiseModel") (T := TX11) (ty := .int) hC hP hS (by decide) hin_X11 tyX11 tyX11_ok nmX11 xo_X11 rfl 26 (by decide) (List.mem_of_getElem? (i := 5) rfl) rfl rfl rfl rfl rfl (Nat.le_of_ble_eq_true rfl) dX11_hill_22 rfl (fun S_5 hS_5 H locs hP hS => ?_)
  refine lv_aload_n hx hb dX11_hill_25 rfl (lv_at hl 0 rfl) ?_
  refine lv_iconst (v := 0) hx hb dX11_hill_26 (by decide) ?_
  refine xput (ref := "AbsentPraiseModel") (T := TX11) (ty := .int) hC hP hS (by decide) hin_X11 tyX11 tyX11_ok nmX11 xo_X11 rfl 27 (by decide) (List.mem_of_getElem? (i := 6) rfl) rfl rfl rfl rfl rfl (Nat.le_of_ble_eq_true rfl) dX11_hill_27 rfl (fun S_6 hS_6 H locs hP hS => ?_)
  refine lv_aload_n hx hb dX11_hill_30 rfl (lv_at hl 0 rfl) ?_
  refine lv_iconst (v := 0) hx hb dX11_hill_31 (by decide) ?_
  refine xput (ref := "AbsentPraiseModel") (T := TX11) (ty := .int) hC hP hS (by decide) hin_X11 tyX11 tyX11_ok nmX11 xo_X11 rfl 30 (by decide) (List.mem_of_getElem? (i := 7) rfl) rfl rfl rfl rfl rfl (Nat.le_of_ble_eq_true rfl) dX11_hill_32 rfl (fun S_7 hS_7 H locs hP hS => ?_)
  refine lv_aload_n hx hb dX11_hill_35 rfl (lv_at hl 0 rfl) ?_
  refine lv_iconst (v := 0) hx hb dX11_hill_36 (by decide) ?_
  refine xput (ref := "AbsentPraiseModel") (T := TX11) (ty := .int) hC hP hS (by decide) hin_X11 tyX11 tyX11_ok nmX11 xo_X11 rfl 33 (by decide) (List.mem_of_getElem? (i := 8) rfl) rfl rfl rfl rfl rfl (Nat.le_of_ble_eq_true rfl) dX11_hill_37 rfl (fun S_8 hS_8 H locs hP hS => ?_)
  refine lv_iconst (v := 0) hx hb dX11_hill_40 (by decide) ?_
  refine lv_istore_n (lv' := [(1, .int 0), (0, .ref (X.2.1 127))]) hx hb dX11_hill_41 rfl hl (by decide) rfl (fun ls hl => ?_)
  have hLp_42 : ∀ (n : Nat) (T_42 : xS) (x1_42 : Int32), s_X11_hill_L42 n T_42 x1_42 → (∀ q : xS, q = f_X11_hill_L42 n T_42 x1_42 → (∀ (H : Heap) (locs : List Loc), va_P X.1 vwCl (xW X q) H → va_S (xA X) s.heap H locs → ∀ (ls : Array Slot), lv_has ls 2 [(0, .ref (X.2.1 127))] → W p l e ({ frames := 6, cells := 0, slots := 0, locals := 135 } : Room) s m ([.ref (X.2.1 127)] : List Value).toArray below meth c H locs 0 0 (MQ below (va_Qi (fun (r : Int32) (u : xS) => r = (f_X11_hill S).1 ∧ u = (f_X11_hill S).2) (xI X) (xA X)) ([.ref (X.2.1 127)] : List Value).toArray s 0 0 (xA X)) (F0 m 68 ls []))) → ∀ (H : Heap) (locs : List Loc), va_P X.1 vwCl (xW X T_42) H → va_S (xA X) s.heap H locs → ∀ (ls : Array Slot), lv_has ls 2 [(0, .ref (X.2.1 127)), (1, .int x1_42)] → W p l e ({ frames := 6, cells := 0, slots := 0, locals := 135 } : Room) s m ([.ref (X.2.1 127)] : List Value).toArray below meth c H locs 0 0 (MQ below (va_Qi (fun (r : Int32) (u : xS) => r = (f_X11_hill S).1 ∧ u = (f_X11_hill S).2) (xI X) (xA X)) ([.ref (X.2.1 127)] : List Value).toArray s 0 0 (xA X)) (F0 m 42 ls []) := by
    intro n
    induction n with
    | zero => intro T_42 x1_42 hs; exact hs.elim
    | succ n ih_42 =>
      intro T_42 x1_42 hs_42 hex_42 H locs hP hS ls hl
      refine lv_iload_n hx hb dX11_hill_42 rfl (lv_at hl 1 rfl) ?_
      refine lv_bipush (v := 6) hx hb dX11_hill_43 (by decide) ?_
      refine lv_icmp_ge (tgt := 68) hx hb dX11_hill_45 (by decide) (fun c_9 => ?_) (fun c_9 => ?_)
      · have he_10 : f_X11_hill_L42 (n + 1) T_42 x1_42 = T_42 := ((ip c_9 rfl))
        exact hex_42 _ he_10.symm _ _ hP hS ls (lv_sub hl [0] rfl)
      · refine lv_aload_n hx hb dX11_hill_48 rfl (lv_at hl 0 rfl) ?_
        refine xget (ref := "AbsentPraiseModel") (T := TX11) (v := .ref (X.2.1 139)) hC hP hin_X11 xo_X11 rfl 28 (by decide) (List.mem_of_getElem? (i := 9) rfl) rfl rfl dX11_hill_49 ?_
        refine lv_iload_n hx hb dX11_hill_52 rfl (lv_at hl 1 rfl) ?_
        refine lv_iconst (v := 0) hx hb dX11_hill_53 (by decide) ?_
        have hn_11 : vp_in x1_42 6 := (nl (sn hs_42 c_9))
        refine xiast hC hP hS rfl hn_11 dX11_hill_54 (fun S_12 hS_12 H locs hP hS => ?_)
        refine lv_aload_n hx hb dX11_hill_55 rfl (lv_at hl 0 rfl) ?_
        refine xget (ref := "AbsentPraiseModel") (T := TX11) (v := .ref (X.2.1 140)) hC hP hin_X11 xo_X11 rfl 29 (by decide) (List.mem_of_getElem? (i := 10) rfl) rfl rfl dX11_hill_56 ?_
        refine lv_iload_n hx hb dX11_hill_59 rfl (lv_at hl 1 rfl) ?_
        refine lv_iconst (v := 0) hx hb dX11_hill_60 (by decide) ?_
        refine xiast hC hP hS rfl hn_11 dX11_hill_61 (fun S_13 hS_13 H locs hP hS => ?_)
        refine lv_iinc (v := (x1_42 + 1)) (lv' := [(1, .int (x1_42 + 1)), (0, .ref (X.2.1 127))]) hx hb dX11_hill_62 hl (k := 1) rfl rfl (by decide) rfl (fun ls hl => ?_)
        refine lv_goto (tgt := 42) hx hb dX11_hill_65 (by decide) ?_
        have he_14 : f_X11_hill_L42 (n + 1) T_42 x1_42 = f_X11_hill_L42 n S_13 (x1_42 + 1) := (by subst hS_12 hS_13; exact (iN c_9 rfl))
        exact ih_42 S_13 (x1_42 + 1) (by subst hS_12 hS_13; exact (nr (sn hs_42 c_9))) (fun q hq => hex_42 q (hq.trans he_14.symm)) _ _ hP hS ls (lv_sub hl [1, 0] rfl)
  refine hLp_42 ((fu 0 6)) S_8 0 (by subst hS_1 hS_2 hS_3 hS_4 hS_5 hS_6 hS_7 hS_8; exact nl hs) (fun q_42 hq_42 H locs hP hS ls hl => ?_) _ _ hP hS ls (lv_sub hl [1, 0] rfl)
  refine lv_iconst (v := 0) hx hb dX11_hill_68 (by decide) ?_
  refine lv_istore_n (lv' := [(1, .int 0), (0, .ref (X.2.1 127))]) hx hb dX11_hill_69 rfl hl (by decide) rfl (fun ls hl => ?_)
  have hLp_70 : ∀ (n : Nat) (T_70 : xS) (x1_70 : Int32), s_X11_hill_L70 n T_70 x1_70 → (∀ q : xS, q = f_X11_hill_L70 n T_70 x1_70 → (∀ (H : Heap) (locs : List Loc), va_P X.1 vwCl (xW X q) H → va_S (xA X) s.heap H locs → ∀ (ls : Array Slot), lv_has ls 2 [(0, .ref (X.2.1 127))] → W p l e ({ frames := 6, cells := 0, slots := 0, locals := 135 } : Room) s m ([.ref (X.2.1 127)] : List Value).toArray below meth c H locs 0 0 (MQ below (va_Qi (fun (r : Int32) (u : xS) => r = (f_X11_hill S).1 ∧ u = (f_X11_hill S).2) (xI X) (xA X)) ([.ref (X.2.1 127)] : List Value).toArray s 0 0 (xA X)) (F0 m 89 ls []))) → ∀ (H : Heap) (locs : List Loc), va_P X.1 vwCl (xW X T_70) H → va_S (xA X) s.heap H locs → ∀ (ls : Array Slot), lv_has ls 2 [(0, .ref (X.2.1 127)), (1, .int x1_70)] → W p l e ({ frames := 6, cells := 0, slots := 0, locals := 135 } : Room) s m ([.ref (X.2.1 127)] : List Value).toArray below meth c H locs 0 0 (MQ below (va_Qi (fun (r : Int32) (u : xS) => r = (f_X11_hill S).1 ∧ u = (f_X11_hill S).2) (xI X) (xA X)) ([.ref (X.2.1 127)] : List Value).toArray s 0 0 (xA X)) (F0 m 70 ls []) := by
    intro n
    induction n with
    | zero => intro T_70 x1_70 hs; exact hs.elim
    | succ n ih_70 =>
      intro T_70 x1_70 hs_70 hex_70 H locs hP hS ls hl
      refine lv_iload_n hx hb dX11_hill_70 rfl (lv_at hl 1 rfl) ?_
      refine lv_bipush (v := 49) hx hb dX11_hill_71 (by decide) ?_
      refine lv_icmp_ge (tgt := 89) hx hb dX11_hill_73 (by decide) (fun c_15 => ?_) (fun c_15 => ?_)
      · have he_16 : f_X11_hill_L70 (n + 1) T_70 x1_70 = T_70 := ((ip c_15 rfl))
        exact hex_70 _ he_16.symm _ _ hP hS ls (lv_sub hl [0] rfl)
      · refine lv_aload_n hx hb dX11_hill_76 rfl (lv_at hl 0 rfl) ?_
        refine xget (ref := "AbsentPraiseModel") (T := TX11) (v := .ref (X.2.1 143)) hC hP hin_X11 xo_X11 rfl 34 (by decide) (List.mem_of_getElem? (i := 11) rfl) rfl rfl dX11_hill_77 ?_
        refine lv_iload_n hx hb dX11_hill_80 rfl (lv_at hl 1 rfl) ?_
        refine lv_iconst (v := 5) hx hb dX11_hill_81 (by decide) ?_
        have hn_17 : vp_in x1_70 49 := (nl (sn hs_70 c_15))
        refine xiast hC hP hS rfl hn_17 dX11_hill_82 (fun S_18 hS_18 H locs hP hS => ?_)
        refine lv_iinc (v := (x1_70 + 1)) (lv' := [(1, .int (x1_70 + 1)), (0, .ref (X.2.1 127))]) hx hb dX11_hill_83 hl (k := 1) rfl rfl (by decide) rfl (fun ls hl => ?_)
        refine lv_goto (tgt := 70) hx hb dX11_hill_86 (by decide) ?_
        have he_19 : f_X11_hill_L70 (n + 1) T_70 x1_70 = f_X11_hill_L70 n S_18 (x1_70 + 1) := (by subst hS_18; exact (iN c_15 rfl))
        exact ih_70 S_18 (x1_70 + 1) (by subst hS_18; exact (nr (sn hs_70 c_15))) (fun q hq => hex_70 q (hq.trans he_19.symm)) _ _ hP hS ls (lv_sub hl [1, 0] rfl)
  refine hLp_70 ((fu 0 49)) q_42 0 (by subst hS_1 hS_2 hS_3 hS_4 hS_5 hS_6 hS_7 hS_8 hq_42; exact nl (nr hs)) (fun q_70 hq_70 H locs hP hS ls hl => ?_) _ _ hP hS ls (lv_sub hl [1, 0] rfl)
  refine lv_iconst (v := 0) hx hb dX11_hill_89 (by decide) ?_
  refine lv_istore_n (lv' := [(1, .int 0), (0, .ref (X.2.1 127))]) hx hb dX11_hill_90 rfl hl (by decide) rfl (fun ls hl => ?_)
  have hLp_91 : ∀ (n : Nat) (T_91 : xS) (x1_91 : Int32), s_X11_hill_L91 n T_91 x1_91 → (∀ q : Int32 × xS, q = f_X11_hill_L91 n T_91 x1_91 → (∀ (H : Heap) (locs : List Loc), va_P X.1 vwCl (xW X q.2) H → va_S (xA X) s.heap H locs → ∀ (ls : Array Slot), lv_has ls 2 [(0, .ref (X.2.1 127)), (1, .int q.1)] → W p l e ({ frames := 6, cells := 0, slots := 0, locals := 135 } : Room) s m ([.ref (X.2.1 127)] : List Value).toArray below meth c H locs 0 0 (MQ below (va_Qi (fun (r : Int32) (u : xS) => r = (f_X11_hill S).1 ∧ u = (f_X11_hill S).2) (xI X) (xA X)) ([.ref (X.2.1 127)] : List Value).toArray s 0 0 (xA X)) (F0 m 110 ls []))) → ∀ (H : Heap) (locs : List Loc), va_P X.1 vwCl (xW X T_91) H → va_S (xA X) s.heap H locs → ∀ (ls : Array Slot), lv_has ls 2 [(0, .ref (X.2.1 127)), (1, .int x1_91)] → W p l e ({ frames := 6, cells := 0, slots := 0, locals := 135 } : Room) s m ([.ref (X.2.1 127)] : List Value).toArray below meth c H locs 0 0 (MQ below (va_Qi (fun (r : Int32) (u : xS) => r = (f_X11_hill S).1 ∧ u = (f_X11_hill S).2) (xI X) (xA X)) ([.ref (X.2.1 127)] : List Value).toArray s 0 0 (xA X)) (F0 m 91 ls []) := by
    intro n
    induction n with
    | zero => intro T_91 x1_91 hs; exact hs.elim
    | succ n ih_91 =>
      intro T_91 x1_91 hs_91 hex_91 H locs hP hS ls hl
      refine lv_iload_n hx hb dX11_hill_91 rfl (lv_at hl 1 rfl) ?_
      refine lv_if_ne (tgt := 110) hx hb dX11_hill_92 (by decide) (fun c_20 => ?_) (fun c_20 => ?_)
      · have he_21 : f_X11_hill_L91 (n + 1) T_91 x1_91 = (x1_91, T_91) := ((iN c_20 rfl))
        exact hex_91 _ he_21.symm _ _ hP hS ls (lv_sub hl [0, 1] rfl)
      · refine lv_aload_n hx hb dX11_hill_95 rfl (lv_at hl 0 rfl) ?_
        have hn_22 : s_X11_here T_91 := (nl (sp hs_91 c_20))
        refine xcV_iW (b := 127) (As := []) (rest := []) hC hP hS (k_X11_here l X T_91 hn_22) (cwV 0 hts gX11_hill_X11_here rfl rfl rfl hd_X11_here ⟨Nat.le_of_ble_eq_true rfl, Nat.le_of_ble_eq_true rfl⟩) xo_X11 rfl rfl rfl hl.1 (Nat.le_of_ble_eq_true rfl) dX11_hill_96 (fun r_23 S_24 hp_r_23 H locs hP hS => ?_)
        obtain ⟨hr_23, hS_24⟩ := hp_r_23
        refine lv_if_lt (tgt := 110) hx hb dX11_hill_99 (by decide) (fun c_26 => ?_) (fun c_26 => ?_)
        · have he_27 : f_X11_hill_L91 (n + 1) T_91 x1_91 = (x1_91, S_24) := (by subst hr_23 hS_24; exact (ip c_20 (ip c_26 rfl)))
          exact hex_91 _ he_27.symm _ _ hP hS ls (lv_sub hl [0, 1] rfl)
        · refine lv_aload_n hx hb dX11_hill_102 rfl (lv_at hl 0 rfl) ?_
          have hn_28 : s_X11_takeClause S_24 := (by subst hr_23 hS_24; exact nl (sn (nr (sp hs_91 c_20)) c_26))
          refine xcV_iW (b := 127) (As := []) (rest := []) hC hP hS (k_X11_takeClause l X S_24 hn_28) (cwV 0 hts gX11_hill_X11_takeClause rfl rfl rfl hd_X11_takeClause ⟨Nat.le_of_ble_eq_true rfl, Nat.le_of_ble_eq_true rfl⟩) xo_X11 rfl rfl rfl hl.1 (Nat.le_of_ble_eq_true rfl) dX11_hill_103 (fun r_29 S_30 hp_r_29 H locs hP hS => ?_)
          obtain ⟨hr_29, hS_30⟩ := hp_r_29
          refine lv_istore_n (lv' := [(1, .int r_29), (0, .ref (X.2.1 127))]) hx hb dX11_hill_106 rfl hl (by decide) rfl (fun ls hl => ?_)
          refine lv_goto (tgt := 91) hx hb dX11_hill_107 (by decide) ?_
          have he_32 : f_X11_hill_L91 (n + 1) T_91 x1_91 = f_X11_hill_L91 n S_30 r_29 := (by subst hr_23 hS_24 hr_29 hS_30; exact (ip c_20 (iN c_26 rfl)))
          exact ih_91 S_30 r_29 (by subst hr_23 hS_24 hr_29 hS_30; exact (nr (sn (nr (sp hs_91 c_20)) c_26))) (fun q hq => hex_91 q (hq.trans he_32.symm)) _ _ hP hS ls (lv_sub hl [1, 0] rfl)
  refine hLp_91 ((fuel_X11_hill_91)) q_70 0 (by subst hS_1 hS_2 hS_3 hS_4 hS_5 hS_6 hS_7 hS_8 hq_42 hq_70; exact nl (nr (nr hs))) (fun q_91 hq_91 H locs hP hS ls hl => ?_) _ _ hP hS ls (lv_sub hl [1, 0] rfl)
  refine lv_aload_n hx hb dX11_hill_110 rfl (lv_at hl 0 rfl) ?_
  refine lv_iconst (v := 0) hx hb dX11_hill_111 (by decide) ?_
  refine xput (ref := "AbsentPraiseModel") (T := TX11) (ty := .int) hC hP hS (by decide) hin_X11 tyX11 tyX11_ok nmX11 xo_X11 rfl 19 (by decide) (List.mem_of_getElem? (i := 12) rfl) rfl rfl rfl rfl rfl (Nat.le_of_ble_eq_true rfl) dX11_hill_112 rfl (fun S_33 hS_33 H locs hP hS => ?_)
  refine lv_iload_n hx hb dX11_hill_115 rfl (lv_at hl 1 rfl) ?_
  refine lv_if_le (tgt := 124) hx hb dX11_hill_116 (by decide) (fun c_34 => ?_) (fun c_34 => ?_)
  · refine lv_aload_n hx hb dX11_hill_124 rfl (lv_at hl 0 rfl) ?_
    have hn_35 : s_X11_takeRead S_33 := (by subst hS_1 hS_2 hS_3 hS_4 hS_5 hS_6 hS_7 hS_8 hq_42 hq_70 hq_91 hS_33; exact nl (sp (nr (nr (nr hs))) c_34))
    refine xcV_vW (b := 127) (As := []) (rest := []) hC hP hS (k_X11_takeRead l X S_33 hn_35) (cwV 0 hts gX11_hill_X11_takeRead rfl rfl rfl hd_X11_takeRead ⟨Nat.le_of_ble_eq_true rfl, Nat.le_of_ble_eq_true rfl⟩) xo_X11 rfl rfl rfl hl.1 (Nat.le_of_ble_eq_true rfl) dX11_hill_125 (fun S_36 hS_36 H locs hP hS => ?_)
    refine lv_aload_n hx hb dX11_hill_128 rfl (lv_at hl 0 rfl) ?_
    refine lv_iconst (v := 0) hx hb dX11_hill_129 (by decide) ?_
    refine xput (ref := "AbsentPraiseModel") (T := TX11) (ty := .int) hC hP hS (by decide) hin_X11 tyX11 tyX11_ok nmX11 xo_X11 rfl 11 (by decide) (List.mem_of_getElem? (i := 13) rfl) rfl rfl rfl rfl rfl (Nat.le_of_ble_eq_true rfl) dX11_hill_130 rfl (fun S_37 hS_37 H locs hP hS => ?_)
    refine lv_aload_n hx hb dX11_hill_133 rfl (lv_at hl 0 rfl) ?_
    refine lv_iconst (v := 0) hx hb dX11_hill_134 (by decide) ?_
    refine xput (ref := "AbsentPraiseModel") (T := TX11) (ty := .int) hC hP hS (by decide) hin_X11 tyX11 tyX11_ok nmX11 xo_X11 rfl 15 (by decide) (List.mem_of_getElem? (i := 14) rfl) rfl rfl rfl rfl rfl (Nat.le_of_ble_eq_true rfl) dX11_hill_135 rfl (fun S_38 hS_38 H locs hP hS => ?_)
    refine lv_aload_n hx hb dX11_hill_138 rfl (lv_at hl 0 rfl) ?_
    refine lv_iconst (v := 0) hx hb dX11_hill_139 (by decide) ?_
    refine xput (ref := "AbsentPraiseModel") (T := TX11) (ty := .int) hC hP hS (by decide) hin_X11 tyX11 tyX11_ok nmX11 xo_X11 rfl 36 (by decide) (List.mem_of_getElem? (i := 15) rfl) rfl rfl rfl rfl rfl (Nat.le_of_ble_eq_true rfl) dX11_hill_140 rfl (fun S_39 hS_39 H locs hP hS => ?_)
    refine lv_aload_n hx hb dX11_hill_143 rfl (lv_at hl 0 rfl) ?_
    refine xget (ref := "AbsentPraiseModel") (T := TX11) (v := .ref (X.2.1 147)) hC hP hin_X11 xo_X11 rfl 40 (by decide) (List.mem_of_getElem? (i := 16) rfl) rfl rfl dX11_hill_144 ?_
    refine lv_iconst (v := 0) hx hb dX11_hill_147 (by decide) ?_
    refine lv_iconst (v := 0) hx hb dX11_hill_148 (by decide) ?_
    refine xzast hC hP hS (by decide) rfl dX11_hill_149 (fun S_40 hS_40 H locs hP hS => ?_)
    refine lv_aload_n hx hb dX11_hill_150 rfl (lv_at hl 0 rfl) ?_
    refine xget (ref := "AbsentPraiseModel") (T := TX11) (v := .ref (X.2.1 147)) hC hP hin_X11 xo_X11 rfl 40 (by decide) (List.mem_of_getElem? (i := 16) rfl) rfl rfl dX11_hill_151 ?_
    refine lv_iconst (v := 1) hx hb dX11_hill_154 (by decide) ?_
    refine lv_iconst (v := 0) hx hb dX11_hill_155 (by decide) ?_
    refine xzast hC hP hS (by decide) rfl dX11_hill_156 (fun S_41 hS_41 H locs hP hS => ?_)
    refine lv_aload_n hx hb dX11_hill_157 rfl (lv_at hl 0 rfl) ?_
    refine xget (ref := "AbsentPraiseModel") (T := TX11) (v := .int (S_41 127 6)) hC hP hin_X11 xo_X11 rfl 6 (by decide) (List.mem_of_getElem? (i := 17) rfl) rfl rfl dX11_hill_158 ?_
    exact xret_iW hC hP hS hb hr ((by subst hS_1 hS_2 hS_3 hS_4 hS_5 hS_6 hS_7 hS_8 hq_42 hq_70 hq_91 hS_33 hS_36 hS_37 hS_38 hS_39 hS_40 hS_41; exact (ip c_34 rfl))) dX11_hill_161 hlocks
  · refine lv_bipush (v := (-10)) hx hb dX11_hill_119 (by decide) ?_
    refine lv_iload_n hx hb dX11_hill_121 rfl (lv_at hl 1 rfl) ?_
    refine lv_isub hx hb dX11_hill_122 ?_
    exact xret_iW hC hP hS hb hr ((by subst hS_1 hS_2 hS_3 hS_4 hS_5 hS_6 hS_7 hS_8 hq_42 hq_70 hq_91 hS_33; exact (iN c_34 rfl))) dX11_hill_123 hlocks
theorem hd_X11_fault : yX11_fault.cls = RX11 ∧ yX11_fault.cls ≠ "java/lang/invoke/MethodHandle" ∧ yX11_fault.cls ≠ "java/lang/invoke/VarHandle" ∧ (parseMethodDescriptor yX11_fault.desc).map (fun d => d.parameters.length) = some 0 := by decide +kernel
set_option maxHeartbeats 4000000 in
set_option maxRecDepth 100000 in
theorem k_X11_fault (l : Launch) (X : xX) (S : xS) : Met l yX11_fault wsX11_fault ({ frames := 0, cells := 0, slots := 0, locals := 0 } : Room) (va_Pc [.ref (X.2.1 127)] (xI X S)) (va_Qi (fun (r : Int32) (u : xS) => r = (f_X11_fault S) ∧ u = S) (xI X) (xA X)) 0 0 (xA X) := by
  refine Met.ofW (cc := cX11_fault) (maxL := 1) (ret := (some .int)) (by decide) rfl ?_
  intro p e s m args below meth c s₁ B hml hv
  obtain ⟨rfl, hP, hK, hN, hJ⟩ := hv
  have hx := B.exec
  have hb := B.bytes
  have hr := B.returns
  have hts := atoms_spec (ws := wsX11_fault) B.pre
  have hown : s.vm.findClass RX11 = some m.cls := findClass_of_methodNamed B.named
  have hlocks := B.notSynchronized
  have hC : xC X p m c cX11_fault 1 s _ wsX11_fault RX11 := ⟨⟨hx, hb, hml, hown, hts⟩, hK, hN, hJ⟩
  have hS : va_S (xA X) s.heap s.heap [] := va_S.rf
  have hin_X11 : ∀ w ∈ u_ws RX11 TX11 41, w ∈ wsX11_fault := by decide +kernel
  have hl := lv_entry ([.ref (X.2.1 127)]) (n := 1) (Nat.le_of_ble_eq_true rfl)
  rw [lg_entry_eq]
  generalize (lg_sl ([.ref (X.2.1 127)]) ++ List.replicate (1 - (lg_sl ([.ref (X.2.1 127)])).length) Slot.unset).toArray = ls at hl ⊢
  have hl : lv_has ls 1 [(0, .ref (X.2.1 127))] := hl
  refine lv_aload_n hx hb dX11_fault_0 rfl (lv_at hl 0 rfl) ?_
  refine xget (ref := "AbsentPraiseModel") (T := TX11) (v := .int (S 127 20)) hC hP hin_X11 xo_X11 rfl 20 (by decide) (List.mem_of_getElem? (i := 1) rfl) rfl rfl dX11_fault_1 ?_
  exact xret_iR hC hP hS hb hr ((rfl)) dX11_fault_4 hlocks
theorem hs_X11_sayBy : yX11_sayBy.cls ≠ "java/lang/invoke/MethodHandle" ∧ yX11_sayBy.cls ≠ "java/lang/invoke/VarHandle" ∧ (parseMethodDescriptor yX11_sayBy.desc).map (fun d => d.parameters.length) = some 3 := by decide +kernel
set_option maxHeartbeats 4000000 in
set_option maxRecDepth 100000 in
theorem k_X11_sayBy (l : Launch) (X : xX) (S : xS) (p0 : Int32) (p1 : Int32) (p2 : Int32) : Met l yX11_sayBy wsX11_sayBy ({ frames := 0, cells := 0, slots := 0, locals := 0 } : Room) (va_Pc [.int p0, .int p1, .int p2] (xI X S)) (va_Qi (fun (r : Int32) (u : xS) => r = (f_X11_sayBy S p0 p1 p2) ∧ u = S) (xI X) (xA X)) 0 0 (xA X) := by
  refine Met.ofW (cc := cX11_sayBy) (maxL := 4) (ret := (some .int)) (by decide) rfl ?_
  intro p e s m args below meth c s₁ B hml hv
  obtain ⟨rfl, hP, hK, hN, hJ⟩ := hv
  have hx := B.exec
  have hb := B.bytes
  have hr := B.returns
  have hts := atoms_spec (ws := wsX11_sayBy) B.pre
  have hown : s.vm.findClass RX11 = some m.cls := findClass_of_methodNamed B.named
  have hlocks := B.notSynchronized
  have hC : xC X p m c cX11_sayBy 4 s _ wsX11_sayBy RX11 := ⟨⟨hx, hb, hml, hown, hts⟩, hK, hN, hJ⟩
  have hS : va_S (xA X) s.heap s.heap [] := va_S.rf
  have hl := lv_entry ([.int p0, .int p1, .int p2]) (n := 4) (Nat.le_of_ble_eq_true rfl)
  rw [lg_entry_eq]
  generalize (lg_sl ([.int p0, .int p1, .int p2]) ++ List.replicate (4 - (lg_sl ([.int p0, .int p1, .int p2])).length) Slot.unset).toArray = ls at hl ⊢
  have hl : lv_has ls 4 [(0, .int p0), (1, .int p1), (2, .int p2)] := hl
  refine lv_iload_n hx hb dX11_sayBy_0 rfl (lv_at hl 2 rfl) ?_
  refine lv_if_eq (tgt := 11) hx hb dX11_sayBy_1 (by decide) (fun c_1 => ?_) (fun c_1 => ?_)
  · refine lv_iload_n hx hb dX11_sayBy_11 rfl (lv_at hl 1 rfl) ?_
    refine lv_iconst (v := 5) hx hb dX11_sayBy_12 (by decide) ?_
    refine lv_icmp_lt (tgt := 20) hx hb dX11_sayBy_13 (by decide) (fun c_2 => ?_) (fun c_2 => ?_)
    · refine lv_iconst (v := 0) hx hb dX11_sayBy_20 (by decide) ?_
      refine lv_istore_n (lv' := [(3, .int 0), (0, .int p0), (1, .int p1), (2, .int p2)]) hx hb dX11_sayBy_21 rfl hl (by decide) rfl (fun ls hl => ?_)
      refine lv_iload_n hx hb dX11_sayBy_22 rfl (lv_at hl 1 rfl) ?_
      refine lv_iconst (v := 1) hx hb dX11_sayBy_23 (by decide) ?_
      refine lv_icmp_ne (tgt := 35) hx hb dX11_sayBy_24 (by decide) (fun c_3 => ?_) (fun c_3 => ?_)
      · refine lv_iload_n hx hb dX11_sayBy_35 rfl (lv_at hl 1 rfl) ?_
        refine lv_iconst (v := 2) hx hb dX11_sayBy_36 (by decide) ?_
        refine lv_icmp_ne (tgt := 50) hx hb dX11_sayBy_37 (by decide) (fun c_4 => ?_) (fun c_4 => ?_)
        · refine lv_iload_n hx hb dX11_sayBy_50 rfl (lv_at hl 0 rfl) ?_
          exact xret_iR hC hP hS hb hr (((ip c_1 (ip c_2 (iN c_3 (iN c_4 rfl)))))) dX11_sayBy_51 hlocks
        · refine lv_iload_n hx hb dX11_sayBy_40 rfl (lv_at hl 0 rfl) ?_
          refine lv_if_le (tgt := 50) hx hb dX11_sayBy_41 (by decide) (fun _ => ?_) (fun c => absurd c (by decide))
          refine lv_iload_n hx hb dX11_sayBy_50 rfl (lv_at hl 0 rfl) ?_
          exact xret_iR hC hP hS hb hr (((ip c_1 (ip c_2 (iN c_3 (ip c_4 rfl)))))) dX11_sayBy_51 hlocks
      · refine lv_iload_n hx hb dX11_sayBy_27 rfl (lv_at hl 0 rfl) ?_
        refine lv_if_ge (tgt := 35) hx hb dX11_sayBy_28 (by decide) (fun _ => ?_) (fun c => absurd c (by decide))
        refine lv_iload_n hx hb dX11_sayBy_35 rfl (lv_at hl 1 rfl) ?_
        refine lv_iconst (v := 2) hx hb dX11_sayBy_36 (by decide) ?_
        refine lv_icmp_ne (tgt := 50) hx hb dX11_sayBy_37 (by decide) (fun c_5 => ?_) (fun c_5 => ?_)
        · refine lv_iload_n hx hb dX11_sayBy_50 rfl (lv_at hl 0 rfl) ?_
          exact xret_iR hC hP hS hb hr (((ip c_1 (ip c_2 (ip c_3 (iN c_5 rfl)))))) dX11_sayBy_51 hlocks
        · refine lv_iload_n hx hb dX11_sayBy_40 rfl (lv_at hl 0 rfl) ?_
          refine lv_if_le (tgt := 50) hx hb dX11_sayBy_41 (by decide) (fun _ => ?_) (fun c => absurd c (by decide))
          refine lv_iload_n hx hb dX11_sayBy_50 rfl (lv_at hl 0 rfl) ?_
          exact xret_iR hC hP hS hb hr (((ip c_1 (ip c_2 (ip c_3 (ip c_5 rfl)))))) dX11_sayBy_51 hlocks
    · refine lv_iload_n hx hb dX11_sayBy_16 rfl (lv_at hl 1 rfl) ?_
      refine lv_goto (tgt := 21) hx hb dX11_sayBy_17 (by decide) ?_
      refine lv_istore_n (lv' := [(3, .int p1), (0, .int p0), (1, .int p1), (2, .int p2)]) hx hb dX11_sayBy_21 rfl hl (by decide) rfl (fun ls hl => ?_)
      refine lv_iload_n hx hb dX11_sayBy_22 rfl (lv_at hl 1 rfl) ?_
      refine lv_iconst (v := 1) hx hb dX11_sayBy_23 (by decide) ?_
      refine lv_icmp_ne (tgt := 35) hx hb dX11_sayBy_24 (by decide) (fun c_6 => ?_) (fun c_6 => ?_)
      · refine lv_iload_n hx hb dX11_sayBy_35 rfl (lv_at hl 1 rfl) ?_
        refine lv_iconst (v := 2) hx hb dX11_sayBy_36 (by decide) ?_
        refine lv_icmp_ne (tgt := 50) hx hb dX11_sayBy_37 (by decide) (fun c_7 => ?_) (fun c_7 => ?_)
        · refine lv_iload_n hx hb dX11_sayBy_50 rfl (lv_at hl 0 rfl) ?_
          exact xret_iR hC hP hS hb hr (((ip c_1 (iN c_2 (iN c_6 (iN c_7 rfl)))))) dX11_sayBy_51 hlocks
        · refine lv_iload_n hx hb dX11_sayBy_40 rfl (lv_at hl 0 rfl) ?_
          refine lv_if_le (tgt := 50) hx hb dX11_sayBy_41 (by decide) (fun c_8 => ?_) (fun c_8 => ?_)
          · refine lv_iload_n hx hb dX11_sayBy_50 rfl (lv_at hl 0 rfl) ?_
            exact xret_iR hC hP hS hb hr (((ip c_1 (iN c_2 (iN c_6 (ip c_7 (ip c_8 rfl))))))) dX11_sayBy_51 hlocks
          · refine lv_iload_n hx hb dX11_sayBy_44 rfl (lv_at hl 0 rfl) ?_
            refine lv_iconst (v := 2) hx hb dX11_sayBy_45 (by decide) ?_
            refine lv_idiv hx hb dX11_sayBy_46 (by decide) ?_
            refine lv_goto (tgt := 51) hx hb dX11_sayBy_47 (by decide) ?_
            exact xret_iR hC hP hS hb hr (((ip c_1 (iN c_2 (iN c_6 (ip c_7 (iN c_8 rfl))))))) dX11_sayBy_51 hlocks
      · refine lv_iload_n hx hb dX11_sayBy_27 rfl (lv_at hl 0 rfl) ?_
        refine lv_if_ge (tgt := 35) hx hb dX11_sayBy_28 (by decide) (fun c_9 => ?_) (fun c_9 => ?_)
        · refine lv_iload_n hx hb dX11_sayBy_35 rfl (lv_at hl 1 rfl) ?_
          refine lv_iconst (v := 2) hx hb dX11_sayBy_36 (by decide) ?_
          refine lv_icmp_ne (tgt := 50) hx hb dX11_sayBy_37 (by decide) (fun c_10 => ?_) (fun c_10 => ?_)
          · refine lv_iload_n hx hb dX11_sayBy_50 rfl (lv_at hl 0 rfl) ?_
            exact xret_iR hC hP hS hb hr (((ip c_1 (iN c_2 (ip c_6 (ip c_9 (iN c_10 rfl))))))) dX11_sayBy_51 hlocks
          · refine lv_iload_n hx hb dX11_sayBy_40 rfl (lv_at hl 0 rfl) ?_
            refine lv_if_le (tgt := 50) hx hb dX11_sayBy_41 (by decide) (fun c_11 => ?_) (fun c_11 => ?_)
            · refine lv_iload_n hx hb dX11_sayBy_50 rfl (lv_at hl 0 rfl) ?_
              exact xret_iR hC hP hS hb hr (((ip c_1 (iN c_2 (ip c_6 (ip c_9 (ip c_10 (ip c_11 rfl)))))))) dX11_sayBy_51 hlocks
            · refine lv_iload_n hx hb dX11_sayBy_44 rfl (lv_at hl 0 rfl) ?_
              refine lv_iconst (v := 2) hx hb dX11_sayBy_45 (by decide) ?_
              refine lv_idiv hx hb dX11_sayBy_46 (by decide) ?_
              refine lv_goto (tgt := 51) hx hb dX11_sayBy_47 (by decide) ?_
              exact xret_iR hC hP hS hb hr (((ip c_1 (iN c_2 (ip c_6 (ip c_9 (ip c_10 (iN c_11 rfl)))))))) dX11_sayBy_51 hlocks
        · refine lv_iconst (v := 0) hx hb dX11_sayBy_31 (by decide) ?_
          refine lv_goto (tgt := 51) hx hb dX11_sayBy_32 (by decide) ?_
          exact xret_iR hC hP hS hb hr (((ip c_1 (iN c_2 (ip c_6 (iN c_9 rfl)))))) dX11_sayBy_51 hlocks
  · refine lv_iload_n hx hb dX11_sayBy_4 rfl (lv_at hl 1 rfl) ?_
    refine lv_bipush (v := 9) hx hb dX11_sayBy_5 (by decide) ?_
    refine lv_isub hx hb dX11_sayBy_7 ?_
    refine lv_goto (tgt := 21) hx hb dX11_sayBy_8 (by decide) ?_
    refine lv_istore_n (lv' := [(3, .int (p1 - 9)), (0, .int p0), (1, .int p1), (2, .int p2)]) hx hb dX11_sayBy_21 rfl hl (by decide) rfl (fun ls hl => ?_)
    refine lv_iload_n hx hb dX11_sayBy_22 rfl (lv_at hl 1 rfl) ?_
    refine lv_iconst (v := 1) hx hb dX11_sayBy_23 (by decide) ?_
    refine lv_icmp_ne (tgt := 35) hx hb dX11_sayBy_24 (by decide) (fun c_12 => ?_) (fun c_12 => ?_)
    · refine lv_iload_n hx hb dX11_sayBy_35 rfl (lv_at hl 1 rfl) ?_
      refine lv_iconst (v := 2) hx hb dX11_sayBy_36 (by decide) ?_
      refine lv_icmp_ne (tgt := 50) hx hb dX11_sayBy_37 (by decide) (fun c_13 => ?_) (fun c_13 => ?_)
      · refine lv_iload_n hx hb dX11_sayBy_50 rfl (lv_at hl 0 rfl) ?_
        exact xret_iR hC hP hS hb hr (((iN c_1 (iN c_12 (iN c_13 rfl))))) dX11_sayBy_51 hlocks
      · refine lv_iload_n hx hb dX11_sayBy_40 rfl (lv_at hl 0 rfl) ?_
        refine lv_if_le (tgt := 50) hx hb dX11_sayBy_41 (by decide) (fun c_14 => ?_) (fun c_14 => ?_)
        · refine lv_iload_n hx hb dX11_sayBy_50 rfl (lv_at hl 0 rfl) ?_
          exact xret_iR hC hP hS hb hr (((iN c_1 (iN c_12 (ip c_13 (ip c_14 rfl)))))) dX11_sayBy_51 hlocks
        · refine lv_iload_n hx hb dX11_sayBy_44 rfl (lv_at hl 0 rfl) ?_
          refine lv_iconst (v := 2) hx hb dX11_sayBy_45 (by decide) ?_
          refine lv_idiv hx hb dX11_sayBy_46 (by decide) ?_
          refine lv_goto (tgt := 51) hx hb dX11_sayBy_47 (by decide) ?_
          exact xret_iR hC hP hS hb hr (((iN c_1 (iN c_12 (ip c_13 (iN c_14 rfl)))))) dX11_sayBy_51 hlocks
    · refine lv_iload_n hx hb dX11_sayBy_27 rfl (lv_at hl 0 rfl) ?_
      refine lv_if_ge (tgt := 35) hx hb dX11_sayBy_28 (by decide) (fun c_15 => ?_) (fun c_15 => ?_)
      · refine lv_iload_n hx hb dX11_sayBy_35 rfl (lv_at hl 1 rfl) ?_
        refine lv_iconst (v := 2) hx hb dX11_sayBy_36 (by decide) ?_
        refine lv_icmp_ne (tgt := 50) hx hb dX11_sayBy_37 (by decide) (fun c_16 => ?_) (fun c_16 => ?_)
        · refine lv_iload_n hx hb dX11_sayBy_50 rfl (lv_at hl 0 rfl) ?_
          exact xret_iR hC hP hS hb hr (((iN c_1 (ip c_12 (ip c_15 (iN c_16 rfl)))))) dX11_sayBy_51 hlocks
        · refine lv_iload_n hx hb dX11_sayBy_40 rfl (lv_at hl 0 rfl) ?_
          refine lv_if_le (tgt := 50) hx hb dX11_sayBy_41 (by decide) (fun c_17 => ?_) (fun c_17 => ?_)
          · refine lv_iload_n hx hb dX11_sayBy_50 rfl (lv_at hl 0 rfl) ?_
            exact xret_iR hC hP hS hb hr (((iN c_1 (ip c_12 (ip c_15 (ip c_16 (ip c_17 rfl))))))) dX11_sayBy_51 hlocks
          · refine lv_iload_n hx hb dX11_sayBy_44 rfl (lv_at hl 0 rfl) ?_
            refine lv_iconst (v := 2) hx hb dX11_sayBy_45 (by decide) ?_
            refine lv_idiv hx hb dX11_sayBy_46 (by decide) ?_
            refine lv_goto (tgt := 51) hx hb dX11_sayBy_47 (by decide) ?_
            exact xret_iR hC hP hS hb hr (((iN c_1 (ip c_12 (ip c_15 (ip c_16 (iN c_17 rfl))))))) dX11_sayBy_51 hlocks
      · refine lv_iconst (v := 0) hx hb dX11_sayBy_31 (by decide) ?_
        refine lv_goto (tgt := 51) hx hb dX11_sayBy_32 (by decide) ?_
        exact xret_iR hC hP hS hb hr (((iN c_1 (ip c_12 (iN c_15 rfl))))) dX11_sayBy_51 hlocks
theorem hd_X11_isThere : yX11_isThere.cls = RX11 ∧ yX11_isThere.cls ≠ "java/lang/invoke/MethodHandle" ∧ yX11_isThere.cls ≠ "java/lang/invoke/VarHandle" ∧ (parseMethodDescriptor yX11_isThere.desc).map (fun d => d.parameters.length) = some 3 := by decide +kernel
set_option maxHeartbeats 4000000 in
set_option maxRecDepth 100000 in
theorem k_X11_isThere (l : Launch) (X : xX) (S : xS) (p0 : Int32) (p1 : Int32) (p2 : Int32) (hs : s_X11_isThere S p0 p1 p2) : Met l yX11_isThere wsX11_isThere ({ frames := 1, cells := 0, slots := 0, locals := 21 } : Room) (va_Pc [.ref (X.2.1 127), .int p0, .int p1, .int p2] (xI X S)) (va_Qi (fun (r : Int32) (u : xS) => (r = (f_X11_isThere S p0 p1 p2) ∧ (r = 0 ∨ r = 1)) ∧ u = S) (xI X) (xA X)) 0 0 (xA X) := by
  refine Met.ofW (cc := cX11_isThere) (maxL := 4) (ret := (some .boolean)) (by decide) rfl ?_
  intro p e s m args below meth c s₁ B hml hv
  obtain ⟨rfl, hP, hK, hN, hJ⟩ := hv
  have hx := B.exec
  have hb := B.bytes
  have hr := B.returns
  have hts := atoms_spec (ws := wsX11_isThere) B.pre
  have hown : s.vm.findClass RX11 = some m.cls := findClass_of_methodNamed B.named
  have hlocks := B.notSynchronized
  have hC : xC X p m c cX11_isThere 4 s _ wsX11_isThere RX11 := ⟨⟨hx, hb, hml, hown, hts⟩, hK, hN, hJ⟩
  have hS : va_S (xA X) s.heap s.heap [] := va_S.rf
  have hin_X11 : ∀ w ∈ u_ws RX11 TX11 41, w ∈ wsX11_isThere := by decide +kernel
  have hl := lv_entry ([.ref (X.2.1 127), .int p0, .int p1, .int p2]) (n := 4) (Nat.le_of_ble_eq_true rfl)
  rw [lg_entry_eq]
  generalize (lg_sl ([.ref (X.2.1 127), .int p0, .int p1, .int p2]) ++ List.replicate (4 - (lg_sl ([.ref (X.2.1 127), .int p0, .int p1, .int p2])).length) Slot.unset).toArray = ls at hl ⊢
  have hl : lv_has ls 4 [(0, .ref (X.2.1 127)), (1, .int p0), (2, .int p1), (3, .int p2)] := hl
  refine lv_iload_n hx hb dX11_isThere_0 rfl (lv_at hl 1 rfl) ?_
  refine lv_iload_n hx hb dX11_isThere_1 rfl (lv_at hl 2 rfl) ?_
  refine lv_icmp_eq (tgt := 22) hx hb dX11_isThere_2 (by decide) (fun c_1 => ?_) (fun c_1 => ?_)
  · refine lv_iconst (v := 1) hx hb dX11_isThere_22 (by decide) ?_
    refine lv_goto (tgt := 27) hx hb dX11_isThere_23 (by decide) ?_
    exact xret_zR hC hP hS hb hr (.inr rfl) (((ip c_1 rfl))) dX11_isThere_27 hlocks
  · refine lv_iload_n hx hb dX11_isThere_5 rfl (lv_at hl 3 rfl) ?_
    refine lv_if_eq (tgt := 26) hx hb dX11_isThere_6 (by decide) (fun c_2 => ?_) (fun c_2 => ?_)
    · refine lv_iconst (v := 0) hx hb dX11_isThere_26 (by decide) ?_
      exact xret_zR hC hP hS hb hr (.inl rfl) (((iN c_1 (ip c_2 rfl)))) dX11_isThere_27 hlocks
    · refine lv_aload_n hx hb dX11_isThere_9 rfl (lv_at hl 0 rfl) ?_
      refine xget (ref := "AbsentPraiseModel") (T := TX11) (v := .ref (X.2.1 128)) hC hP hin_X11 xo_X11 rfl 4 (by decide) (List.mem_of_getElem? (i := 1) rfl) rfl rfl dX11_isThere_10 ?_
      refine lv_iload_n hx hb dX11_isThere_13 rfl (lv_at hl 1 rfl) ?_
      have hn_3 : vp_in p0 6 := (nl (sn (sn hs c_1) c_2))
      refine xiald hC hP rfl hn_3 dX11_isThere_14 ?_
      refine lv_iload_n hx hb dX11_isThere_15 rfl (lv_at hl 2 rfl) ?_
      refine xcS_iR (As := [.int (S 128 (p0).toNatClampNeg), .int p1]) (rest := []) hC hP hS (k_X11_has l X S (S 128 (p0).toNatClampNeg) p1) (va_cwS 2 hts gX11_isThere_X11_has rfl rfl rfl hs_X11_has ⟨Nat.le_of_ble_eq_true rfl, Nat.le_of_ble_eq_true rfl⟩) rfl rfl hl.1 (Nat.le_of_ble_eq_true rfl) dX11_isThere_16 (fun r_4 hp_r_4 H locs hP hS => ?_)
      obtain ⟨hr_4, hzr_4⟩ := hp_r_4
      refine lv_if_eq (tgt := 26) hx hb dX11_isThere_19 (by decide) (fun c_5 => ?_) (fun c_5 => ?_)
      · refine lv_iconst (v := 0) hx hb dX11_isThere_26 (by decide) ?_
        exact xret_zR hC hP hS hb hr (.inl rfl) ((by subst hr_4; exact (iN c_1 (iN c_2 (ip c_5 rfl))))) dX11_isThere_27 hlocks
      · refine lv_iconst (v := 1) hx hb dX11_isThere_22 (by decide) ?_
        refine lv_goto (tgt := 27) hx hb dX11_isThere_23 (by decide) ?_
        exact xret_zR hC hP hS hb hr (.inr rfl) ((by subst hr_4; exact (iN c_1 (iN c_2 (iN c_5 rfl))))) dX11_isThere_27 hlocks
theorem hd_X11_says : yX11_says.cls = RX11 ∧ yX11_says.cls ≠ "java/lang/invoke/MethodHandle" ∧ yX11_says.cls ≠ "java/lang/invoke/VarHandle" ∧ (parseMethodDescriptor yX11_says.desc).map (fun d => d.parameters.length) = some 3 := by decide +kernel
set_option maxHeartbeats 4000000 in
set_option maxRecDepth 100000 in
theorem k_X11_says (l : Launch) (X : xX) (S : xS) (k0 : Nat) (p1 : Int32) (p2 : Int32) (hk0 : isI k0 = true) (hs : s_X11_says S k0 p1 p2) : Met l yX11_says wsX11_says ({ frames := 2, cells := 0, slots := 0, locals := 44 } : Room) (va_Pc [.ref (X.2.1 127), .ref (X.2.1 k0), .int p1, .int p2] (xI X S)) (va_Qi (fun (r : Int32) (u : xS) => r = (f_X11_says S k0 p1 p2) ∧ u = S) (xI X) (xA X)) 0 0 (xA X) := by
  refine Met.ofW (cc := cX11_says) (maxL := 5) (ret := (some .int)) (by decide) rfl ?_
  intro p e s m args below meth c s₁ B hml hv
  obtain ⟨rfl, hP, hK, hN, hJ⟩ := hv
  have hx := B.exec
  have hb := B.bytes
  have hr := B.returns
  have hts := atoms_spec (ws := wsX11_says) B.pre
  have hown : s.vm.findClass RX11 = some m.cls := findClass_of_methodNamed B.named
  have hlocks := B.notSynchronized
  have hC : xC X p m c cX11_says 5 s _ wsX11_says RX11 := ⟨⟨hx, hb, hml, hown, hts⟩, hK, hN, hJ⟩
  have hS : va_S (xA X) s.heap s.heap [] := va_S.rf
  have hin_X11 : ∀ w ∈ u_ws RX11 TX11 41, w ∈ wsX11_says := by decide +kernel
  have hl := lv_entry ([.ref (X.2.1 127), .ref (X.2.1 k0), .int p1, .int p2]) (n := 5) (Nat.le_of_ble_eq_true rfl)
  rw [lg_entry_eq]
  generalize (lg_sl ([.ref (X.2.1 127), .ref (X.2.1 k0), .int p1, .int p2]) ++ List.replicate (5 - (lg_sl ([.ref (X.2.1 127), .ref (X.2.1 k0), .int p1, .int p2])).length) Slot.unset).toArray = ls at hl ⊢
  have hl : lv_has ls 5 [(0, .ref (X.2.1 127)), (1, .ref (X.2.1 k0)), (2, .int p1), (3, .int p2)] := hl
  refine lv_aload_n hx hb dX11_says_0 rfl (lv_at hl 0 rfl) ?_
  refine lv_aload_n hx hb dX11_says_1 rfl (lv_at hl 1 rfl) ?_
  refine lv_iconst (v := 2) hx hb dX11_says_2 (by decide) ?_
  refine lv_iload_n hx hb dX11_says_3 rfl (lv_at hl 2 rfl) ?_
  refine lv_iadd hx hb dX11_says_4 ?_
  have hn_1 : vp_in (2 + p1) (xlen k0) := (nl hs)
  refine xiald hC hP hk0 hn_1 dX11_says_5 ?_
  refine lv_aload_n hx hb dX11_says_6 rfl (lv_at hl 1 rfl) ?_
  refine lv_iconst (v := 2) hx hb dX11_says_7 (by decide) ?_
  refine lv_iload_n hx hb dX11_says_8 rfl (lv_at hl 3 rfl) ?_
  refine lv_iadd hx hb dX11_says_9 ?_
  have hn_2 : vp_in (2 + p2) (xlen k0) := (nl (nr hs))
  refine xiald hC hP hk0 hn_2 dX11_says_10 ?_
  refine lv_aload_n hx hb dX11_says_11 rfl (lv_at hl 0 rfl) ?_
  refine xget (ref := "AbsentPraiseModel") (T := TX11) (v := .ref (X.2.1 130)) hC hP hin_X11 xo_X11 rfl 7 (by decide) (List.mem_of_getElem? (i := 1) rfl) rfl rfl dX11_says_12 ?_
  refine lv_iload_n hx hb dX11_says_15 rfl (lv_at hl 2 rfl) ?_
  have hn_3 : vp_in p1 7 := (nl (nr (nr hs)))
  refine xiald hC hP rfl hn_3 dX11_says_16 ?_
  refine lv_iconst (v := 3) hx hb dX11_says_17 (by decide) ?_
  refine lv_icmp_eq (tgt := 35) hx hb dX11_says_18 (by decide) (fun c_4 => ?_) (fun c_4 => ?_)
  · refine lv_iconst (v := 0) hx hb dX11_says_35 (by decide) ?_
    have hn_5 : s_X11_isThere S (S k0 ((2 + p1)).toNatClampNeg) (S k0 ((2 + p2)).toNatClampNeg) 0 := (nl (sp (nr (nr (nr hs))) c_4))
    refine xcV_iR (b := 127) (As := [.int (S k0 ((2 + p1)).toNatClampNeg), .int (S k0 ((2 + p2)).toNatClampNeg), .int 0]) (rest := []) hC hP hS (k_X11_isThere l X S (S k0 ((2 + p1)).toNatClampNeg) (S k0 ((2 + p2)).toNatClampNeg) 0 hn_5) (cwV 3 hts gX11_says_X11_isThere rfl rfl rfl hd_X11_isThere ⟨Nat.le_of_ble_eq_true rfl, Nat.le_of_ble_eq_true rfl⟩) xo_X11 rfl rfl rfl hl.1 (Nat.le_of_ble_eq_true rfl) dX11_says_36 (fun r_6 hp_r_6 H locs hP hS => ?_)
    obtain ⟨hr_6, hzr_6⟩ := hp_r_6
    refine lv_istore (lv' := [(4, .int r_6), (0, .ref (X.2.1 127)), (1, .ref (X.2.1 k0)), (2, .int p1), (3, .int p2)]) hx hb dX11_says_39 hl (by decide) rfl (fun ls hl => ?_)
    refine lv_aload_n hx hb dX11_says_41 rfl (lv_at hl 1 rfl) ?_
    refine xget (ref := "AbsentPraiseModel") (T := TX11) (v := .ref (X.2.1 130)) hC hP hin_X11 xo_X11 rfl 7 (by decide) (List.mem_of_getElem? (i := 1) rfl) rfl rfl dX11_says_42 ?_
    refine lv_iload_n hx hb dX11_says_45 rfl (lv_at hl 3 rfl) ?_
    refine xiald hC hP rfl hn_3 dX11_says_46 ?_
    refine lv_aload_n hx hb dX11_says_47 rfl (lv_at hl 2 rfl) ?_
    refine lv_bipush (v := 23) hx hb dX11_says_48 (by decide) ?_
    refine lv_bipush (v := 7) hx hb dX11_says_50 (by decide) ?_
    refine lv_iload_n hx hb dX11_says_52 rfl (lv_at hl 3 rfl) ?_
    refine lv_imul hx hb dX11_says_53 ?_
    refine lv_iadd hx hb dX11_says_54 ?_
    refine lv_iload_n hx hb dX11_says_55 rfl (lv_at hl 4 rfl) ?_
    refine lv_iadd hx hb dX11_says_56 ?_
    have hn_7 : vp_in ((23 + (7 * p1)) + p2) (xlen k0) := (by subst hr_6; exact nl (nr (sp (nr (nr (nr hs))) c_4)))
    refine xiald hC hP hk0 hn_7 dX11_says_57 ?_
    refine lv_iload hx hb dX11_says_58 (lv_at hl 0 rfl) ?_
    refine xcS_iR (As := [.int (S 130 (p1).toNatClampNeg), .int (S k0 (((23 + (7 * p1)) + p2)).toNatClampNeg), .int r_6]) (rest := []) hC hP hS (k_X11_sayBy l X S (S 130 (p1).toNatClampNeg) (S k0 (((23 + (7 * p1)) + p2)).toNatClampNeg) r_6) (va_cwS 3 hts gX11_says_X11_sayBy rfl rfl rfl hs_X11_sayBy ⟨Nat.le_of_ble_eq_true rfl, Nat.le_of_ble_eq_true rfl⟩) rfl rfl hl.1 (Nat.le_of_ble_eq_true rfl) dX11_says_60 (fun r_8 hr_8 H locs hP hS => ?_)
    exact xret_iR hC hP hS hb hr ((by subst hr_6 hr_8; exact (ip c_4 rfl))) dX11_says_63 hlocks
  · refine lv_aload_n hx hb dX11_says_21 rfl (lv_at hl 1 rfl) ?_
    refine lv_iconst (v := 1) hx hb dX11_says_22 (by decide) ?_
    have hn_9 : vp_in 1 (xlen k0) := (nl (sn (nr (nr (nr hs))) c_4))
    refine xiald hC hP hk0 hn_9 dX11_says_23 ?_
    refine lv_iload_n hx hb dX11_says_24 rfl (lv_at hl 3 rfl) ?_
    refine xcS_iR (As := [.int (S k0 (1 : Int32).toNatClampNeg), .int p2]) (rest := [.int (S k0 ((2 + p2)).toNatClampNeg), .int (S k0 ((2 + p1)).toNatClampNeg), .ref (X.2.1 127)]) hC hP hS (k_X11_has l X S (S k0 (1 : Int32).toNatClampNeg) p2) (va_cwS 2 hts gX11_says_X11_has rfl rfl rfl hs_X11_has ⟨Nat.le_of_ble_eq_true rfl, Nat.le_of_ble_eq_true rfl⟩) rfl rfl hl.1 (Nat.le_of_ble_eq_true rfl) dX11_says_25 (fun r_10 hp_r_10 H locs hP hS => ?_)
    obtain ⟨hr_10, hzr_10⟩ := hp_r_10
    refine lv_if_eq (tgt := 35) hx hb dX11_says_28 (by decide) (fun c_11 => ?_) (fun c_11 => ?_)
    · refine lv_iconst (v := 0) hx hb dX11_says_35 (by decide) ?_
      have hn_12 : s_X11_isThere S (S k0 ((2 + p1)).toNatClampNeg) (S k0 ((2 + p2)).toNatClampNeg) 0 := (by subst hr_10; exact nl (sp (nr (sn (nr (nr (nr hs))) c_4)) c_11))
      refine xcV_iR (b := 127) (As := [.int (S k0 ((2 + p1)).toNatClampNeg), .int (S k0 ((2 + p2)).toNatClampNeg), .int 0]) (rest := []) hC hP hS (k_X11_isThere l X S (S k0 ((2 + p1)).toNatClampNeg) (S k0 ((2 + p2)).toNatClampNeg) 0 hn_12) (cwV 3 hts gX11_says_X11_isThere rfl rfl rfl hd_X11_isThere ⟨Nat.le_of_ble_eq_true rfl, Nat.le_of_ble_eq_true rfl⟩) xo_X11 rfl rfl rfl hl.1 (Nat.le_of_ble_eq_true rfl) dX11_says_36 (fun r_13 hp_r_13 H locs hP hS => ?_)
      obtain ⟨hr_13, hzr_13⟩ := hp_r_13
      refine lv_istore (lv' := [(4, .int r_13), (0, .ref (X.2.1 127)), (1, .ref (X.2.1 k0)), (2, .int p1), (3, .int p2)]) hx hb dX11_says_39 hl (by decide) rfl (fun ls hl => ?_)
      refine lv_aload_n hx hb dX11_says_41 rfl (lv_at hl 1 rfl) ?_
      refine xget (ref := "AbsentPraiseModel") (T := TX11) (v := .ref (X.2.1 130)) hC hP hin_X11 xo_X11 rfl 7 (by decide) (List.mem_of_getElem? (i := 1) rfl) rfl rfl dX11_says_42 ?_
      refine lv_iload_n hx hb dX11_says_45 rfl (lv_at hl 3 rfl) ?_
      refine xiald hC hP rfl hn_3 dX11_says_46 ?_
      refine lv_aload_n hx hb dX11_says_47 rfl (lv_at hl 2 rfl) ?_
      refine lv_bipush (v := 23) hx hb dX11_says_48 (by decide) ?_
      refine lv_bipush (v := 7) hx hb dX11_says_50 (by decide) ?_
      refine lv_iload_n hx hb dX11_says_52 rfl (lv_at hl 3 rfl) ?_
      refine lv_imul hx hb dX11_says_53 ?_
      refine lv_iadd hx hb dX11_says_54 ?_
      refine lv_iload_n hx hb dX11_says_55 rfl (lv_at hl 4 rfl) ?_
      refine lv_iadd hx hb dX11_says_56 ?_
      have hn_14 : vp_in ((23 + (7 * p1)) + p2) (xlen k0) := (by subst hr_10 hr_13; exact nl (nr (sp (nr (sn (nr (nr (nr hs))) c_4)) c_11)))
      refine xiald hC hP hk0 hn_14 dX11_says_57 ?_
      refine lv_iload hx hb dX11_says_58 (lv_at hl 0 rfl) ?_
      refine xcS_iR (As := [.int (S 130 (p1).toNatClampNeg), .int (S k0 (((23 + (7 * p1)) + p2)).toNatClampNeg), .int r_13]) (rest := []) hC hP hS (k_X11_sayBy l X S (S 130 (p1).toNatClampNeg) (S k0 (((23 + (7 * p1)) + p2)).toNatClampNeg) r_13) (va_cwS 3 hts gX11_says_X11_sayBy rfl rfl rfl hs_X11_sayBy ⟨Nat.le_of_ble_eq_true rfl, Nat.le_of_ble_eq_true rfl⟩) rfl rfl hl.1 (Nat.le_of_ble_eq_true rfl) dX11_says_60 (fun r_15 hr_15 H locs hP hS => ?_)
      exact xret_iR hC hP hS hb hr ((by subst hr_10 hr_13 hr_15; exact (iN c_4 (ip c_11 rfl)))) dX11_says_63 hlocks
    · refine lv_iconst (v := 1) hx hb dX11_says_31 (by decide) ?_
      refine lv_goto (tgt := 36) hx hb dX11_says_32 (by decide) ?_
      have hn_16 : s_X11_isThere S (S k0 ((2 + p1)).toNatClampNeg) (S k0 ((2 + p2)).toNatClampNeg) 1 := (by subst hr_10; exact nl (sn (nr (sn (nr (nr (nr hs))) c_4)) c_11))
      refine xcV_iR (b := 127) (As := [.int (S k0 ((2 + p1)).toNatClampNeg), .int (S k0 ((2 + p2)).toNatClampNeg), .int 1]) (rest := []) hC hP hS (k_X11_isThere l X S (S k0 ((2 + p1)).toNatClampNeg) (S k0 ((2 + p2)).toNatClampNeg) 1 hn_16) (cwV 3 hts gX11_says_X11_isThere rfl rfl rfl hd_X11_isThere ⟨Nat.le_of_ble_eq_true rfl, Nat.le_of_ble_eq_true rfl⟩) xo_X11 rfl rfl rfl hl.1 (Nat.le_of_ble_eq_true rfl) dX11_says_36 (fun r_17 hp_r_17 H locs hP hS => ?_)
      obtain ⟨hr_17, hzr_17⟩ := hp_r_17
      refine lv_istore (lv' := [(4, .int r_17), (0, .ref (X.2.1 127)), (1, .ref (X.2.1 k0)), (2, .int p1), (3, .int p2)]) hx hb dX11_says_39 hl (by decide) rfl (fun ls hl => ?_)
      refine lv_aload_n hx hb dX11_says_41 rfl (lv_at hl 1 rfl) ?_
      refine xget (ref := "AbsentPraiseModel") (T := TX11) (v := .ref (X.2.1 130)) hC hP hin_X11 xo_X11 rfl 7 (by decide) (List.mem_of_getElem? (i := 1) rfl) rfl rfl dX11_says_42 ?_
      refine lv_iload_n hx hb dX11_says_45 rfl (lv_at hl 3 rfl) ?_
      refine xiald hC hP rfl hn_3 dX11_says_46 ?_
      refine lv_aload_n hx hb dX11_says_47 rfl (lv_at hl 2 rfl) ?_
      refine lv_bipush (v := 23) hx hb dX11_says_48 (by decide) ?_
      refine lv_bipush (v := 7) hx hb dX11_says_50 (by decide) ?_
      refine lv_iload_n hx hb dX11_says_52 rfl (lv_at hl 3 rfl) ?_
      refine lv_imul hx hb dX11_says_53 ?_
      refine lv_iadd hx hb dX11_says_54 ?_
      refine lv_iload_n hx hb dX11_says_55 rfl (lv_at hl 4 rfl) ?_
      refine lv_iadd hx hb dX11_says_56 ?_
      have hn_18 : vp_in ((23 + (7 * p1)) + p2) (xlen k0) := (by subst hr_10 hr_17; exact nl (nr (sn (nr (sn (nr (nr (nr hs))) c_4)) c_11)))
      refine xiald hC hP hk0 hn_18 dX11_says_57 ?_
      refine lv_iload hx hb dX11_says_58 (lv_at hl 0 rfl) ?_
      refine xcS_iR (As := [.int (S 130 (p1).toNatClampNeg), .int (S k0 (((23 + (7 * p1)) + p2)).toNatClampNeg), .int r_17]) (rest := []) hC hP hS (k_X11_sayBy l X S (S 130 (p1).toNatClampNeg) (S k0 (((23 + (7 * p1)) + p2)).toNatClampNeg) r_17) (va_cwS 3 hts gX11_says_X11_sayBy rfl rfl rfl hs_X11_sayBy ⟨Nat.le_of_ble_eq_true rfl, Nat.le_of_ble_eq_true rfl⟩) rfl rfl hl.1 (Nat.le_of_ble_eq_true rfl) dX11_says_60 (fun r_19 hr_19 H locs hP hS => ?_)
      exact xret_iR hC hP hS hb hr ((by subst hr_10 hr_17 hr_19; exact (iN c_4 (iN c_11 rfl)))) dX11_says_63 hlocks
theorem hd_X11_hears : yX11_hears.cls = RX11 ∧ yX11_hears.cls ≠ "java/lang/invoke/MethodHandle" ∧ yX11_hears.cls ≠ "java/lang/invoke/VarHandle" ∧ (parseMethodDescriptor yX11_hears.desc).map (fun d => d.parameters.length) = some 3 := by decide +kernel
set_option maxHeartbeats 4000000 in
set_option maxRecDepth 100000 in
theorem k_X11_hears (l : Launch) (X : xX) (S : xS) (k0 : Nat) (p1 : Int32) (p2 : Int32) (hk0 : isI k0 = true) (hs : s_X11_hears S k0 p1 p2) : Met l yX11_hears wsX11_hears ({ frames := 1, cells := 0, slots := 0, locals := 21 } : Room) (va_Pc [.ref (X.2.1 127), .ref (X.2.1 k0), .int p1, .int p2] (xI X S)) (va_Qi (fun (r : Int32) (u : xS) => (r = (f_X11_hears S k0 p1 p2) ∧ (r = 0 ∨ r = 1)) ∧ u = S) (xI X) (xA X)) 0 0 (xA X) := by
  refine Met.ofW (cc := cX11_hears) (maxL := 4) (ret := (some .boolean)) (by decide) rfl ?_
  intro p e s m args below meth c s₁ B hml hv
  obtain ⟨rfl, hP, hK, hN, hJ⟩ := hv
  have hx := B.exec
  have hb := B.bytes
  have hr := B.returns
  have hts := atoms_spec (ws := wsX11_hears) B.pre
  have hown : s.vm.findClass RX11 = some m.cls := findClass_of_methodNamed B.named
  have hlocks := B.notSynchronized
  have hC : xC X p m c cX11_hears 4 s _ wsX11_hears RX11 := ⟨⟨hx, hb, hml, hown, hts⟩, hK, hN, hJ⟩
  have hS : va_S (xA X) s.heap s.heap [] := va_S.rf
  have hin_X11 : ∀ w ∈ u_ws RX11 TX11 41, w ∈ wsX11_hears := by decide +kernel
  have hl := lv_entry ([.ref (X.2.1 127), .ref (X.2.1 k0), .int p1, .int p2]) (n := 4) (Nat.le_of_ble_eq_true rfl)
  rw [lg_entry_eq]
  generalize (lg_sl ([.ref (X.2.1 127), .ref (X.2.1 k0), .int p1, .int p2]) ++ List.replicate (4 - (lg_sl ([.ref (X.2.1 127), .ref (X.2.1 k0), .int p1, .int p2])).length) Slot.unset).toArray = ls at hl ⊢
  have hl : lv_has ls 4 [(0, .ref (X.2.1 127)), (1, .ref (X.2.1 k0)), (2, .int p1), (3, .int p2)] := hl
  refine lv_aload_n hx hb dX11_hears_0 rfl (lv_at hl 1 rfl) ?_
  refine lv_iconst (v := 2) hx hb dX11_hears_1 (by decide) ?_
  refine lv_iload_n hx hb dX11_hears_2 rfl (lv_at hl 2 rfl) ?_
  refine lv_iadd hx hb dX11_hears_3 ?_
  have hn_1 : vp_in (2 + p1) (xlen k0) := (nl hs)
  refine xiald hC hP hk0 hn_1 dX11_hears_4 ?_
  refine lv_aload_n hx hb dX11_hears_5 rfl (lv_at hl 1 rfl) ?_
  refine lv_iconst (v := 2) hx hb dX11_hears_6 (by decide) ?_
  refine lv_iload_n hx hb dX11_hears_7 rfl (lv_at hl 3 rfl) ?_
  refine lv_iadd hx hb dX11_hears_8 ?_
  have hn_2 : vp_in (2 + p2) (xlen k0) := (nl (nr hs))
  refine xiald hC hP hk0 hn_2 dX11_hears_9 ?_
  refine lv_icmp_eq (tgt := 34) hx hb dX11_hears_10 (by decide) (fun c_3 => ?_) (fun c_3 => ?_)
  · refine lv_iconst (v := 1) hx hb dX11_hears_34 (by decide) ?_
    refine lv_goto (tgt := 39) hx hb dX11_hears_35 (by decide) ?_
    exact xret_zR hC hP hS hb hr (.inr rfl) (((ip c_3 rfl))) dX11_hears_39 hlocks
  · refine lv_aload_n hx hb dX11_hears_13 rfl (lv_at hl 0 rfl) ?_
    refine xget (ref := "AbsentPraiseModel") (T := TX11) (v := .ref (X.2.1 128)) hC hP hin_X11 xo_X11 rfl 4 (by decide) (List.mem_of_getElem? (i := 1) rfl) rfl rfl dX11_hears_14 ?_
    refine lv_aload_n hx hb dX11_hears_17 rfl (lv_at hl 1 rfl) ?_
    refine lv_iconst (v := 2) hx hb dX11_hears_18 (by decide) ?_
    refine lv_iload_n hx hb dX11_hears_19 rfl (lv_at hl 2 rfl) ?_
    refine lv_iadd hx hb dX11_hears_20 ?_
    refine xiald hC hP hk0 hn_1 dX11_hears_21 ?_
    have hn_4 : vp_in (S k0 ((2 + p1)).toNatClampNeg) 6 := (nl (sn (nr (nr hs)) c_3))
    refine xiald hC hP rfl hn_4 dX11_hears_22 ?_
    refine lv_aload_n hx hb dX11_hears_23 rfl (lv_at hl 1 rfl) ?_
    refine lv_iconst (v := 2) hx hb dX11_hears_24 (by decide) ?_
    refine lv_iload_n hx hb dX11_hears_25 rfl (lv_at hl 3 rfl) ?_
    refine lv_iadd hx hb dX11_hears_26 ?_
    refine xiald hC hP hk0 hn_2 dX11_hears_27 ?_
    refine xcS_iR (As := [.int (S 128 ((S k0 ((2 + p1)).toNatClampNeg)).toNatClampNeg), .int (S k0 ((2 + p2)).toNatClampNeg)]) (rest := []) hC hP hS (k_X11_has l X S (S 128 ((S k0 ((2 + p1)).toNatClampNeg)).toNatClampNeg) (S k0 ((2 + p2)).toNatClampNeg)) (va_cwS 2 hts gX11_hears_X11_has rfl rfl rfl hs_X11_has ⟨Nat.le_of_ble_eq_true rfl, Nat.le_of_ble_eq_true rfl⟩) rfl rfl hl.1 (Nat.le_of_ble_eq_true rfl) dX11_hears_28 (fun r_5 hp_r_5 H locs hP hS => ?_)
    obtain ⟨hr_5, hzr_5⟩ := hp_r_5
    refine lv_if_eq (tgt := 38) hx hb dX11_hears_31 (by decide) (fun c_6 => ?_) (fun c_6 => ?_)
    · refine lv_iconst (v := 0) hx hb dX11_hears_38 (by decide) ?_
      exact xret_zR hC hP hS hb hr (.inl rfl) ((by subst hr_5; exact (iN c_3 (ip c_6 rfl)))) dX11_hears_39 hlocks
    · refine lv_iconst (v := 1) hx hb dX11_hears_34 (by decide) ?_
      refine lv_goto (tgt := 39) hx hb dX11_hears_35 (by decide) ?_
      exact xret_zR hC hP hS hb hr (.inr rfl) ((by subst hr_5; exact (iN c_3 (iN c_6 rfl)))) dX11_hears_39 hlocks
theorem hd_X11_spokenOf : yX11_spokenOf.cls = RX11 ∧ yX11_spokenOf.cls ≠ "java/lang/invoke/MethodHandle" ∧ yX11_spokenOf.cls ≠ "java/lang/invoke/VarHandle" ∧ (parseMethodDescriptor yX11_spokenOf.desc).map (fun d => d.parameters.length) = some 2 := by decide +kernel
set_option maxHeartbeats 4000000 in
set_option maxRecDepth 100000 in
theorem k_X11_spokenOf (l : Launch) (X : xX) (S : xS) (p0 : Int32) (p1 : Int32) (hs : s_X11_spokenOf S p0 p1) : Met l yX11_spokenOf wsX11_spokenOf ({ frames := 0, cells := 0, slots := 0, locals := 0 } : Room) (va_Pc [.ref (X.2.1 127), .int p0, .int p1] (xI X S)) (va_Qi (fun (r : Int32) (u : xS) => r = (f_X11_spokenOf S p0 p1) ∧ u = S) (xI X) (xA X)) 0 0 (xA X) := by
  refine Met.ofW (cc := cX11_spokenOf) (maxL := 3) (ret := (some .int)) (by decide) rfl ?_
  intro p e s m args below meth c s₁ B hml hv
  obtain ⟨rfl, hP, hK, hN, hJ⟩ := hv
  have hx := B.exec
  have hb := B.bytes
  have hr := B.returns
  have hts := atoms_spec (ws := wsX11_spokenOf) B.pre
  have hown : s.vm.findClass RX11 = some m.cls := findClass_of_methodNamed B.named
  have hlocks := B.notSynchronized
  have hC : xC X p m c cX11_spokenOf 3 s _ wsX11_spokenOf RX11 := ⟨⟨hx, hb, hml, hown, hts⟩, hK, hN, hJ⟩
  have hS : va_S (xA X) s.heap s.heap [] := va_S.rf
  have hin_X11 : ∀ w ∈ u_ws RX11 TX11 41, w ∈ wsX11_spokenOf := by decide +kernel
  have hl := lv_entry ([.ref (X.2.1 127), .int p0, .int p1]) (n := 3) (Nat.le_of_ble_eq_true rfl)
  rw [lg_entry_eq]
  generalize (lg_sl ([.ref (X.2.1 127), .int p0, .int p1]) ++ List.replicate (3 - (lg_sl ([.ref (X.2.1 127), .int p0, .int p1])).length) Slot.unset).toArray = ls at hl ⊢
  have hl : lv_has ls 3 [(0, .ref (X.2.1 127)), (1, .int p0), (2, .int p1)] := hl
  refine lv_iload_n hx hb dX11_spokenOf_0 rfl (lv_at hl 1 rfl) ?_
  refine lv_iload_n hx hb dX11_spokenOf_1 rfl (lv_at hl 2 rfl) ?_
  refine lv_iadd hx hb dX11_spokenOf_2 ?_
  refine lv_iconst (v := 1) hx hb dX11_spokenOf_3 (by decide) ?_
  refine lv_iadd hx hb dX11_spokenOf_4 ?_
  refine lv_aload_n hx hb dX11_spokenOf_5 rfl (lv_at hl 0 rfl) ?_
  refine xget (ref := "AbsentPraiseModel") (T := TX11) (v := .int (S 127 6)) hC hP hin_X11 xo_X11 rfl 6 (by decide) (List.mem_of_getElem? (i := 1) rfl) rfl rfl dX11_spokenOf_6 ?_
  have hn_1 : ¬ ((S 127 6) = 0) := (nl hs)
  refine lv_irem hx hb dX11_spokenOf_9 hn_1 ?_
  exact xret_iR hC hP hS hb hr ((rfl)) dX11_spokenOf_10 hlocks
theorem hd_X11_saidAll : yX11_saidAll.cls = RX11 ∧ yX11_saidAll.cls ≠ "java/lang/invoke/MethodHandle" ∧ yX11_saidAll.cls ≠ "java/lang/invoke/VarHandle" ∧ (parseMethodDescriptor yX11_saidAll.desc).map (fun d => d.parameters.length) = some 1 := by decide +kernel
set_option maxHeartbeats 4000000 in
set_option maxRecDepth 100000 in
theorem k_X11_saidAll (l : Launch) (X : xX) (S : xS) (k0 : Nat) (hk0 : isI k0 = true) (hs : s_X11_saidAll S k0) : Met l yX11_saidAll wsX11_saidAll ({ frames := 3, cells := 0, slots := 0, locals := 68 } : Room) (va_Pc [.ref (X.2.1 127), .ref (X.2.1 k0)] (xI X S)) (va_Qi (fun (r : Int32) (u : xS) => r = (f_X11_saidAll S k0) ∧ u = S) (xI X) (xA X)) 0 0 (xA X) := by
  refine Met.ofW (cc := cX11_saidAll) (maxL := 5) (ret := (some .int)) (by decide) rfl ?_
  intro p e s m args below meth c s₁ B hml hv
  obtain ⟨rfl, hP, hK, hN, hJ⟩ := hv
  have hx := B.exec
  have hb := B.bytes
  have hr := B.returns
  have hts := atoms_spec (ws := wsX11_saidAll) B.pre
  have hown : s.vm.findClass RX11 = some m.cls := findClass_of_methodNamed B.named
  have hlocks := B.notSynchronized
  have hC : xC X p m c cX11_saidAll 5 s _ wsX11_saidAll RX11 := ⟨⟨hx, hb, hml, hown, hts⟩, hK, hN, hJ⟩
  have hS : va_S (xA X) s.heap s.heap [] := va_S.rf
  have hin_X11 : ∀ w ∈ u_ws RX11 TX11 41, w ∈ wsX11_saidAll := by decide +kernel
  have hl := lv_entry ([.ref (X.2.1 127), .ref (X.2.1 k0)]) (n := 5) (Nat.le_of_ble_eq_true rfl)
  rw [lg_entry_eq]
  generalize (lg_sl ([.ref (X.2.1 127), .ref (X.2.1 k0)]) ++ List.replicate (5 - (lg_sl ([.ref (X.2.1 127), .ref (X.2.1 k0)])).length) Slot.unset).toArray = ls at hl ⊢
  have hl : lv_has ls 5 [(0, .ref (X.2.1 127)), (1, .ref (X.2.1 k0))] := hl
  refine lv_iconst (v := 0) hx hb dX11_saidAll_0 (by decide) ?_
  refine lv_istore_n (lv' := [(2, .int 0), (0, .ref (X.2.1 127)), (1, .ref (X.2.1 k0))]) hx hb dX11_saidAll_1 rfl hl (by decide) rfl (fun ls hl => ?_)
  refine lv_iconst (v := 0) hx hb dX11_saidAll_2 (by decide) ?_
  refine lv_istore_n (lv' := [(3, .int 0), (2, .int 0), (0, .ref (X.2.1 127)), (1, .ref (X.2.1 k0))]) hx hb dX11_saidAll_3 rfl hl (by decide) rfl (fun ls hl => ?_)
  have hLp_4 : ∀ (n : Nat) (x2_4 : Int32) (x3_4 : Int32), s_X11_saidAll_L4 n S k0 x2_4 x3_4 → (∀ q : Int32, q = f_X11_saidAll_L4 n S k0 x2_4 x3_4 → (∀ (H : Heap) (locs : List Loc), va_P X.1 vwCl (xW X S) H → va_S (xA X) s.heap H locs → ∀ (ls : Array Slot), lv_has ls 5 [(2, .int q)] → W p l e ({ frames := 3, cells := 0, slots := 0, locals := 68 } : Room) s m ([.ref (X.2.1 127), .ref (X.2.1 k0)] : List Value).toArray below meth c H locs 0 0 (MQ below (va_Qi (fun (r : Int32) (u : xS) => r = (f_X11_saidAll S k0) ∧ u = S) (xI X) (xA X)) ([.ref (X.2.1 127), .ref (X.2.1 k0)] : List Value).toArray s 0 0 (xA X)) (F0 m 49 ls []))) → ∀ (H : Heap) (locs : List Loc), va_P X.1 vwCl (xW X S) H → va_S (xA X) s.heap H locs → ∀ (ls : Array Slot), lv_has ls 5 [(0, .ref (X.2.1 127)), (1, .ref (X.2.1 k0)), (2, .int x2_4), (3, .int x3_4)] → W p l e ({ frames := 3, cells := 0, slots := 0, locals := 68 } : Room) s m ([.ref (X.2.1 127), .ref (X.2.1 k0)] : List Value).toArray below meth c H locs 0 0 (MQ below (va_Qi (fun (r : Int32) (u : xS) => r = (f_X11_saidAll S k0) ∧ u = S) (xI X) (xA X)) ([.ref (X.2.1 127), .ref (X.2.1 k0)] : List Value).toArray s 0 0 (xA X)) (F0 m 4 ls []) := by
    intro n
    induction n with
    | zero => intro x2_4 x3_4 hs; exact hs.elim
    | succ n ih_4 =>
      intro x2_4 x3_4 hs_4 hex_4 H locs hP hS ls hl
      refine lv_iload_n hx hb dX11_saidAll_4 rfl (lv_at hl 3 rfl) ?_
      refine lv_aload_n hx hb dX11_saidAll_5 rfl (lv_at hl 0 rfl) ?_
      refine xget (ref := "AbsentPraiseModel") (T := TX11) (v := .int (S 127 6)) hC hP hin_X11 xo_X11 rfl 6 (by decide) (List.mem_of_getElem? (i := 1) rfl) rfl rfl dX11_saidAll_6 ?_
      refine lv_icmp_ge (tgt := 49) hx hb dX11_saidAll_9 (by decide) (fun c_1 => ?_) (fun c_1 => ?_)
      · have he_2 : f_X11_saidAll_L4 (n + 1) S k0 x2_4 x3_4 = x2_4 := ((ip c_1 rfl))
        exact hex_4 _ he_2.symm _ _ hP hS ls (lv_sub hl [2] rfl)
      · refine lv_aload_n hx hb dX11_saidAll_12 rfl (lv_at hl 0 rfl) ?_
        refine lv_iload_n hx hb dX11_saidAll_13 rfl (lv_at hl 3 rfl) ?_
        refine lv_aload_n hx hb dX11_saidAll_14 rfl (lv_at hl 1 rfl) ?_
        refine lv_iconst (v := 0) hx hb dX11_saidAll_15 (by decide) ?_
        have hn_3 : vp_in 0 (xlen k0) := (nl (sn hs_4 c_1))
        refine xiald hC hP hk0 hn_3 dX11_saidAll_16 ?_
        have hn_4 : s_X11_spokenOf S x3_4 (S k0 (0 : Int32).toNatClampNeg) := (nl (nr (sn hs_4 c_1)))
        refine xcV_iR (b := 127) (As := [.int x3_4, .int (S k0 (0 : Int32).toNatClampNeg)]) (rest := []) hC hP hS (k_X11_spokenOf l X S x3_4 (S k0 (0 : Int32).toNatClampNeg) hn_4) (cwV 2 hts gX11_saidAll_X11_spokenOf rfl rfl rfl hd_X11_spokenOf ⟨Nat.le_of_ble_eq_true rfl, Nat.le_of_ble_eq_true rfl⟩) xo_X11 rfl rfl rfl hl.1 (Nat.le_of_ble_eq_true rfl) dX11_saidAll_17 (fun r_5 hr_5 H locs hP hS => ?_)
        refine lv_istore (lv' := [(4, .int r_5), (0, .ref (X.2.1 127)), (1, .ref (X.2.1 k0)), (2, .int x2_4), (3, .int x3_4)]) hx hb dX11_saidAll_20 hl (by decide) rfl (fun ls hl => ?_)
        refine lv_iload_n hx hb dX11_saidAll_22 rfl (lv_at hl 3 rfl) ?_
        refine lv_iload hx hb dX11_saidAll_23 (lv_at hl 0 rfl) ?_
        refine lv_iload_n hx hb dX11_saidAll_25 rfl (lv_at hl 4 rfl) ?_
        refine lv_icmp_ne (tgt := 33) hx hb dX11_saidAll_26 (by decide) (fun c_6 => ?_) (fun c_6 => ?_)
        · refine lv_aload_n hx hb dX11_saidAll_33 rfl (lv_at hl 1 rfl) ?_
          refine lv_aload_n hx hb dX11_saidAll_34 rfl (lv_at hl 2 rfl) ?_
          refine lv_iload_n hx hb dX11_saidAll_35 rfl (lv_at hl 4 rfl) ?_
          refine lv_iload hx hb dX11_saidAll_36 (lv_at hl 0 rfl) ?_
          have hn_7 : s_X11_says S k0 x3_4 r_5 := (by subst hr_5; exact nl (sn (nr (nr (sn hs_4 c_1))) c_6))
          refine xcV_iR (b := 127) (As := [.ref (X.2.1 k0), .int x3_4, .int r_5]) (rest := [.int x2_4]) hC hP hS (k_X11_says l X S k0 x3_4 r_5 hk0 hn_7) (cwV 3 hts gX11_saidAll_X11_says rfl rfl rfl hd_X11_says ⟨Nat.le_of_ble_eq_true rfl, Nat.le_of_ble_eq_true rfl⟩) xo_X11 rfl rfl rfl hl.1 (Nat.le_of_ble_eq_true rfl) dX11_saidAll_38 (fun r_8 hr_8 H locs hP hS => ?_)
          refine lv_iadd hx hb dX11_saidAll_41 ?_
          refine lv_istore_n (lv' := [(2, .int (x2_4 + r_8)), (4, .int r_5), (0, .ref (X.2.1 127)), (1, .ref (X.2.1 k0)), (3, .int x3_4)]) hx hb dX11_saidAll_42 rfl hl (by decide) rfl (fun ls hl => ?_)
          refine lv_iinc (v := (x3_4 + 1)) (lv' := [(3, .int (x3_4 + 1)), (2, .int (x2_4 + r_8)), (4, .int r_5), (0, .ref (X.2.1 127)), (1, .ref (X.2.1 k0))]) hx hb dX11_saidAll_43 hl (k := 4) rfl rfl (by decide) rfl (fun ls hl => ?_)
          refine lv_goto (tgt := 4) hx hb dX11_saidAll_46 (by decide) ?_
          have he_9 : f_X11_saidAll_L4 (n + 1) S k0 x2_4 x3_4 = f_X11_saidAll_L4 n S k0 (x2_4 + r_8) (x3_4 + 1) := (by subst hr_5 hr_8; exact (iN c_1 (iN c_6 rfl)))
          exact ih_4 (x2_4 + r_8) (x3_4 + 1) (by subst hr_5 hr_8; exact (nr (sn (nr (nr (sn hs_4 c_1))) c_6))) (fun q hq => hex_4 q (hq.trans he_9.symm)) _ _ hP hS ls (lv_sub hl [3, 4, 1, 0] rfl)
        · refine lv_iconst (v := 0) hx hb dX11_saidAll_29 (by decide) ?_
          refine lv_goto (tgt := 41) hx hb dX11_saidAll_30 (by decide) ?_
          refine lv_iadd hx hb dX11_saidAll_41 ?_
          refine lv_istore_n (lv' := [(2, .int (x2_4 + 0)), (4, .int r_5), (0, .ref (X.2.1 127)), (1, .ref (X.2.1 k0)), (3, .int x3_4)]) hx hb dX11_saidAll_42 rfl hl (by decide) rfl (fun ls hl => ?_)
          refine lv_iinc (v := (x3_4 + 1)) (lv' := [(3, .int (x3_4 + 1)), (2, .int (x2_4 + 0)), (4, .int r_5), (0, .ref (X.2.1 127)), (1, .ref (X.2.1 k0))]) hx hb dX11_saidAll_43 hl (k := 4) rfl rfl (by decide) rfl (fun ls hl => ?_)
          refine lv_goto (tgt := 4) hx hb dX11_saidAll_46 (by decide) ?_
          have he_10 : f_X11_saidAll_L4 (n + 1) S k0 x2_4 x3_4 = f_X11_saidAll_L4 n S k0 (x2_4 + 0) (x3_4 + 1) := (by subst hr_5; exact (iN c_1 (ip c_6 rfl)))
          exact ih_4 (x2_4 + 0) (x3_4 + 1) (by subst hr_5; exact (sp (nr (nr (sn hs_4 c_1))) c_6)) (fun q hq => hex_4 q (hq.trans he_10.symm)) _ _ hP hS ls (lv_sub hl [3, 4, 1, 0] rfl)
  refine hLp_4 ((fu 0 (S 127 6))) 0 0 (nl hs) (fun q_4 hq_4 H locs hP hS ls hl => ?_) _ _ hP hS ls (lv_sub hl [2, 3, 1, 0] rfl)
  refine lv_iload_n hx hb dX11_saidAll_49 rfl (lv_at hl 0 rfl) ?_
  exact xret_iR hC hP hS hb hr ((by subst hq_4; exact rfl)) dX11_saidAll_50 hlocks
