set_option linter.all false
/-! contracts: X11_takeRead, X11_hill, X11_fault -/
theorem hd_X11_takeRead : yX11_takeRead.cls = RX11 ∧ yX11_takeRead.cls ≠ "java/lang/invoke/MethodHandle" ∧ yX11_takeRead.cls ≠ "java/lang/invoke/VarHandle" ∧ (parseMethodDescriptor yX11_takeRead.desc).map (fun d => d.parameters.length) = some 0 := by decide +kernel
set_option maxHeartbeats 4000000 in
set_option maxRecDepth 100000 in
theorem k_X11_takeRead (l : Launch) (X : xX) (S : xS) (hs : s_X11_takeRead S) : Met l yX11_takeRead wsX11_takeRead ({ frames := 0, cells := 0, slots := 0, locals := 0 } : Room) (va_Pc [.ref (X.2.1 127)] (xI X S)) (va_Qv (fun u : xS => u = (f_X11_takeRead S)) (xI X) (xA X)) 0 0 (xA X) := by
  refine Met.ofW (cc := cX11_takeRead) (maxL := 2) (ret := none) (by decide +kernel) rfl ?_
  intro p e s m args below meth c s₁ B hml hv
  obtain ⟨rfl, hP, hK, hN, hJ⟩ := hv
  have hx := B.exec
  have hb := B.bytes
  have hr := B.returns
  have hts := atoms_spec (ws := wsX11_takeRead) B.pre
  have hown : s.vm.findClass RX11 = some m.cls := findClass_of_methodNamed B.named
  have hlocks := B.notSynchronized
  have hC : xC X p m c cX11_takeRead 2 s _ wsX11_takeRead RX11 := ⟨⟨hx, hb, hml, hown, hts⟩, hK, hN, hJ⟩
  have hS : va_S (xA X) s.heap s.heap [] := va_S.rf
  have hin_X11 : ∀ w ∈ u_ws RX11 TX11 41, w ∈ wsX11_takeRead := by decide +kernel
  have hl := lv_entry ([.ref (X.2.1 127)]) (n := 2) (Nat.le_of_ble_eq_true rfl)
  rw [lg_entry_eq]
  generalize (lg_sl ([.ref (X.2.1 127)]) ++ List.replicate (2 - (lg_sl ([.ref (X.2.1 127)])).length) Slot.unset).toArray = ls at hl ⊢
  have hl : lv_has ls 2 [(0, .ref (X.2.1 127))] := hl
  refine lv_aload_n hx hb dX11_takeRead_0 rfl (lv_at hl 0 rfl) ?_
  refine lv_aload_n hx hb dX11_takeRead_1 rfl (lv_at hl 0 rfl) ?_
  refine xget (ref := "AbsentPraiseModel") (T := TX11) (v := .int (S 127 24)) hC hP hin_X11 xo_X11 rfl 24 (by decide) (List.mem_of_getElem? (i := 1) rfl) rfl rfl dX11_takeRead_2 ?_
  refine xput (ref := "AbsentPraiseModel") (T := TX11) (ty := .int) hC hP hS (by decide) hin_X11 tyX11 tyX11_ok nmX11 xo_X11 rfl 0 (by decide) (List.mem_of_getElem? (i := 2) rfl) rfl rfl rfl rfl rfl (Nat.le_of_ble_eq_true rfl) dX11_takeRead_5 rfl (fun S_1 hS_1 H locs hP hS => ?_)
  refine lv_aload_n hx hb dX11_takeRead_8 rfl (lv_at hl 0 rfl) ?_
  refine lv_aload_n hx hb dX11_takeRead_9 rfl (lv_at hl 0 rfl) ?_
  refine xget (ref := "AbsentPraiseModel") (T := TX11) (v := .int (S_1 127 25)) hC hP hin_X11 xo_X11 rfl 25 (by decide) (List.mem_of_getElem? (i := 3) rfl) rfl rfl dX11_takeRead_10 ?_
  refine xput (ref := "AbsentPraiseModel") (T := TX11) (ty := .int) hC hP hS (by decide) hin_X11 tyX11 tyX11_ok nmX11 xo_X11 rfl 1 (by decide) (List.mem_of_getElem? (i := 4) rfl) rfl rfl rfl rfl rfl (Nat.le_of_ble_eq_true rfl) dX11_takeRead_13 rfl (fun S_2 hS_2 H locs hP hS => ?_)
  refine lv_aload_n hx hb dX11_takeRead_16 rfl (lv_at hl 0 rfl) ?_
  refine lv_aload_n hx hb dX11_takeRead_17 rfl (lv_at hl 0 rfl) ?_
  refine xget (ref := "AbsentPraiseModel") (T := TX11) (v := .int (S_2 127 26)) hC hP hin_X11 xo_X11 rfl 26 (by decide) (List.mem_of_getElem? (i := 5) rfl) rfl rfl dX11_takeRead_18 ?_
  refine xput (ref := "AbsentPraiseModel") (T := TX11) (ty := .int) hC hP hS (by decide) hin_X11 tyX11 tyX11_ok nmX11 xo_X11 rfl 2 (by decide) (List.mem_of_getElem? (i := 6) rfl) rfl rfl rfl rfl rfl (Nat.le_of_ble_eq_true rfl) dX11_takeRead_21 rfl (fun S_3 hS_3 H locs hP hS => ?_)
  refine lv_aload_n hx hb dX11_takeRead_24 rfl (lv_at hl 0 rfl) ?_
  refine lv_aload_n hx hb dX11_takeRead_25 rfl (lv_at hl 0 rfl) ?_
  refine xget (ref := "AbsentPraiseModel") (T := TX11) (v := .int (S_3 127 27)) hC hP hin_X11 xo_X11 rfl 27 (by decide) (List.mem_of_getElem? (i := 7) rfl) rfl rfl dX11_takeRead_26 ?_
  refine xput (ref := "AbsentPraiseModel") (T := TX11) (ty := .int) hC hP hS (by decide) hin_X11 tyX11 tyX11_ok nmX11 xo_X11 rfl 3 (by decide) (List.mem_of_getElem? (i := 8) rfl) rfl rfl rfl rfl rfl (Nat.le_of_ble_eq_true rfl) dX11_takeRead_29 rfl (fun S_4 hS_4 H locs hP hS => ?_)
  refine lv_aload_n hx hb dX11_takeRead_32 rfl (lv_at hl 0 rfl) ?_
  refine lv_aload_n hx hb dX11_takeRead_33 rfl (lv_at hl 0 rfl) ?_
  refine xget (ref := "AbsentPraiseModel") (T := TX11) (v := .int (S_4 127 30)) hC hP hin_X11 xo_X11 rfl 30 (by decide) (List.mem_of_getElem? (i := 9) rfl) rfl rfl dX11_takeRead_34 ?_
  refine xput (ref := "AbsentPraiseModel") (T := TX11) (ty := .int) hC hP hS (by decide) hin_X11 tyX11 tyX11_ok nmX11 xo_X11 rfl 6 (by decide) (List.mem_of_getElem? (i := 10) rfl) rfl rfl rfl rfl rfl (Nat.le_of_ble_eq_true rfl) dX11_takeRead_37 rfl (fun S_5 hS_5 H locs hP hS => ?_)
  refine lv_iconst (v := 0) hx hb dX11_takeRead_40 (by decide) ?_
  refine lv_istore_n (lv' := [(1, .int 0), (0, .ref (X.2.1 127))]) hx hb dX11_takeRead_41 rfl hl (by decide) rfl (fun ls hl => ?_)
  have hLp_42 : ∀ (n : Nat) (T_42 : xS) (x1_42 : Int32), s_X11_takeRead_L42 n T_42 x1_42 → (∀ q : xS, q = f_X11_takeRead_L42 n T_42 x1_42 → (∀ (H : Heap) (locs : List Loc), va_P X.1 vwCl (xW X q) H → va_S (xA X) s.heap H locs → ∀ (ls : Array Slot), lv_has ls 2 [(0, .ref (X.2.1 127))] → W p l e ({ frames := 0, cells := 0, slots := 0, locals := 0 } : Room) s m ([.ref (X.2.1 127)] : List Value).toArray below meth c H locs 0 0 (MQ below (va_Qv (fun u : xS => u = (f_X11_takeRead S)) (xI X) (xA X)) ([.ref (X.2.1 127)] : List Value).toArray s 0 0 (xA X)) (F0 m 78 ls []))) → ∀ (H : Heap) (locs : List Loc), va_P X.1 vwCl (xW X T_42) H → va_S (xA X) s.heap H locs → ∀ (ls : Array Slot), lv_has ls 2 [(0, .ref (X.2.1 127)), (1, .int x1_42)] → W p l e ({ frames := 0, cells := 0, slots := 0, locals := 0 } : Room) s m ([.ref (X.2.1 127)] : List Value).toArray below meth c H locs 0 0 (MQ below (va_Qv (fun u : xS => u = (f_X11_takeRead S)) (xI X) (xA X)) ([.ref (X.2.1 127)] : List Value).toArray s 0 0 (xA X)) (F0 m 42 ls []) := by
    intro n
    induction n with
    | zero => intro T_42 x1_42 hs; exact hs.elim
    | succ n ih_42 =>
      intro T_42 x1_42 hs_42 hex_42 H locs hP hS ls hl
      refine lv_iload_n hx hb dX11_takeRead_42 rfl (lv_at hl 1 rfl) ?_
      refine lv_bipush (v := 6) hx hb dX11_takeRead_43 (by decide) ?_
      refine lv_icmp_ge (tgt := 78) hx hb dX11_takeRead_45 (by decide) (fun c_6 => ?_) (fun c_6 => ?_)
      · have he_7 : f_X11_takeRead_L42 (n + 1) T_42 x1_42 = T_42 := ((ip c_6 rfl))
        exact hex_42 _ he_7.symm _ _ hP hS ls (lv_sub hl [0] rfl)
      · refine lv_aload_n hx hb dX11_takeRead_48 rfl (lv_at hl 0 rfl) ?_
        refine xget (ref := "AbsentPraiseModel") (T := TX11) (v := .ref (X.2.1 128)) hC hP hin_X11 xo_X11 rfl 4 (by decide) (List.mem_of_getElem? (i := 11) rfl) rfl rfl dX11_takeRead_49 ?_
        refine lv_iload_n hx hb dX11_takeRead_52 rfl (lv_at hl 1 rfl) ?_
        refine lv_aload_n hx hb dX11_takeRead_53 rfl (lv_at hl 0 rfl) ?_
        refine xget (ref := "AbsentPraiseModel") (T := TX11) (v := .ref (X.2.1 139)) hC hP hin_X11 xo_X11 rfl 28 (by decide) (List.mem_of_getElem? (i := 12) rfl) rfl rfl dX11_takeRead_54 ?_
        refine lv_iload_n hx hb dX11_takeRead_57 rfl (lv_at hl 1 rfl) ?_
        have hn_8 : vp_in x1_42 6 := (nl (sn hs_42 c_6))
        refine xiald hC hP rfl hn_8 dX11_takeRead_58 ?_
        refine xiast hC hP hS rfl hn_8 dX11_takeRead_59 (fun S_9 hS_9 H locs hP hS => ?_)
        refine lv_aload_n hx hb dX11_takeRead_60 rfl (lv_at hl 0 rfl) ?_
        refine xget (ref := "AbsentPraiseModel") (T := TX11) (v := .ref (X.2.1 129)) hC hP hin_X11 xo_X11 rfl 5 (by decide) (List.mem_of_getElem? (i := 13) rfl) rfl rfl dX11_takeRead_61 ?_
        refine lv_iload_n hx hb dX11_takeRead_64 rfl (lv_at hl 1 rfl) ?_
        refine lv_aload_n hx hb dX11_takeRead_65 rfl (lv_at hl 0 rfl) ?_
        refine xget (ref := "AbsentPraiseModel") (T := TX11) (v := .ref (X.2.1 140)) hC hP hin_X11 xo_X11 rfl 29 (by decide) (List.mem_of_getElem? (i := 14) rfl) rfl rfl dX11_takeRead_66 ?_
        refine lv_iload_n hx hb dX11_takeRead_69 rfl (lv_at hl 1 rfl) ?_
        refine xiald hC hP rfl hn_8 dX11_takeRead_70 ?_
        refine xiast hC hP hS rfl hn_8 dX11_takeRead_71 (fun S_10 hS_10 H locs hP hS => ?_)
        refine lv_iinc (v := (x1_42 + 1)) (lv' := [(1, .int (x1_42 + 1)), (0, .ref (X.2.1 127))]) hx hb dX11_takeRead_72 hl (k := 1) rfl rfl (by decide) rfl (fun ls hl => ?_)
        refine lv_goto (tgt := 42) hx hb dX11_takeRead_75 (by decide) ?_
        have he_11 : f_X11_takeRead_L42 (n + 1) T_42 x1_42 = f_X11_takeRead_L42 n S_10 (x1_42 + 1) := (by have hS_9 := hS_9.symm; have hS_10 := hS_10.symm; subst hS_9 hS_10; exact (iN c_6 rfl))
        exact ih_42 S_10 (x1_42 + 1) (by have hS_9 := hS_9.symm; have hS_10 := hS_10.symm; subst hS_9 hS_10; exact (nr (sn hs_42 c_6))) (fun q hq => hex_42 q (hq.trans he_11.symm)) _ _ hP hS ls (lv_sub hl [1, 0] rfl)
  refine hLp_42 ((fu 0 6)) S_5 0 (by have hS_1 := hS_1.symm; have hS_2 := hS_2.symm; have hS_3 := hS_3.symm; have hS_4 := hS_4.symm; have hS_5 := hS_5.symm; subst hS_1 hS_2 hS_3 hS_4 hS_5; exact nl hs) (fun q_42 hq_42 H locs hP hS ls hl => ?_) _ _ hP hS ls (lv_sub hl [1, 0] rfl)
  refine lv_iconst (v := 0) hx hb dX11_takeRead_78 (by decide) ?_
  refine lv_istore_n (lv' := [(1, .int 0), (0, .ref (X.2.1 127))]) hx hb dX11_takeRead_79 rfl hl (by decide) rfl (fun ls hl => ?_)
  have hLp_80 : ∀ (n : Nat) (T_80 : xS) (x1_80 : Int32), s_X11_takeRead_L80 n T_80 x1_80 → (∀ q : xS, q = f_X11_takeRead_L80 n T_80 x1_80 → (∀ (H : Heap) (locs : List Loc), va_P X.1 vwCl (xW X q) H → va_S (xA X) s.heap H locs → ∀ (ls : Array Slot), lv_has ls 2 [(0, .ref (X.2.1 127))] → W p l e ({ frames := 0, cells := 0, slots := 0, locals := 0 } : Room) s m ([.ref (X.2.1 127)] : List Value).toArray below meth c H locs 0 0 (MQ below (va_Qv (fun u : xS => u = (f_X11_takeRead S)) (xI X) (xA X)) ([.ref (X.2.1 127)] : List Value).toArray s 0 0 (xA X)) (F0 m 99 ls []))) → ∀ (H : Heap) (locs : List Loc), va_P X.1 vwCl (xW X T_80) H → va_S (xA X) s.heap H locs → ∀ (ls : Array Slot), lv_has ls 2 [(0, .ref (X.2.1 127)), (1, .int x1_80)] → W p l e ({ frames := 0, cells := 0, slots := 0, locals := 0 } : Room) s m ([.ref (X.2.1 127)] : List Value).toArray below meth c H locs 0 0 (MQ below (va_Qv (fun u : xS => u = (f_X11_takeRead S)) (xI X) (xA X)) ([.ref (X.2.1 127)] : List Value).toArray s 0 0 (xA X)) (F0 m 80 ls []) := by
    intro n
    induction n with
    | zero => intro T_80 x1_80 hs; exact hs.elim
    | succ n ih_80 =>
      intro T_80 x1_80 hs_80 hex_80 H locs hP hS ls hl
      refine lv_iload_n hx hb dX11_takeRead_80 rfl (lv_at hl 1 rfl) ?_
      refine lv_bipush (v := 72) hx hb dX11_takeRead_81 (by decide) ?_
      refine lv_icmp_ge (tgt := 99) hx hb dX11_takeRead_83 (by decide) (fun c_12 => ?_) (fun c_12 => ?_)
      · have he_13 : f_X11_takeRead_L80 (n + 1) T_80 x1_80 = T_80 := ((ip c_12 rfl))
        exact hex_80 _ he_13.symm _ _ hP hS ls (lv_sub hl [0] rfl)
      · refine lv_aload_n hx hb dX11_takeRead_86 rfl (lv_at hl 0 rfl) ?_
        refine xget (ref := "AbsentPraiseModel") (T := TX11) (v := .ref (X.2.1 131)) hC hP hin_X11 xo_X11 rfl 8 (by decide) (List.mem_of_getElem? (i := 15) rfl) rfl rfl dX11_takeRead_87 ?_
        refine lv_iload_n hx hb dX11_takeRead_90 rfl (lv_at hl 1 rfl) ?_
        refine lv_iconst (v := 0) hx hb dX11_takeRead_91 (by decide) ?_
        have hn_14 : vp_in x1_80 72 := (nl (sn hs_80 c_12))
        refine xiast hC hP hS rfl hn_14 dX11_takeRead_92 (fun S_15 hS_15 H locs hP hS => ?_)
        refine lv_iinc (v := (x1_80 + 1)) (lv' := [(1, .int (x1_80 + 1)), (0, .ref (X.2.1 127))]) hx hb dX11_takeRead_93 hl (k := 1) rfl rfl (by decide) rfl (fun ls hl => ?_)
        refine lv_goto (tgt := 80) hx hb dX11_takeRead_96 (by decide) ?_
        have he_16 : f_X11_takeRead_L80 (n + 1) T_80 x1_80 = f_X11_takeRead_L80 n S_15 (x1_80 + 1) := (by have hS_15 := hS_15.symm; subst hS_15; exact (iN c_12 rfl))
        exact ih_80 S_15 (x1_80 + 1) (by have hS_15 := hS_15.symm; subst hS_15; exact (nr (sn hs_80 c_12))) (fun q hq => hex_80 q (hq.trans he_16.symm)) _ _ hP hS ls (lv_sub hl [1, 0] rfl)
  refine hLp_80 ((fu 0 72)) q_42 0 (by have hS_1 := hS_1.symm; have hS_2 := hS_2.symm; have hS_3 := hS_3.symm; have hS_4 := hS_4.symm; have hS_5 := hS_5.symm; have hq_42 := hq_42.symm; subst hS_1 hS_2 hS_3 hS_4 hS_5 hq_42; exact nl (nr hs)) (fun q_80 hq_80 H locs hP hS ls hl => ?_) _ _ hP hS ls (lv_sub hl [1, 0] rfl)
  refine lv_iconst (v := 0) hx hb dX11_takeRead_99 (by decide) ?_
  refine lv_istore_n (lv' := [(1, .int 0), (0, .ref (X.2.1 127))]) hx hb dX11_takeRead_100 rfl hl (by decide) rfl (fun ls hl => ?_)
  have hLp_101 : ∀ (n : Nat) (T_101 : xS) (x1_101 : Int32), s_X11_takeRead_L101 n T_101 x1_101 → (∀ q : xS, q = f_X11_takeRead_L101 n T_101 x1_101 → (∀ (H : Heap) (locs : List Loc), va_P X.1 vwCl (xW X q) H → va_S (xA X) s.heap H locs → ∀ (ls : Array Slot), lv_has ls 2 [(0, .ref (X.2.1 127))] → W p l e ({ frames := 0, cells := 0, slots := 0, locals := 0 } : Room) s m ([.ref (X.2.1 127)] : List Value).toArray below meth c H locs 0 0 (MQ below (va_Qv (fun u : xS => u = (f_X11_takeRead S)) (xI X) (xA X)) ([.ref (X.2.1 127)] : List Value).toArray s 0 0 (xA X)) (F0 m 151 ls []))) → ∀ (H : Heap) (locs : List Loc), va_P X.1 vwCl (xW X T_101) H → va_S (xA X) s.heap H locs → ∀ (ls : Array Slot), lv_has ls 2 [(0, .ref (X.2.1 127)), (1, .int x1_101)] → W p l e ({ frames := 0, cells := 0, slots := 0, locals := 0 } : Room) s m ([.ref (X.2.1 127)] : List Value).toArray below meth c H locs 0 0 (MQ below (va_Qv (fun u : xS => u = (f_X11_takeRead S)) (xI X) (xA X)) ([.ref (X.2.1 127)] : List Value).toArray s 0 0 (xA X)) (F0 m 101 ls []) := by
    intro n
    induction n with
    | zero => intro T_101 x1_101 hs; exact hs.elim
    | succ n ih_101 =>
      intro T_101 x1_101 hs_101 hex_101 H locs hP hS ls hl
      refine lv_iload_n hx hb dX11_takeRead_101 rfl (lv_at hl 1 rfl) ?_
      refine lv_bipush (v := 7) hx hb dX11_takeRead_102 (by decide) ?_
      refine lv_icmp_ge (tgt := 151) hx hb dX11_takeRead_104 (by decide) (fun c_17 => ?_) (fun c_17 => ?_)
      · have he_18 : f_X11_takeRead_L101 (n + 1) T_101 x1_101 = T_101 := ((ip c_17 rfl))
        exact hex_101 _ he_18.symm _ _ hP hS ls (lv_sub hl [0] rfl)
      · refine lv_aload_n hx hb dX11_takeRead_107 rfl (lv_at hl 0 rfl) ?_
        refine xget (ref := "AbsentPraiseModel") (T := TX11) (v := .ref (X.2.1 130)) hC hP hin_X11 xo_X11 rfl 7 (by decide) (List.mem_of_getElem? (i := 16) rfl) rfl rfl dX11_takeRead_108 ?_
        refine lv_iload_n hx hb dX11_takeRead_111 rfl (lv_at hl 1 rfl) ?_
        refine lv_aload_n hx hb dX11_takeRead_112 rfl (lv_at hl 0 rfl) ?_
        refine xget (ref := "AbsentPraiseModel") (T := TX11) (v := .ref (X.2.1 141)) hC hP hin_X11 xo_X11 rfl 31 (by decide) (List.mem_of_getElem? (i := 17) rfl) rfl rfl dX11_takeRead_113 ?_
        refine lv_iload_n hx hb dX11_takeRead_116 rfl (lv_at hl 1 rfl) ?_
        have hn_19 : vp_in x1_101 7 := (nl (sn hs_101 c_17))
        refine xiald hC hP rfl hn_19 dX11_takeRead_117 ?_
        refine xiast hC hP hS rfl hn_19 dX11_takeRead_118 (fun S_20 hS_20 H locs hP hS => ?_)
        refine lv_aload_n hx hb dX11_takeRead_119 rfl (lv_at hl 0 rfl) ?_
        refine xget (ref := "AbsentPraiseModel") (T := TX11) (v := .ref (X.2.1 131)) hC hP hin_X11 xo_X11 rfl 8 (by decide) (List.mem_of_getElem? (i := 15) rfl) rfl rfl dX11_takeRead_120 ?_
        refine lv_iconst (v := 2) hx hb dX11_takeRead_123 (by decide) ?_
        refine lv_iload_n hx hb dX11_takeRead_124 rfl (lv_at hl 1 rfl) ?_
        refine lv_iadd hx hb dX11_takeRead_125 ?_
        refine lv_iload_n hx hb dX11_takeRead_126 rfl (lv_at hl 1 rfl) ?_
        refine lv_aload_n hx hb dX11_takeRead_127 rfl (lv_at hl 0 rfl) ?_
        refine xget (ref := "AbsentPraiseModel") (T := TX11) (v := .int (S_20 127 6)) hC hP hin_X11 xo_X11 rfl 6 (by decide) (List.mem_of_getElem? (i := 10) rfl) rfl rfl dX11_takeRead_128 ?_
        refine lv_icmp_ge (tgt := 143) hx hb dX11_takeRead_131 (by decide) (fun c_21 => ?_) (fun c_21 => ?_)
        · refine lv_iconst (v := 0) hx hb dX11_takeRead_143 (by decide) ?_
          have hn_22 : vp_in (2 + x1_101) 72 := (by have hS_20 := hS_20.symm; subst hS_20; exact nl (sp (nr (sn hs_101 c_17)) c_21))
          refine xiast hC hP hS rfl hn_22 dX11_takeRead_144 (fun S_23 hS_23 H locs hP hS => ?_)
          refine lv_iinc (v := (x1_101 + 1)) (lv' := [(1, .int (x1_101 + 1)), (0, .ref (X.2.1 127))]) hx hb dX11_takeRead_145 hl (k := 1) rfl rfl (by decide) rfl (fun ls hl => ?_)
          refine lv_goto (tgt := 101) hx hb dX11_takeRead_148 (by decide) ?_
          have he_24 : f_X11_takeRead_L101 (n + 1) T_101 x1_101 = f_X11_takeRead_L101 n S_23 (x1_101 + 1) := (by have hS_20 := hS_20.symm; have hS_23 := hS_23.symm; subst hS_20 hS_23; exact (iN c_17 (ip c_21 rfl)))
          exact ih_101 S_23 (x1_101 + 1) (by have hS_20 := hS_20.symm; have hS_23 := hS_23.symm; subst hS_20 hS_23; exact (nr (sp (nr (sn hs_101 c_17)) c_21))) (fun q hq => hex_101 q (hq.trans he_24.symm)) _ _ hP hS ls (lv_sub hl [1, 0] rfl)
        · refine lv_aload_n hx hb dX11_takeRead_134 rfl (lv_at hl 0 rfl) ?_
          refine xget (ref := "AbsentPraiseModel") (T := TX11) (v := .ref (X.2.1 142)) hC hP hin_X11 xo_X11 rfl 32 (by decide) (List.mem_of_getElem? (i := 18) rfl) rfl rfl dX11_takeRead_135 ?_
          refine lv_iload_n hx hb dX11_takeRead_138 rfl (lv_at hl 1 rfl) ?_
          refine xiald hC hP rfl hn_19 dX11_takeRead_139 ?_
          refine lv_goto (tgt := 144) hx hb dX11_takeRead_140 (by decide) ?_
          have hn_25 : vp_in (2 + x1_101) 72 := (by have hS_20 := hS_20.symm; subst hS_20; exact nl (sn (nr (sn hs_101 c_17)) c_21))
          refine xiast hC hP hS rfl hn_25 dX11_takeRead_144 (fun S_26 hS_26 H locs hP hS => ?_)
          refine lv_iinc (v := (x1_101 + 1)) (lv' := [(1, .int (x1_101 + 1)), (0, .ref (X.2.1 127))]) hx hb dX11_takeRead_145 hl (k := 1) rfl rfl (by decide) rfl (fun ls hl => ?_)
          refine lv_goto (tgt := 101) hx hb dX11_takeRead_148 (by decide) ?_
          have he_27 : f_X11_takeRead_L101 (n + 1) T_101 x1_101 = f_X11_takeRead_L101 n S_26 (x1_101 + 1) := (by have hS_20 := hS_20.symm; have hS_26 := hS_26.symm; subst hS_20 hS_26; exact (iN c_17 (iN c_21 rfl)))
          exact ih_101 S_26 (x1_101 + 1) (by have hS_20 := hS_20.symm; have hS_26 := hS_26.symm; subst hS_20 hS_26; exact (nr (sn (nr (sn hs_101 c_17)) c_21))) (fun q hq => hex_101 q (hq.trans he_27.symm)) _ _ hP hS ls (lv_sub hl [1, 0] rfl)
  refine hLp_101 ((fu 0 7)) q_80 0 (by have hS_1 := hS_1.symm; have hS_2 := hS_2.symm; have hS_3 := hS_3.symm; have hS_4 := hS_4.symm; have hS_5 := hS_5.symm; have hq_42 := hq_42.symm; have hq_80 := hq_80.symm; subst hS_1 hS_2 hS_3 hS_4 hS_5 hq_42 hq_80; exact nl (nr (nr hs))) (fun q_101 hq_101 H locs hP hS ls hl => ?_) _ _ hP hS ls (lv_sub hl [1, 0] rfl)
  refine lv_iconst (v := 0) hx hb dX11_takeRead_151 (by decide) ?_
  refine lv_istore_n (lv' := [(1, .int 0), (0, .ref (X.2.1 127))]) hx hb dX11_takeRead_152 rfl hl (by decide) rfl (fun ls hl => ?_)
  have hLp_153 : ∀ (n : Nat) (T_153 : xS) (x1_153 : Int32), s_X11_takeRead_L153 n T_153 x1_153 → (∀ q : xS, q = f_X11_takeRead_L153 n T_153 x1_153 → (∀ (H : Heap) (locs : List Loc), va_P X.1 vwCl (xW X q) H → va_S (xA X) s.heap H locs → ∀ (ls : Array Slot), lv_has ls 2 [] → W p l e ({ frames := 0, cells := 0, slots := 0, locals := 0 } : Room) s m ([.ref (X.2.1 127)] : List Value).toArray below meth c H locs 0 0 (MQ below (va_Qv (fun u : xS => u = (f_X11_takeRead S)) (xI X) (xA X)) ([.ref (X.2.1 127)] : List Value).toArray s 0 0 (xA X)) (F0 m 180 ls []))) → ∀ (H : Heap) (locs : List Loc), va_P X.1 vwCl (xW X T_153) H → va_S (xA X) s.heap H locs → ∀ (ls : Array Slot), lv_has ls 2 [(0, .ref (X.2.1 127)), (1, .int x1_153)] → W p l e ({ frames := 0, cells := 0, slots := 0, locals := 0 } : Room) s m ([.ref (X.2.1 127)] : List Value).toArray below meth c H locs 0 0 (MQ below (va_Qv (fun u : xS => u = (f_X11_takeRead S)) (xI X) (xA X)) ([.ref (X.2.1 127)] : List Value).toArray s 0 0 (xA X)) (F0 m 153 ls []) := by
    intro n
    induction n with
    | zero => intro T_153 x1_153 hs; exact hs.elim
    | succ n ih_153 =>
      intro T_153 x1_153 hs_153 hex_153 H locs hP hS ls hl
      refine lv_iload_n hx hb dX11_takeRead_153 rfl (lv_at hl 1 rfl) ?_
      refine lv_bipush (v := 49) hx hb dX11_takeRead_154 (by decide) ?_
      refine lv_icmp_ge (tgt := 180) hx hb dX11_takeRead_156 (by decide) (fun c_28 => ?_) (fun c_28 => ?_)
      · have he_29 : f_X11_takeRead_L153 (n + 1) T_153 x1_153 = T_153 := ((ip c_28 rfl))
        exact hex_153 _ he_29.symm _ _ hP hS ls (lv_sub hl [] rfl)
      · refine lv_aload_n hx hb dX11_takeRead_159 rfl (lv_at hl 0 rfl) ?_
        refine xget (ref := "AbsentPraiseModel") (T := TX11) (v := .ref (X.2.1 131)) hC hP hin_X11 xo_X11 rfl 8 (by decide) (List.mem_of_getElem? (i := 15) rfl) rfl rfl dX11_takeRead_160 ?_
        refine lv_bipush (v := 23) hx hb dX11_takeRead_163 (by decide) ?_
        refine lv_iload_n hx hb dX11_takeRead_165 rfl (lv_at hl 1 rfl) ?_
        refine lv_iadd hx hb dX11_takeRead_166 ?_
        refine lv_aload_n hx hb dX11_takeRead_167 rfl (lv_at hl 0 rfl) ?_
        refine xget (ref := "AbsentPraiseModel") (T := TX11) (v := .ref (X.2.1 143)) hC hP hin_X11 xo_X11 rfl 34 (by decide) (List.mem_of_getElem? (i := 19) rfl) rfl rfl dX11_takeRead_168 ?_
        refine lv_iload_n hx hb dX11_takeRead_171 rfl (lv_at hl 1 rfl) ?_
        have hn_30 : vp_in x1_153 49 := (nl (sn hs_153 c_28))
        refine xiald hC hP rfl hn_30 dX11_takeRead_172 ?_
        have hn_31 : vp_in (23 + x1_153) 72 := (nl (nr (sn hs_153 c_28)))
        refine xiast hC hP hS rfl hn_31 dX11_takeRead_173 (fun S_32 hS_32 H locs hP hS => ?_)
        refine lv_iinc (v := (x1_153 + 1)) (lv' := [(1, .int (x1_153 + 1)), (0, .ref (X.2.1 127))]) hx hb dX11_takeRead_174 hl (k := 1) rfl rfl (by decide) rfl (fun ls hl => ?_)
        refine lv_goto (tgt := 153) hx hb dX11_takeRead_177 (by decide) ?_
        have he_33 : f_X11_takeRead_L153 (n + 1) T_153 x1_153 = f_X11_takeRead_L153 n S_32 (x1_153 + 1) := (by have hS_32 := hS_32.symm; subst hS_32; exact (iN c_28 rfl))
        exact ih_153 S_32 (x1_153 + 1) (by have hS_32 := hS_32.symm; subst hS_32; exact (nr (nr (sn hs_153 c_28)))) (fun q hq => hex_153 q (hq.trans he_33.symm)) _ _ hP hS ls (lv_sub hl [1, 0] rfl)
  refine hLp_153 ((fu 0 49)) q_101 0 (by have hS_1 := hS_1.symm; have hS_2 := hS_2.symm; have hS_3 := hS_3.symm; have hS_4 := hS_4.symm; have hS_5 := hS_5.symm; have hq_42 := hq_42.symm; have hq_80 := hq_80.symm; have hq_101 := hq_101.symm; subst hS_1 hS_2 hS_3 hS_4 hS_5 hq_42 hq_80 hq_101; exact nl (nr (nr (nr hs)))) (fun q_153 hq_153 H locs hP hS ls hl => ?_) _ _ hP hS ls (lv_sub hl [1, 0] rfl)
  exact xret_v hC hP hS hb hr (by simp only [f_X11_takeRead, ← hS_1, ← hS_2, ← hS_3, ← hS_4, ← hS_5, ← hq_42, ← hq_80, ← hq_101, ← hq_153]) dX11_takeRead_180 hlocks
theorem hd_X11_hill : yX11_hill.cls = RX11 ∧ yX11_hill.cls ≠ "java/lang/invoke/MethodHandle" ∧ yX11_hill.cls ≠ "java/lang/invoke/VarHandle" ∧ (parseMethodDescriptor yX11_hill.desc).map (fun d => d.parameters.length) = some 0 := by decide +kernel
set_option maxHeartbeats 4000000 in
set_option maxRecDepth 100000 in
theorem k_X11_hill (l : Launch) (X : xX) (S : xS) (hs : s_X11_hill S) : Met l yX11_hill wsX11_hill ({ frames := 6, cells := 0, slots := 0, locals := 135 } : Room) (va_Pc [.ref (X.2.1 127)] (xI X S)) (va_Qi (fun (r : Int32) (u : xS) => r = (f_X11_hill S).1 ∧ u = (f_X11_hill S).2) (xI X) (xA X)) 0 0 (xA X) := by
  refine Met.ofW (cc := cX11_hill) (maxL := 2) (ret := (some .int)) (by decide +kernel) rfl ?_
  intro p e s m args below meth c s₁ B hml hv
  obtain ⟨rfl, hP, hK, hN, hJ⟩ := hv
  have hx := B.exec
  have hb := B.bytes
  have hr := B.returns
  have hts := atoms_spec (ws := wsX11_hill) B.pre
  have hown : s.vm.findClass RX11 = some m.cls := findClass_of_methodNamed B.named
  have hlocks := B.notSynchronized
  have hC : xC X p m c cX11_hill 2 s _ wsX11_hill RX11 := ⟨⟨hx, hb, hml, hown, hts⟩, hK, hN, hJ⟩
  have hS : va_S (xA X) s.heap s.heap [] := va_S.rf
  have hin_X11 : ∀ w ∈ u_ws RX11 TX11 41, w ∈ wsX11_hill := by decide +kernel
  have hl := lv_entry ([.ref (X.2.1 127)]) (n := 2) (Nat.le_of_ble_eq_true rfl)
  rw [lg_entry_eq]
  generalize (lg_sl ([.ref (X.2.1 127)]) ++ List.replicate (2 - (lg_sl ([.ref (X.2.1 127)])).length) Slot.unset).toArray = ls at hl ⊢
  have hl : lv_has ls 2 [(0, .ref (X.2.1 127))] := hl
  refine lv_aload_n hx hb dX11_hill_0 rfl (lv_at hl 0 rfl) ?_
  refine lv_iconst (v := (-1)) hx hb dX11_hill_1 (by decide) ?_
  refine xput (ref := "AbsentPraiseModel") (T := TX11) (ty := .int) hC hP hS (by decide) hin_X11 tyX11 tyX11_ok nmX11 xo_X11 rfl 20 (by decide) (List.mem_of_getElem? (i := 1) rfl) rfl rfl rfl rfl rfl (Nat.le_of_ble_eq_true rfl) dX11_hill_2 rfl (fun S_1 hS_1 H locs hP hS => ?_)
  refine lv_aload_n hx hb dX11_hill_5 rfl (lv_at hl 0 rfl) ?_
  refine lv_iconst (v := 0) hx hb dX11_hill_6 (by decide) ?_
  refine xput (ref := "AbsentPraiseModel") (T := TX11) (ty := .int) hC hP hS (by decide) hin_X11 tyX11 tyX11_ok nmX11 xo_X11 rfl 21 (by decide) (List.mem_of_getElem? (i := 2) rfl) rfl rfl rfl rfl rfl (Nat.le_of_ble_eq_true rfl) dX11_hill_7 rfl (fun S_2 hS_2 H locs hP hS => ?_)
  refine lv_aload_n hx hb dX11_hill_10 rfl (lv_at hl 0 rfl) ?_
  refine lv_iconst (v := 0) hx hb dX11_hill_11 (by decide) ?_
  refine xput (ref := "AbsentPraiseModel") (T := TX11) (ty := .int) hC hP hS (by decide) hin_X11 tyX11 tyX11_ok nmX11 xo_X11 rfl 24 (by decide) (List.mem_of_getElem? (i := 3) rfl) rfl rfl rfl rfl rfl (Nat.le_of_ble_eq_true rfl) dX11_hill_12 rfl (fun S_3 hS_3 H locs hP hS => ?_)
  refine lv_aload_n hx hb dX11_hill_15 rfl (lv_at hl 0 rfl) ?_
  refine lv_iconst (v := 0) hx hb dX11_hill_16 (by decide) ?_
  refine xput (ref := "AbsentPraiseModel") (T := TX11) (ty := .int) hC hP hS (by decide) hin_X11 tyX11 tyX11_ok nmX11 xo_X11 rfl 25 (by decide) (List.mem_of_getElem? (i := 4) rfl) rfl rfl rfl rfl rfl (Nat.le_of_ble_eq_true rfl) dX11_hill_17 rfl (fun S_4 hS_4 H locs hP hS => ?_)
  refine lv_aload_n hx hb dX11_hill_20 rfl (lv_at hl 0 rfl) ?_
  refine lv_iconst (v := 0) hx hb dX11_hill_21 (by decide) ?_
  refine xput (ref := "AbsentPraiseModel") (T := TX11) (ty := .int) hC hP hS (by decide) hin_X11 tyX11 tyX11_ok nmX11 xo_X11 rfl 26 (by decide) (List.mem_of_getElem? (i := 5) rfl) rfl rfl rfl rfl rfl (Nat.le_of_ble_eq_true rfl) dX11_hill_22 rfl (fun S_5 hS_5 H locs hP hS => ?_)
  refine lv_aload_n hx hb dX11_hill_25 rfl (lv_at hl 0 rfl) ?_
  refine lv_iconst (v := 0) hx hb dX11_hill_26 (by decide) ?_
  refine xput (ref := "AbsentPraiseModel") (T := TX11) (ty := .int) hC hP hS (by decide) hin_X11 tyX11 tyX11_ok nmX11 xo_X11 rfl 27 (by decide) (List.mem_of_getElem? (i := 6) rfl) rfl rfl rfl rfl rfl (Nat.le_of_ble_eq_true rfl) dX11_hill_27 rfl (fun S_6 hS_6 H locs hP hS => ?_)
  refine lv_aload_n hx hb dX11_hill_30 rfl (lv_at hl 0 rfl) ?_
  refine lv_iconst (v := 0) hx hb dX11_hill_31 (by decide) ?_
  refine xput (ref := "AbsentPraiseModel") (T := TX11) (ty := .int) hC hP hS (by decide) hin_X11 tyX11 tyX11_ok nmX11 xo_X11 rfl 30 (by decide) (List.mem_of_getElem? (i := 7) rfl) rfl rfl rfl rfl rfl (Nat.le_of_ble_eq_true rfl) dX11_hill_32 rfl (fun S_7 hS_7 H locs hP hS => ?_)
  refine lv_aload_n hx hb dX11_hill_35 rfl (lv_at hl 0 rfl) ?_
  refine lv_iconst (v := 0) hx hb dX11_hill_36 (by decide) ?_
  refine xput (ref := "AbsentPraiseModel") (T := TX11) (ty := .int) hC hP hS (by decide) hin_X11 tyX11 tyX11_ok nmX11 xo_X11 rfl 33 (by decide) (List.mem_of_getElem? (i := 8) rfl) rfl rfl rfl rfl rfl (Nat.le_of_ble_eq_true rfl) dX11_hill_37 rfl (fun S_8 hS_8 H locs hP hS => ?_)
  refine lv_iconst (v := 0) hx hb dX11_hill_40 (by decide) ?_
  refine lv_istore_n (lv' := [(1, .int 0), (0, .ref (X.2.1 127))]) hx hb dX11_hill_41 rfl hl (by decide) rfl (fun ls hl => ?_)
  have hLp_42 : ∀ (n : Nat) (T_42 : xS) (x1_42 : Int32), s_X11_hill_L42 n T_42 x1_42 → (∀ q : xS, q = f_X11_hill_L42 n T_42 x1_42 → (∀ (H : Heap) (locs : List Loc), va_P X.1 vwCl (xW X q) H → va_S (xA X) s.heap H locs → ∀ (ls : Array Slot), lv_has ls 2 [(0, .ref (X.2.1 127))] → W p l e ({ frames := 6, cells := 0, slots := 0, locals := 135 } : Room) s m ([.ref (X.2.1 127)] : List Value).toArray below meth c H locs 0 0 (MQ below (va_Qi (fun (r : Int32) (u : xS) => r = (f_X11_hill S).1 ∧ u = (f_X11_hill S).2) (xI X) (xA X)) ([.ref (X.2.1 127)] : List Value).toArray s 0 0 (xA X)) (F0 m 68 ls []))) → ∀ (H : Heap) (locs : List Loc), va_P X.1 vwCl (xW X T_42) H → va_S (xA X) s.heap H locs → ∀ (ls : Array Slot), lv_has ls 2 [(0, .ref (X.2.1 127)), (1, .int x1_42)] → W p l e ({ frames := 6, cells := 0, slots := 0, locals := 135 } : Room) s m ([.ref (X.2.1 127)] : List Value).toArray below meth c H locs 0 0 (MQ below (va_Qi (fun (r : Int32) (u : xS) => r = (f_X11_hill S).1 ∧ u = (f_X11_hill S).2) (xI X) (xA X)) ([.ref (X.2.1 127)] : List Value).toArray s 0 0 (xA X)) (F0 m 42 ls []) := by
    intro n
    induction n with
    | zero => intro T_42 x1_42 hs; exact hs.elim
    | succ n ih_42 =>
      intro T_42 x1_42 hs_42 hex_42 H locs hP hS ls hl
      refine lv_iload_n hx hb dX11_hill_42 rfl (lv_at hl 1 rfl) ?_
      refine lv_bipush (v := 6) hx hb dX11_hill_43 (by decide) ?_
      refine lv_icmp_ge (tgt := 68) hx hb dX11_hill_45 (by decide) (fun c_9 => ?_) (fun c_9 => ?_)
      · have he_10 : f_X11_hill_L42 (n + 1) T_42 x1_42 = T_42 := ((ip c_9 rfl))
        exact hex_42 _ he_10.symm _ _ hP hS ls (lv_sub hl [0] rfl)
      · refine lv_aload_n hx hb dX11_hill_48 rfl (lv_at hl 0 rfl) ?_
        refine xget (ref := "AbsentPraiseModel") (T := TX11) (v := .ref (X.2.1 139)) hC hP hin_X11 xo_X11 rfl 28 (by decide) (List.mem_of_getElem? (i := 9) rfl) rfl rfl dX11_hill_49 ?_
        refine lv_iload_n hx hb dX11_hill_52 rfl (lv_at hl 1 rfl) ?_
        refine lv_iconst (v := 0) hx hb dX11_hill_53 (by decide) ?_
        have hn_11 : vp_in x1_42 6 := (nl (sn hs_42 c_9))
        refine xiast hC hP hS rfl hn_11 dX11_hill_54 (fun S_12 hS_12 H locs hP hS => ?_)
        refine lv_aload_n hx hb dX11_hill_55 rfl (lv_at hl 0 rfl) ?_
        refine xget (ref := "AbsentPraiseModel") (T := TX11) (v := .ref (X.2.1 140)) hC hP hin_X11 xo_X11 rfl 29 (by decide) (List.mem_of_getElem? (i := 10) rfl) rfl rfl dX11_hill_56 ?_
        refine lv_iload_n hx hb dX11_hill_59 rfl (lv_at hl 1 rfl) ?_
        refine lv_iconst (v := 0) hx hb dX11_hill_60 (by decide) ?_
        refine xiast hC hP hS rfl hn_11 dX11_hill_61 (fun S_13 hS_13 H locs hP hS => ?_)
        refine lv_iinc (v := (x1_42 + 1)) (lv' := [(1, .int (x1_42 + 1)), (0, .ref (X.2.1 127))]) hx hb dX11_hill_62 hl (k := 1) rfl rfl (by decide) rfl (fun ls hl => ?_)
        refine lv_goto (tgt := 42) hx hb dX11_hill_65 (by decide) ?_
        have he_14 : f_X11_hill_L42 (n + 1) T_42 x1_42 = f_X11_hill_L42 n S_13 (x1_42 + 1) := (by have hS_12 := hS_12.symm; have hS_13 := hS_13.symm; subst hS_12 hS_13; exact (iN c_9 rfl))
        exact ih_42 S_13 (x1_42 + 1) (by have hS_12 := hS_12.symm; have hS_13 := hS_13.symm; subst hS_12 hS_13; exact (nr (sn hs_42 c_9))) (fun q hq => hex_42 q (hq.trans he_14.symm)) _ _ hP hS ls (lv_sub hl [1, 0] rfl)
  refine hLp_42 ((fu 0 6)) S_8 0 (by have hS_1 := hS_1.symm; have hS_2 := hS_2.symm; have hS_3 := hS_3.symm; have hS_4 := hS_4.symm; have hS_5 := hS_5.symm; have hS_6 := hS_6.symm; have hS_7 := hS_7.symm; have hS_8 := hS_8.symm; subst hS_1 hS_2 hS_3 hS_4 hS_5 hS_6 hS_7 hS_8; exact nl hs) (fun q_42 hq_42 H locs hP hS ls hl => ?_) _ _ hP hS ls (lv_sub hl [1, 0] rfl)
  refine lv_iconst (v := 0) hx hb dX11_hill_68 (by decide) ?_
  refine lv_istore_n (lv' := [(1, .int 0), (0, .ref (X.2.1 127))]) hx hb dX11_hill_69 rfl hl (by decide) rfl (fun ls hl => ?_)
  have hLp_70 : ∀ (n : Nat) (T_70 : xS) (x1_70 : Int32), s_X11_hill_L70 n T_70 x1_70 → (∀ q : xS, q = f_X11_hill_L70 n T_70 x1_70 → (∀ (H : Heap) (locs : List Loc), va_P X.1 vwCl (xW X q) H → va_S (xA X) s.heap H locs → ∀ (ls : Array Slot), lv_has ls 2 [(0, .ref (X.2.1 127))] → W p l e ({ frames := 6, cells := 0, slots := 0, locals := 135 } : Room) s m ([.ref (X.2.1 127)] : List Value).toArray below meth c H locs 0 0 (MQ below (va_Qi (fun (r : Int32) (u : xS) => r = (f_X11_hill S).1 ∧ u = (f_X11_hill S).2) (xI X) (xA X)) ([.ref (X.2.1 127)] : List Value).toArray s 0 0 (xA X)) (F0 m 89 ls []))) → ∀ (H : Heap) (locs : List Loc), va_P X.1 vwCl (xW X T_70) H → va_S (xA X) s.heap H locs → ∀ (ls : Array Slot), lv_has ls 2 [(0, .ref (X.2.1 127)), (1, .int x1_70)] → W p l e ({ frames := 6, cells := 0, slots := 0, locals := 135 } : Room) s m ([.ref (X.2.1 127)] : List Value).toArray below meth c H locs 0 0 (MQ below (va_Qi (fun (r : Int32) (u : xS) => r = (f_X11_hill S).1 ∧ u = (f_X11_hill S).2) (xI X) (xA X)) ([.ref (X.2.1 127)] : List Value).toArray s 0 0 (xA X)) (F0 m 70 ls []) := by
    intro n
    induction n with
    | zero => intro T_70 x1_70 hs; exact hs.elim
    | succ n ih_70 =>
      intro T_70 x1_70 hs_70 hex_70 H locs hP hS ls hl
      refine lv_iload_n hx hb dX11_hill_70 rfl (lv_at hl 1 rfl) ?_
      refine lv_bipush (v := 49) hx hb dX11_hill_71 (by decide) ?_
      refine lv_icmp_ge (tgt := 89) hx hb dX11_hill_73 (by decide) (fun c_15 => ?_) (fun c_15 => ?_)
      · have he_16 : f_X11_hill_L70 (n + 1) T_70 x1_70 = T_70 := ((ip c_15 rfl))
        exact hex_70 _ he_16.symm _ _ hP hS ls (lv_sub hl [0] rfl)
      · refine lv_aload_n hx hb dX11_hill_76 rfl (lv_at hl 0 rfl) ?_
        refine xget (ref := "AbsentPraiseModel") (T := TX11) (v := .ref (X.2.1 143)) hC hP hin_X11 xo_X11 rfl 34 (by decide) (List.mem_of_getElem? (i := 11) rfl) rfl rfl dX11_hill_77 ?_
        refine lv_iload_n hx hb dX11_hill_80 rfl (lv_at hl 1 rfl) ?_
        refine lv_iconst (v := 5) hx hb dX11_hill_81 (by decide) ?_
        have hn_17 : vp_in x1_70 49 := (nl (sn hs_70 c_15))
        refine xiast hC hP hS rfl hn_17 dX11_hill_82 (fun S_18 hS_18 H locs hP hS => ?_)
        refine lv_iinc (v := (x1_70 + 1)) (lv' := [(1, .int (x1_70 + 1)), (0, .ref (X.2.1 127))]) hx hb dX11_hill_83 hl (k := 1) rfl rfl (by decide) rfl (fun ls hl => ?_)
        refine lv_goto (tgt := 70) hx hb dX11_hill_86 (by decide) ?_
        have he_19 : f_X11_hill_L70 (n + 1) T_70 x1_70 = f_X11_hill_L70 n S_18 (x1_70 + 1) := (by have hS_18 := hS_18.symm; subst hS_18; exact (iN c_15 rfl))
        exact ih_70 S_18 (x1_70 + 1) (by have hS_18 := hS_18.symm; subst hS_18; exact (nr (sn hs_70 c_15))) (fun q hq => hex_70 q (hq.trans he_19.symm)) _ _ hP hS ls (lv_sub hl [1, 0] rfl)
  refine hLp_70 ((fu 0 49)) q_42 0 (by have hS_1 := hS_1.symm; have hS_2 := hS_2.symm; have hS_3 := hS_3.symm; have hS_4 := hS_4.symm; have hS_5 := hS_5.symm; have hS_6 := hS_6.symm; have hS_7 := hS_7.symm; have hS_8 := hS_8.symm; have hq_42 := hq_42.symm; subst hS_1 hS_2 hS_3 hS_4 hS_5 hS_6 hS_7 hS_8 hq_42; exact nl (nr hs)) (fun q_70 hq_70 H locs hP hS ls hl => ?_) _ _ hP hS ls (lv_sub hl [1, 0] rfl)
  refine lv_iconst (v := 0) hx hb dX11_hill_89 (by decide) ?_
  refine lv_istore_n (lv' := [(1, .int 0), (0, .ref (X.2.1 127))]) hx hb dX11_hill_90 rfl hl (by decide) rfl (fun ls hl => ?_)
  have hLp_91 : ∀ (n : Nat) (T_91 : xS) (x1_91 : Int32), s_X11_hill_L91 n T_91 x1_91 → (∀ q : Int32 × xS, q = f_X11_hill_L91 n T_91 x1_91 → (∀ (H : Heap) (locs : List Loc), va_P X.1 vwCl (xW X q.2) H → va_S (xA X) s.heap H locs → ∀ (ls : Array Slot), lv_has ls 2 [(0, .ref (X.2.1 127)), (1, .int q.1)] → W p l e ({ frames := 6, cells := 0, slots := 0, locals := 135 } : Room) s m ([.ref (X.2.1 127)] : List Value).toArray below meth c H locs 0 0 (MQ below (va_Qi (fun (r : Int32) (u : xS) => r = (f_X11_hill S).1 ∧ u = (f_X11_hill S).2) (xI X) (xA X)) ([.ref (X.2.1 127)] : List Value).toArray s 0 0 (xA X)) (F0 m 110 ls []))) → ∀ (H : Heap) (locs : List Loc), va_P X.1 vwCl (xW X T_91) H → va_S (xA X) s.heap H locs → ∀ (ls : Array Slot), lv_has ls 2 [(0, .ref (X.2.1 127)), (1, .int x1_91)] → W p l e ({ frames := 6, cells := 0, slots := 0, locals := 135 } : Room) s m ([.ref (X.2.1 127)] : List Value).toArray below meth c H locs 0 0 (MQ below (va_Qi (fun (r : Int32) (u : xS) => r = (f_X11_hill S).1 ∧ u = (f_X11_hill S).2) (xI X) (xA X)) ([.ref (X.2.1 127)] : List Value).toArray s 0 0 (xA X)) (F0 m 91 ls []) := by
    intro n
    induction n with
    | zero => intro T_91 x1_91 hs; exact hs.elim
    | succ n ih_91 =>
      intro T_91 x1_91 hs_91 hex_91 H locs hP hS ls hl
      refine lv_iload_n hx hb dX11_hill_91 rfl (lv_at hl 1 rfl) ?_
      refine lv_if_ne (tgt := 110) hx hb dX11_hill_92 (by decide) (fun c_20 => ?_) (fun c_20 => ?_)
      · have he_21 : f_X11_hill_L91 (n + 1) T_91 x1_91 = (x1_91, T_91) := ((iN c_20 rfl))
        exact hex_91 _ he_21.symm _ _ hP hS ls (lv_sub hl [0, 1] rfl)
      · refine lv_aload_n hx hb dX11_hill_95 rfl (lv_at hl 0 rfl) ?_
        have hn_22 : s_X11_here T_91 := (nl (sp hs_91 c_20))
        refine xcV_iW (b := 127) (As := []) (rest := []) hC hP hS (k_X11_here l X T_91 hn_22) (cwV 0 hts gX11_hill_X11_here rfl rfl rfl hd_X11_here ⟨Nat.le_of_ble_eq_true rfl, Nat.le_of_ble_eq_true rfl⟩) xo_X11 rfl rfl rfl hl.1 (Nat.le_of_ble_eq_true rfl) dX11_hill_96 (fun r_23 S_24 hp_r_23 H locs hP hS => ?_)
        obtain ⟨hr_23, hS_24⟩ := hp_r_23
        refine lv_if_lt (tgt := 110) hx hb dX11_hill_99 (by decide) (fun c_26 => ?_) (fun c_26 => ?_)
        · have he_27 : f_X11_hill_L91 (n + 1) T_91 x1_91 = (x1_91, S_24) := (by have hr_23 := hr_23.symm; have hS_24 := hS_24.symm; subst hr_23 hS_24; exact (ip c_20 (ip c_26 rfl)))
          exact hex_91 _ he_27.symm _ _ hP hS ls (lv_sub hl [0, 1] rfl)
        · refine lv_aload_n hx hb dX11_hill_102 rfl (lv_at hl 0 rfl) ?_
          have hn_28 : s_X11_takeClause S_24 := (by have hr_23 := hr_23.symm; have hS_24 := hS_24.symm; subst hr_23 hS_24; exact nl (sn (nr (sp hs_91 c_20)) c_26))
          refine xcV_iW (b := 127) (As := []) (rest := []) hC hP hS (k_X11_takeClause l X S_24 hn_28) (cwV 0 hts gX11_hill_X11_takeClause rfl rfl rfl hd_X11_takeClause ⟨Nat.le_of_ble_eq_true rfl, Nat.le_of_ble_eq_true rfl⟩) xo_X11 rfl rfl rfl hl.1 (Nat.le_of_ble_eq_true rfl) dX11_hill_103 (fun r_29 S_30 hp_r_29 H locs hP hS => ?_)
          obtain ⟨hr_29, hS_30⟩ := hp_r_29
          refine lv_istore_n (lv' := [(1, .int r_29), (0, .ref (X.2.1 127))]) hx hb dX11_hill_106 rfl hl (by decide) rfl (fun ls hl => ?_)
          refine lv_goto (tgt := 91) hx hb dX11_hill_107 (by decide) ?_
          have he_32 : f_X11_hill_L91 (n + 1) T_91 x1_91 = f_X11_hill_L91 n S_30 r_29 := (by have hr_23 := hr_23.symm; have hS_24 := hS_24.symm; have hr_29 := hr_29.symm; have hS_30 := hS_30.symm; subst hr_23 hS_24 hr_29 hS_30; exact (ip c_20 (iN c_26 rfl)))
          exact ih_91 S_30 r_29 (by have hr_23 := hr_23.symm; have hS_24 := hS_24.symm; have hr_29 := hr_29.symm; have hS_30 := hS_30.symm; subst hr_23 hS_24 hr_29 hS_30; exact (nr (sn (nr (sp hs_91 c_20)) c_26))) (fun q hq => hex_91 q (hq.trans he_32.symm)) _ _ hP hS ls (lv_sub hl [1, 0] rfl)
  refine hLp_91 ((fuel_X11_hill_91)) q_70 0 (by have hS_1 := hS_1.symm; have hS_2 := hS_2.symm; have hS_3 := hS_3.symm; have hS_4 := hS_4.symm; have hS_5 := hS_5.symm; have hS_6 := hS_6.symm; have hS_7 := hS_7.symm; have hS_8 := hS_8.symm; have hq_42 := hq_42.symm; have hq_70 := hq_70.symm; subst hS_1 hS_2 hS_3 hS_4 hS_5 hS_6 hS_7 hS_8 hq_42 hq_70; exact nl (nr (nr hs))) (fun q_91 hq_91 H locs hP hS ls hl => ?_) _ _ hP hS ls (lv_sub hl [1, 0] rfl)
  refine lv_aload_n hx hb dX11_hill_110 rfl (lv_at hl 0 rfl) ?_
  refine lv_iconst (v := 0) hx hb dX11_hill_111 (by decide) ?_
  refine xput (ref := "AbsentPraiseModel") (T := TX11) (ty := .int) hC hP hS (by decide) hin_X11 tyX11 tyX11_ok nmX11 xo_X11 rfl 19 (by decide) (List.mem_of_getElem? (i := 12) rfl) rfl rfl rfl rfl rfl (Nat.le_of_ble_eq_true rfl) dX11_hill_112 rfl (fun S_33 hS_33 H locs hP hS => ?_)
  refine lv_iload_n hx hb dX11_hill_115 rfl (lv_at hl 1 rfl) ?_
  refine lv_if_le (tgt := 124) hx hb dX11_hill_116 (by decide) (fun c_34 => ?_) (fun c_34 => ?_)
  · refine lv_aload_n hx hb dX11_hill_124 rfl (lv_at hl 0 rfl) ?_
    have hn_35 : s_X11_takeRead S_33 := (by have hS_1 := hS_1.symm; have hS_2 := hS_2.symm; have hS_3 := hS_3.symm; have hS_4 := hS_4.symm; have hS_5 := hS_5.symm; have hS_6 := hS_6.symm; have hS_7 := hS_7.symm; have hS_8 := hS_8.symm; have hq_42 := hq_42.symm; have hq_70 := hq_70.symm; have hq_91 := hq_91.symm; have hS_33 := hS_33.symm; subst hS_1 hS_2 hS_3 hS_4 hS_5 hS_6 hS_7 hS_8 hq_42 hq_70 hq_91 hS_33; exact nl (sp (nr (nr (nr hs))) c_34))
    refine xcV_vW (b := 127) (As := []) (rest := []) hC hP hS (k_X11_takeRead l X S_33 hn_35) (cwV 0 hts gX11_hill_X11_takeRead rfl rfl rfl hd_X11_takeRead ⟨Nat.le_of_ble_eq_true rfl, Nat.le_of_ble_eq_true rfl⟩) xo_X11 rfl rfl rfl hl.1 (Nat.le_of_ble_eq_true rfl) dX11_hill_125 (fun S_36 hS_36 H locs hP hS => ?_)
    refine lv_aload_n hx hb dX11_hill_128 rfl (lv_at hl 0 rfl) ?_
    refine lv_iconst (v := 0) hx hb dX11_hill_129 (by decide) ?_
    refine xput (ref := "AbsentPraiseModel") (T := TX11) (ty := .int) hC hP hS (by decide) hin_X11 tyX11 tyX11_ok nmX11 xo_X11 rfl 11 (by decide) (List.mem_of_getElem? (i := 13) rfl) rfl rfl rfl rfl rfl (Nat.le_of_ble_eq_true rfl) dX11_hill_130 rfl (fun S_37 hS_37 H locs hP hS => ?_)
    refine lv_aload_n hx hb dX11_hill_133 rfl (lv_at hl 0 rfl) ?_
    refine lv_iconst (v := 0) hx hb dX11_hill_134 (by decide) ?_
    refine xput (ref := "AbsentPraiseModel") (T := TX11) (ty := .int) hC hP hS (by decide) hin_X11 tyX11 tyX11_ok nmX11 xo_X11 rfl 15 (by decide) (List.mem_of_getElem? (i := 14) rfl) rfl rfl rfl rfl rfl (Nat.le_of_ble_eq_true rfl) dX11_hill_135 rfl (fun S_38 hS_38 H locs hP hS => ?_)
    refine lv_aload_n hx hb dX11_hill_138 rfl (lv_at hl 0 rfl) ?_
    refine lv_iconst (v := 0) hx hb dX11_hill_139 (by decide) ?_
    refine xput (ref := "AbsentPraiseModel") (T := TX11) (ty := .int) hC hP hS (by decide) hin_X11 tyX11 tyX11_ok nmX11 xo_X11 rfl 36 (by decide) (List.mem_of_getElem? (i := 15) rfl) rfl rfl rfl rfl rfl (Nat.le_of_ble_eq_true rfl) dX11_hill_140 rfl (fun S_39 hS_39 H locs hP hS => ?_)
    refine lv_aload_n hx hb dX11_hill_143 rfl (lv_at hl 0 rfl) ?_
    refine xget (ref := "AbsentPraiseModel") (T := TX11) (v := .ref (X.2.1 147)) hC hP hin_X11 xo_X11 rfl 40 (by decide) (List.mem_of_getElem? (i := 16) rfl) rfl rfl dX11_hill_144 ?_
    refine lv_iconst (v := 0) hx hb dX11_hill_147 (by decide) ?_
    refine lv_iconst (v := 0) hx hb dX11_hill_148 (by decide) ?_
    refine xzast hC hP hS (vp_lit (by decide)) rfl dX11_hill_149 (fun S_40 hS_40 H locs hP hS => ?_)
    refine lv_aload_n hx hb dX11_hill_150 rfl (lv_at hl 0 rfl) ?_
    refine xget (ref := "AbsentPraiseModel") (T := TX11) (v := .ref (X.2.1 147)) hC hP hin_X11 xo_X11 rfl 40 (by decide) (List.mem_of_getElem? (i := 16) rfl) rfl rfl dX11_hill_151 ?_
    refine lv_iconst (v := 1) hx hb dX11_hill_154 (by decide) ?_
    refine lv_iconst (v := 0) hx hb dX11_hill_155 (by decide) ?_
    refine xzast hC hP hS (vp_lit (by decide)) rfl dX11_hill_156 (fun S_41 hS_41 H locs hP hS => ?_)
    refine lv_aload_n hx hb dX11_hill_157 rfl (lv_at hl 0 rfl) ?_
    refine xget (ref := "AbsentPraiseModel") (T := TX11) (v := .int (S_41 127 6)) hC hP hin_X11 xo_X11 rfl 6 (by decide) (List.mem_of_getElem? (i := 17) rfl) rfl rfl dX11_hill_158 ?_
    exact xret_iW hC hP hS hb hr (by simp only [f_X11_hill, ← hS_1, ← hS_2, ← hS_3, ← hS_4, ← hS_5, ← hS_6, ← hS_7, ← hS_8, ← hq_42, ← hq_70, ← hq_91, ← hS_33, ← hS_36, ← hS_37, ← hS_38, ← hS_39, ← hS_40, ← hS_41, if_pos c_34]) dX11_hill_161 hlocks
  · refine lv_bipush (v := (-10)) hx hb dX11_hill_119 (by decide) ?_
    refine lv_iload_n hx hb dX11_hill_121 rfl (lv_at hl 1 rfl) ?_
    refine lv_isub hx hb dX11_hill_122 ?_
    exact xret_iW hC hP hS hb hr (by simp only [f_X11_hill, ← hS_1, ← hS_2, ← hS_3, ← hS_4, ← hS_5, ← hS_6, ← hS_7, ← hS_8, ← hq_42, ← hq_70, ← hq_91, ← hS_33, if_neg c_34]) dX11_hill_123 hlocks
theorem hd_X11_fault : yX11_fault.cls = RX11 ∧ yX11_fault.cls ≠ "java/lang/invoke/MethodHandle" ∧ yX11_fault.cls ≠ "java/lang/invoke/VarHandle" ∧ (parseMethodDescriptor yX11_fault.desc).map (fun d => d.parameters.length) = some 0 := by decide +kernel
set_option maxHeartbeats 4000000 in
set_option maxRecDepth 100000 in
theorem k_X11_fault (l : Launch) (X : xX) (S : xS) : Met l yX11_fault wsX11_fault ({ frames := 0, cells := 0, slots := 0, locals := 0 } : Room) (va_Pc [.ref (X.2.1 127)] (xI X S)) (va_Qi (fun (r : Int32) (u : xS) => r = (f_X11_fault S) ∧ u = S) (xI X) (xA X)) 0 0 (xA X) := by
  refine Met.ofW (cc := cX11_fault) (maxL := 1) (ret := (some .int)) (by decide +kernel) rfl ?_
  intro p e s m args below meth c s₁ B hml hv
  obtain ⟨rfl, hP, hK, hN, hJ⟩ := hv
  have hx := B.exec
  have hb := B.bytes
  have hr := B.returns
  have hts := atoms_spec (ws := wsX11_fault) B.pre
  have hown : s.vm.findClass RX11 = some m.cls := findClass_of_methodNamed B.named
  have hlocks := B.notSynchronized
  have hC : xC X p m c cX11_fault 1 s _ wsX11_fault RX11 := ⟨⟨hx, hb, hml, hown, hts⟩, hK, hN, hJ⟩
  have hS : va_S (xA X) s.heap s.heap [] := va_S.rf
  have hin_X11 : ∀ w ∈ u_ws RX11 TX11 41, w ∈ wsX11_fault := by decide +kernel
  have hl := lv_entry ([.ref (X.2.1 127)]) (n := 1) (Nat.le_of_ble_eq_true rfl)
  rw [lg_entry_eq]
  generalize (lg_sl ([.ref (X.2.1 127)]) ++ List.replicate (1 - (lg_sl ([.ref (X.2.1 127)])).length) Slot.unset).toArray = ls at hl ⊢
  have hl : lv_has ls 1 [(0, .ref (X.2.1 127))] := hl
  refine lv_aload_n hx hb dX11_fault_0 rfl (lv_at hl 0 rfl) ?_
  refine xget (ref := "AbsentPraiseModel") (T := TX11) (v := .int (S 127 20)) hC hP hin_X11 xo_X11 rfl 20 (by decide) (List.mem_of_getElem? (i := 1) rfl) rfl rfl dX11_fault_1 ?_
  exact xret_iR hC hP hS hb hr ((rfl)) dX11_fault_4 hlocks
