set_option linter.all false
/-! contracts: X11_route -/
theorem hd_X11_route : yX11_route.cls = RX11 ∧ yX11_route.cls ≠ "java/lang/invoke/MethodHandle" ∧ yX11_route.cls ≠ "java/lang/invoke/VarHandle" ∧ (parseMethodDescriptor yX11_route.desc).map (fun d => d.parameters.length) = some 3 := by decide +kernel
set_option maxHeartbeats 4000000 in
set_option maxRecDepth 100000 in
theorem k_X11_route (l : Launch) (X : xX) (S : xS) (p0 : Int32) (p1 : Int32) (p2 : Int32) (hs : s_X11_route S p0 p1 p2) : Met l yX11_route wsX11_route ({ frames := 4, cells := 0, slots := 0, locals := 94 } : Room) (va_Pc [.ref (X.2.1 127), .int p0, .int p1, .int p2] (xI X S)) (va_Qi (fun (r : Int32) (u : xS) => r = (f_X11_route S p0 p1 p2).1 ∧ u = (f_X11_route S p0 p1 p2).2) (xI X) (xA X)) 0 0 (xA X) := by
  refine Met.ofW (cc := cX11_route) (maxL := 12) (ret := (some .int)) (by decide +kernel) rfl ?_
  intro p e s m args below meth c s₁ B hml hv
  obtain ⟨rfl, hP, hK, hN, hJ⟩ := hv
  have hx := B.exec
  have hb := B.bytes
  have hr := B.returns
  have hts := atoms_spec (ws := wsX11_route) B.pre
  have hown : s.vm.findClass RX11 = some m.cls := findClass_of_methodNamed B.named
  have hlocks := B.notSynchronized
  have hC : xC X p m c cX11_route 12 s _ wsX11_route RX11 := ⟨⟨hx, hb, hml, hown, hts⟩, hK, hN, hJ⟩
  have hS : va_S (xA X) s.heap s.heap [] := va_S.rf
  have hin_X11 : ∀ w ∈ u_ws RX11 TX11 41, w ∈ wsX11_route := by decide +kernel
  have hl := lv_entry ([.ref (X.2.1 127), .int p0, .int p1, .int p2]) (n := 12) (Nat.le_of_ble_eq_true rfl)
  rw [lg_entry_eq]
  generalize (lg_sl ([.ref (X.2.1 127), .int p0, .int p1, .int p2]) ++ List.replicate (12 - (lg_sl ([.ref (X.2.1 127), .int p0, .int p1, .int p2])).length) Slot.unset).toArray = ls at hl ⊢
  have hl : lv_has ls 12 [(0, .ref (X.2.1 127)), (1, .int p0), (2, .int p1), (3, .int p2)] := hl
  refine lv_aload_n hx hb dX11_route_0 rfl (lv_at hl 0 rfl) ?_
  refine lv_iload_n hx hb dX11_route_1 rfl (lv_at hl 1 rfl) ?_
  refine xcV_iR (b := 127) (As := [.int p0]) (rest := []) hC hP hS (k_X11_isPerson l X S p0) (cwV 1 hts gX11_route_X11_isPerson rfl rfl rfl hd_X11_isPerson ⟨Nat.le_of_ble_eq_true rfl, Nat.le_of_ble_eq_true rfl⟩) xo_X11 rfl rfl rfl hl.1 (Nat.le_of_ble_eq_true rfl) dX11_route_2 (fun r_1 hp_r_1 H locs hP hS => ?_)
  obtain ⟨hr_1, hzr_1⟩ := hp_r_1
  refine lv_if_ne (tgt := 11) hx hb dX11_route_5 (by decide) (fun c_2 => ?_) (fun c_2 => ?_)
  · refine lv_iload_n hx hb dX11_route_11 rfl (lv_at hl 2 rfl) ?_
    refine lv_i2l (v := (p1 : Int32).toInt64) hx hb dX11_route_12 rfl ?_
    refine lv_lconst (v := 1) hx hb dX11_route_13 (by decide) ?_
    refine lv_ldc2 (v := 8) hx hb hown (hts (.constantLong RX11 275 (8)) (List.mem_of_getElem? (i := 2) rfl)) dX11_route_14 ?_
    refine xcS_iR (As := [.long (p1 : Int32).toInt64, .long 1, .long 8]) (rest := []) hC hP hS (k_X11_in l X S (p1 : Int32).toInt64 1 8) (va_cwS 3 hts gX11_route_X11_in rfl rfl rfl hs_X11_in ⟨Nat.le_of_ble_eq_true rfl, Nat.le_of_ble_eq_true rfl⟩) rfl rfl hl.1 (Nat.le_of_ble_eq_true rfl) dX11_route_17 (fun r_3 hp_r_3 H locs hP hS => ?_)
    obtain ⟨hr_3, hzr_3⟩ := hp_r_3
    refine lv_if_eq (tgt := 33) hx hb dX11_route_20 (by decide) (fun c_4 => ?_) (fun c_4 => ?_)
    · refine lv_ldc (v := (-1000000002)) hx hb hown (hts (.constant RX11 91 (-1000000002)) (List.mem_of_getElem? (i := 3) rfl)) dX11_route_33 ?_
      exact xret_iW hC hP hS hb hr (by simp only [f_X11_route, ← hr_1, ← hr_3, if_neg c_2, if_pos c_4]) dX11_route_35 hlocks
    · refine lv_iload_n hx hb dX11_route_23 rfl (lv_at hl 3 rfl) ?_
      refine lv_i2l (v := (p2 : Int32).toInt64) hx hb dX11_route_24 rfl ?_
      refine lv_lconst (v := 0) hx hb dX11_route_25 (by decide) ?_
      refine lv_lconst (v := 1) hx hb dX11_route_26 (by decide) ?_
      refine xcS_iR (As := [.long (p2 : Int32).toInt64, .long 0, .long 1]) (rest := []) hC hP hS (k_X11_in l X S (p2 : Int32).toInt64 0 1) (va_cwS 3 hts gX11_route_X11_in rfl rfl rfl hs_X11_in ⟨Nat.le_of_ble_eq_true rfl, Nat.le_of_ble_eq_true rfl⟩) rfl rfl hl.1 (Nat.le_of_ble_eq_true rfl) dX11_route_27 (fun r_5 hp_r_5 H locs hP hS => ?_)
      obtain ⟨hr_5, hzr_5⟩ := hp_r_5
      refine lv_if_ne (tgt := 36) hx hb dX11_route_30 (by decide) (fun c_6 => ?_) (fun c_6 => ?_)
      · refine lv_aload_n hx hb dX11_route_36 rfl (lv_at hl 0 rfl) ?_
        have hn_7 : s_X11_tries S := (by have hr_1 := hr_1.symm; have hr_3 := hr_3.symm; have hr_5 := hr_5.symm; subst hr_1 hr_3 hr_5; exact nl (sn (sn (sn hs c_2) c_4) c_6))
        refine xcV_vW (b := 127) (As := []) (rest := []) hC hP hS (k_X11_tries l X S hn_7) (cwV 0 hts gX11_route_X11_tries rfl rfl rfl hd_X11_tries ⟨Nat.le_of_ble_eq_true rfl, Nat.le_of_ble_eq_true rfl⟩) xo_X11 rfl rfl rfl hl.1 (Nat.le_of_ble_eq_true rfl) dX11_route_37 (fun S_8 hS_8 H locs hP hS => ?_)
        refine lv_iconst (v := 0) hx hb dX11_route_40 (by decide) ?_
        refine lv_istore (lv' := [(4, .int 0), (0, .ref (X.2.1 127)), (1, .int p0), (2, .int p1), (3, .int p2)]) hx hb dX11_route_41 hl (by decide) rfl (fun ls hl => ?_)
        have hLp_43 : ∀ (n : Nat) (T_43 : xS) (x1_43 : Int32) (x2_43 : Int32) (x3_43 : Int32) (x4_43 : Int32), s_X11_route_L43 n T_43 x1_43 x2_43 x3_43 x4_43 → (∀ q : xS, q = f_X11_route_L43 n T_43 x1_43 x2_43 x3_43 x4_43 → (∀ (H : Heap) (locs : List Loc), va_P X.1 vwCl (xW X q) H → va_S (xA X) s.heap H locs → ∀ (ls : Array Slot), lv_has ls 12 [(0, .ref (X.2.1 127)), (1, .int x1_43), (2, .int x2_43), (3, .int x3_43)] → W p l e ({ frames := 4, cells := 0, slots := 0, locals := 94 } : Room) s m ([.ref (X.2.1 127), .int p0, .int p1, .int p2] : List Value).toArray below meth c H locs 0 0 (MQ below (va_Qi (fun (r : Int32) (u : xS) => r = (f_X11_route S p0 p1 p2).1 ∧ u = (f_X11_route S p0 p1 p2).2) (xI X) (xA X)) ([.ref (X.2.1 127), .int p0, .int p1, .int p2] : List Value).toArray s 0 0 (xA X)) (F0 m 69 ls []))) → ∀ (H : Heap) (locs : List Loc), va_P X.1 vwCl (xW X T_43) H → va_S (xA X) s.heap H locs → ∀ (ls : Array Slot), lv_has ls 12 [(0, .ref (X.2.1 127)), (1, .int x1_43), (2, .int x2_43), (3, .int x3_43), (4, .int x4_43)] → W p l e ({ frames := 4, cells := 0, slots := 0, locals := 94 } : Room) s m ([.ref (X.2.1 127), .int p0, .int p1, .int p2] : List Value).toArray below meth c H locs 0 0 (MQ below (va_Qi (fun (r : Int32) (u : xS) => r = (f_X11_route S p0 p1 p2).1 ∧ u = (f_X11_route S p0 p1 p2).2) (xI X) (xA X)) ([.ref (X.2.1 127), .int p0, .int p1, .int p2] : List Value).toArray s 0 0 (xA X)) (F0 m 43 ls []) := by
          intro n
          induction n with
          | zero => intro T_43 x1_43 x2_43 x3_43 x4_43 hs; exact hs.elim
          | succ n ih_43 =>
            intro T_43 x1_43 x2_43 x3_43 x4_43 hs_43 hex_43 H locs hP hS ls hl
            refine lv_iload hx hb dX11_route_43 (lv_at hl 4 rfl) ?_
            refine lv_bipush (v := 6) hx hb dX11_route_45 (by decide) ?_
            refine lv_icmp_ge (tgt := 69) hx hb dX11_route_47 (by decide) (fun c_9 => ?_) (fun c_9 => ?_)
            · have he_10 : f_X11_route_L43 (n + 1) T_43 x1_43 x2_43 x3_43 x4_43 = T_43 := ((ip c_9 rfl))
              exact hex_43 _ he_10.symm _ _ hP hS ls (lv_sub hl [0, 1, 2, 3] rfl)
            · refine lv_aload_n hx hb dX11_route_50 rfl (lv_at hl 0 rfl) ?_
              refine xget (ref := "AbsentPraiseModel") (T := TX11) (v := .ref (X.2.1 145)) hC hP hin_X11 xo_X11 rfl 38 (by decide) (List.mem_of_getElem? (i := 4) rfl) rfl rfl dX11_route_51 ?_
              refine lv_bipush (v := 6) hx hb dX11_route_54 (by decide) ?_
              refine lv_iload_n hx hb dX11_route_56 rfl (lv_at hl 2 rfl) ?_
              refine lv_imul hx hb dX11_route_57 ?_
              refine lv_iload hx hb dX11_route_58 (lv_at hl 4 rfl) ?_
              refine lv_iadd hx hb dX11_route_60 ?_
              refine lv_iconst (v := 0) hx hb dX11_route_61 (by decide) ?_
              have hn_11 : vp_in ((6 * x2_43) + x4_43) 54 := (nl (sn hs_43 c_9))
              refine xiast hC hP hS rfl hn_11 dX11_route_62 (fun S_12 hS_12 H locs hP hS => ?_)
              refine lv_iinc (v := (x4_43 + 1)) (lv' := [(4, .int (x4_43 + 1)), (0, .ref (X.2.1 127)), (1, .int x1_43), (2, .int x2_43), (3, .int x3_43)]) hx hb dX11_route_63 hl (k := 4) rfl rfl (by decide) rfl (fun ls hl => ?_)
              refine lv_goto (tgt := 43) hx hb dX11_route_66 (by decide) ?_
              have he_13 : f_X11_route_L43 (n + 1) T_43 x1_43 x2_43 x3_43 x4_43 = f_X11_route_L43 n S_12 x1_43 x2_43 x3_43 (x4_43 + 1) := (by have hS_12 := hS_12.symm; subst hS_12; exact (iN c_9 rfl))
              exact ih_43 S_12 x1_43 x2_43 x3_43 (x4_43 + 1) (by have hS_12 := hS_12.symm; subst hS_12; exact (nr (sn hs_43 c_9))) (fun q hq => hex_43 q (hq.trans he_13.symm)) _ _ hP hS ls (lv_sub hl [1, 2, 3, 4, 0] rfl)
        refine hLp_43 ((fu 0 6)) S_8 p0 p1 p2 0 (by have hr_1 := hr_1.symm; have hr_3 := hr_3.symm; have hr_5 := hr_5.symm; have hS_8 := hS_8.symm; subst hr_1 hr_3 hr_5 hS_8; exact nl (nr (sn (sn (sn hs c_2) c_4) c_6))) (fun q_43 hq_43 H locs hP hS ls hl => ?_) _ _ hP hS ls (lv_sub hl [1, 2, 3, 4, 0] rfl)
        refine lv_iconst (v := 0) hx hb dX11_route_69 (by decide) ?_
        refine lv_istore (lv' := [(4, .int 0), (0, .ref (X.2.1 127)), (1, .int p0), (2, .int p1), (3, .int p2)]) hx hb dX11_route_70 hl (by decide) rfl (fun ls hl => ?_)
        refine lv_ldc (v := (-1000000)) hx hb hown (hts (.constant RX11 214 (-1000000)) (List.mem_of_getElem? (i := 5) rfl)) dX11_route_72 ?_
        refine lv_istore (lv' := [(5, .int (-1000000)), (4, .int 0), (0, .ref (X.2.1 127)), (1, .int p0), (2, .int p1), (3, .int p2)]) hx hb dX11_route_74 hl (by decide) rfl (fun ls hl => ?_)
        refine lv_iload_n hx hb dX11_route_76 rfl (lv_at hl 4 rfl) ?_
        refine lv_iconst (v := 1) hx hb dX11_route_77 (by decide) ?_
        refine lv_isub hx hb dX11_route_78 ?_
        refine lv_istore (lv' := [(6, .int (p1 - 1)), (5, .int (-1000000)), (4, .int 0), (0, .ref (X.2.1 127)), (1, .int p0), (2, .int p1), (3, .int p2)]) hx hb dX11_route_79 hl (by decide) rfl (fun ls hl => ?_)
        have hLp_81 : ∀ (n : Nat) (T_81 : xS) (x1_81 : Int32) (x3_81 : Int32) (x4_81 : Int32) (x5_81 : Int32) (x6_81 : Int32), s_X11_route_L81 n T_81 x1_81 x3_81 x4_81 x5_81 x6_81 → (∀ q : Int32 × Int32 × xS, q = f_X11_route_L81 n T_81 x1_81 x3_81 x4_81 x5_81 x6_81 → (∀ (H : Heap) (locs : List Loc), va_P X.1 vwCl (xW X q.2.2) H → va_S (xA X) s.heap H locs → ∀ (ls : Array Slot), lv_has ls 12 [(3, .int x3_81), (4, .int q.1), (5, .int q.2.1)] → W p l e ({ frames := 4, cells := 0, slots := 0, locals := 94 } : Room) s m ([.ref (X.2.1 127), .int p0, .int p1, .int p2] : List Value).toArray below meth c H locs 0 0 (MQ below (va_Qi (fun (r : Int32) (u : xS) => r = (f_X11_route S p0 p1 p2).1 ∧ u = (f_X11_route S p0 p1 p2).2) (xI X) (xA X)) ([.ref (X.2.1 127), .int p0, .int p1, .int p2] : List Value).toArray s 0 0 (xA X)) (F0 m 302 ls []))) → ∀ (H : Heap) (locs : List Loc), va_P X.1 vwCl (xW X T_81) H → va_S (xA X) s.heap H locs → ∀ (ls : Array Slot), lv_has ls 12 [(0, .ref (X.2.1 127)), (1, .int x1_81), (3, .int x3_81), (4, .int x4_81), (5, .int x5_81), (6, .int x6_81)] → W p l e ({ frames := 4, cells := 0, slots := 0, locals := 94 } : Room) s m ([.ref (X.2.1 127), .int p0, .int p1, .int p2] : List Value).toArray below meth c H locs 0 0 (MQ below (va_Qi (fun (r : Int32) (u : xS) => r = (f_X11_route S p0 p1 p2).1 ∧ u = (f_X11_route S p0 p1 p2).2) (xI X) (xA X)) ([.ref (X.2.1 127), .int p0, .int p1, .int p2] : List Value).toArray s 0 0 (xA X)) (F0 m 81 ls []) := by
          intro n
          induction n with
          | zero => intro T_81 x1_81 x3_81 x4_81 x5_81 x6_81 hs; exact hs.elim
          | succ n ih_81 =>
            intro T_81 x1_81 x3_81 x4_81 x5_81 x6_81 hs_81 hex_81 H locs hP hS ls hl
            refine lv_iload hx hb dX11_route_81 (lv_at hl 5 rfl) ?_
            refine lv_if_lt (tgt := 302) hx hb dX11_route_83 (by decide) (fun c_14 => ?_) (fun c_14 => ?_)
            · have he_15 : f_X11_route_L81 (n + 1) T_81 x1_81 x3_81 x4_81 x5_81 x6_81 = (x4_81, x5_81, T_81) := ((ip c_14 rfl))
              exact hex_81 _ he_15.symm _ _ hP hS ls (lv_sub hl [2, 3, 4] rfl)
            · refine lv_iconst (v := 0) hx hb dX11_route_86 (by decide) ?_
              refine lv_istore (lv' := [(7, .int 0), (0, .ref (X.2.1 127)), (1, .int x1_81), (3, .int x3_81), (4, .int x4_81), (5, .int x5_81), (6, .int x6_81)]) hx hb dX11_route_87 hl (by decide) rfl (fun ls hl => ?_)
              have hLp_89 : ∀ (n : Nat) (T_89 : xS) (x1_89 : Int32) (x3_89 : Int32) (x4_89 : Int32) (x5_89 : Int32) (x6_89 : Int32) (x7_89 : Int32), s_X11_route_L89 n T_89 x1_89 x3_89 x4_89 x5_89 x6_89 x7_89 → (∀ q : Int32 × Int32 × xS, q = f_X11_route_L89 n T_89 x1_89 x3_89 x4_89 x5_89 x6_89 x7_89 → (∀ (H : Heap) (locs : List Loc), va_P X.1 vwCl (xW X q.2.2) H → va_S (xA X) s.heap H locs → ∀ (ls : Array Slot), lv_has ls 12 [(0, .ref (X.2.1 127)), (1, .int x1_89), (3, .int x3_89), (4, .int q.1), (5, .int q.2.1), (6, .int x6_89)] → W p l e ({ frames := 4, cells := 0, slots := 0, locals := 94 } : Room) s m ([.ref (X.2.1 127), .int p0, .int p1, .int p2] : List Value).toArray below meth c H locs 0 0 (MQ below (va_Qi (fun (r : Int32) (u : xS) => r = (f_X11_route S p0 p1 p2).1 ∧ u = (f_X11_route S p0 p1 p2).2) (xI X) (xA X)) ([.ref (X.2.1 127), .int p0, .int p1, .int p2] : List Value).toArray s 0 0 (xA X)) (F0 m 296 ls []))) → ∀ (H : Heap) (locs : List Loc), va_P X.1 vwCl (xW X T_89) H → va_S (xA X) s.heap H locs → ∀ (ls : Array Slot), lv_has ls 12 [(0, .ref (X.2.1 127)), (1, .int x1_89), (3, .int x3_89), (4, .int x4_89), (5, .int x5_89), (6, .int x6_89), (7, .int x7_89)] → W p l e ({ frames := 4, cells := 0, slots := 0, locals := 94 } : Room) s m ([.ref (X.2.1 127), .int p0, .int p1, .int p2] : List Value).toArray below meth c H locs 0 0 (MQ below (va_Qi (fun (r : Int32) (u : xS) => r = (f_X11_route S p0 p1 p2).1 ∧ u = (f_X11_route S p0 p1 p2).2) (xI X) (xA X)) ([.ref (X.2.1 127), .int p0, .int p1, .int p2] : List Value).toArray s 0 0 (xA X)) (F0 m 89 ls []) := by
                intro n
                induction n with
                | zero => intro T_89 x1_89 x3_89 x4_89 x5_89 x6_89 x7_89 hs; exact hs.elim
                | succ n ih_89 =>
                  intro T_89 x1_89 x3_89 x4_89 x5_89 x6_89 x7_89 hs_89 hex_89 H locs hP hS ls hl
                  refine lv_iload hx hb dX11_route_89 (lv_at hl 6 rfl) ?_
                  refine lv_aload_n hx hb dX11_route_91 rfl (lv_at hl 0 rfl) ?_
                  refine xget (ref := "AbsentPraiseModel") (T := TX11) (v := .int (T_89 127 0)) hC hP hin_X11 xo_X11 rfl 0 (by decide) (List.mem_of_getElem? (i := 6) rfl) rfl rfl dX11_route_92 ?_
                  refine lv_icmp_ge (tgt := 296) hx hb dX11_route_95 (by decide) (fun c_16 => ?_) (fun c_16 => ?_)
                  · have he_17 : f_X11_route_L89 (n + 1) T_89 x1_89 x3_89 x4_89 x5_89 x6_89 x7_89 = (x4_89, x5_89, T_89) := ((ip c_16 rfl))
                    exact hex_89 _ he_17.symm _ _ hP hS ls (lv_sub hl [0, 1, 2, 3, 4, 5] rfl)
                  · refine lv_ldc (v := (-1000000)) hx hb hown (hts (.constant RX11 214 (-1000000)) (List.mem_of_getElem? (i := 5) rfl)) dX11_route_98 ?_
                    refine lv_istore (lv' := [(8, .int (-1000000)), (0, .ref (X.2.1 127)), (1, .int x1_89), (3, .int x3_89), (4, .int x4_89), (5, .int x5_89), (6, .int x6_89), (7, .int x7_89)]) hx hb dX11_route_100 hl (by decide) rfl (fun ls hl => ?_)
                    refine lv_iconst (v := 0) hx hb dX11_route_102 (by decide) ?_
                    refine lv_istore (lv' := [(9, .int 0), (8, .int (-1000000)), (0, .ref (X.2.1 127)), (1, .int x1_89), (3, .int x3_89), (4, .int x4_89), (5, .int x5_89), (6, .int x6_89), (7, .int x7_89)]) hx hb dX11_route_103 hl (by decide) rfl (fun ls hl => ?_)
                    refine lv_iconst (v := 0) hx hb dX11_route_105 (by decide) ?_
                    refine lv_istore (lv' := [(10, .int 0), (9, .int 0), (8, .int (-1000000)), (0, .ref (X.2.1 127)), (1, .int x1_89), (3, .int x3_89), (4, .int x4_89), (5, .int x5_89), (6, .int x6_89), (7, .int x7_89)]) hx hb dX11_route_106 hl (by decide) rfl (fun ls hl => ?_)
                    have hLp_108 : ∀ (n : Nat) (T_108 : xS) (x1_108 : Int32) (x3_108 : Int32) (x4_108 : Int32) (x5_108 : Int32) (x6_108 : Int32) (x7_108 : Int32) (x8_108 : Int32) (x9_108 : Int32) (x10_108 : Int32), s_X11_route_L108 n T_108 x1_108 x3_108 x4_108 x5_108 x6_108 x7_108 x8_108 x9_108 x10_108 → (∀ q : Int32 × Int32 × xS, q = f_X11_route_L108 n T_108 x1_108 x3_108 x4_108 x5_108 x6_108 x7_108 x8_108 x9_108 x10_108 → (∀ (H : Heap) (locs : List Loc), va_P X.1 vwCl (xW X q.2.2) H → va_S (xA X) s.heap H locs → ∀ (ls : Array Slot), lv_has ls 12 [(0, .ref (X.2.1 127)), (1, .int x1_108), (3, .int x3_108), (4, .int x4_108), (5, .int x5_108), (6, .int x6_108), (7, .int x7_108), (8, .int q.1), (9, .int q.2.1)] → W p l e ({ frames := 4, cells := 0, slots := 0, locals := 94 } : Room) s m ([.ref (X.2.1 127), .int p0, .int p1, .int p2] : List Value).toArray below meth c H locs 0 0 (MQ below (va_Qi (fun (r : Int32) (u : xS) => r = (f_X11_route S p0 p1 p2).1 ∧ u = (f_X11_route S p0 p1 p2).2) (xI X) (xA X)) ([.ref (X.2.1 127), .int p0, .int p1, .int p2] : List Value).toArray s 0 0 (xA X)) (F0 m 221 ls []))) → ∀ (H : Heap) (locs : List Loc), va_P X.1 vwCl (xW X T_108) H → va_S (xA X) s.heap H locs → ∀ (ls : Array Slot), lv_has ls 12 [(0, .ref (X.2.1 127)), (1, .int x1_108), (3, .int x3_108), (4, .int x4_108), (5, .int x5_108), (6, .int x6_108), (7, .int x7_108), (8, .int x8_108), (9, .int x9_108), (10, .int x10_108)] → W p l e ({ frames := 4, cells := 0, slots := 0, locals := 94 } : Room) s m ([.ref (X.2.1 127), .int p0, .int p1, .int p2] : List Value).toArray below meth c H locs 0 0 (MQ below (va_Qi (fun (r : Int32) (u : xS) => r = (f_X11_route S p0 p1 p2).1 ∧ u = (f_X11_route S p0 p1 p2).2) (xI X) (xA X)) ([.ref (X.2.1 127), .int p0, .int p1, .int p2] : List Value).toArray s 0 0 (xA X)) (F0 m 108 ls []) := by
                      intro n
                      induction n with
                      | zero => intro T_108 x1_108 x3_108 x4_108 x5_108 x6_108 x7_108 x8_108 x9_108 x10_108 hs; exact hs.elim
                      | succ n ih_108 =>
                        intro T_108 x1_108 x3_108 x4_108 x5_108 x6_108 x7_108 x8_108 x9_108 x10_108 hs_108 hex_108 H locs hP hS ls hl
                        refine lv_iload hx hb dX11_route_108 (lv_at hl 9 rfl) ?_
                        refine lv_aload_n hx hb dX11_route_110 rfl (lv_at hl 0 rfl) ?_
                        refine xget (ref := "AbsentPraiseModel") (T := TX11) (v := .int (T_108 127 0)) hC hP hin_X11 xo_X11 rfl 0 (by decide) (List.mem_of_getElem? (i := 6) rfl) rfl rfl dX11_route_111 ?_
                        refine lv_icmp_ge (tgt := 221) hx hb dX11_route_114 (by decide) (fun c_18 => ?_) (fun c_18 => ?_)
                        · have he_19 : f_X11_route_L108 (n + 1) T_108 x1_108 x3_108 x4_108 x5_108 x6_108 x7_108 x8_108 x9_108 x10_108 = (x8_108, x9_108, T_108) := ((ip c_18 rfl))
                          exact hex_108 _ he_19.symm _ _ hP hS ls (lv_sub hl [0, 1, 2, 3, 4, 5, 6, 7, 8] rfl)
                        · refine lv_iload hx hb dX11_route_117 (lv_at hl 9 rfl) ?_
                          refine lv_iload hx hb dX11_route_119 (lv_at hl 6 rfl) ?_
                          refine lv_icmp_eq (tgt := 139) hx hb dX11_route_121 (by decide) (fun c_20 => ?_) (fun c_20 => ?_)
                          · refine lv_aload_n hx hb dX11_route_139 rfl (lv_at hl 0 rfl) ?_
                            refine lv_iload_n hx hb dX11_route_140 rfl (lv_at hl 1 rfl) ?_
                            refine lv_iload hx hb dX11_route_141 (lv_at hl 9 rfl) ?_
                            refine lv_aload_n hx hb dX11_route_143 rfl (lv_at hl 0 rfl) ?_
                            refine xget (ref := "AbsentPraiseModel") (T := TX11) (v := .ref (X.2.1 131)) hC hP hin_X11 xo_X11 rfl 8 (by decide) (List.mem_of_getElem? (i := 8) rfl) rfl rfl dX11_route_144 ?_
                            refine lv_iconst (v := 0) hx hb dX11_route_147 (by decide) ?_
                            refine xiald hC hP rfl (vp_lit (by decide)) dX11_route_148 ?_
                            refine lv_iload hx hb dX11_route_149 (lv_at hl 5 rfl) ?_
                            refine lv_iadd hx hb dX11_route_151 ?_
                            refine lv_iload hx hb dX11_route_152 (lv_at hl 5 rfl) ?_
                            refine lv_if_ne (tgt := 161) hx hb dX11_route_154 (by decide) (fun c_21 => ?_) (fun c_21 => ?_)
                            · refine lv_iconst (v := 0) hx hb dX11_route_161 (by decide) ?_
                              have hn_22 : s_X11_warmer T_108 x1_108 x10_108 ((T_108 131 (0 : Int32).toNatClampNeg) + x6_108) 0 := (nl (sn (sp (sn hs_108 c_18) c_20) c_21))
                              refine xcV_iW (b := 127) (As := [.int x1_108, .int x10_108, .int ((T_108 131 (0 : Int32).toNatClampNeg) + x6_108), .int 0]) (rest := []) hC hP hS (k_X11_warmer l X T_108 x1_108 x10_108 ((T_108 131 (0 : Int32).toNatClampNeg) + x6_108) 0 hn_22) (cwV 4 hts gX11_route_X11_warmer rfl rfl rfl hd_X11_warmer ⟨Nat.le_of_ble_eq_true rfl, Nat.le_of_ble_eq_true rfl⟩) xo_X11 rfl rfl rfl hl.1 (Nat.le_of_ble_eq_true rfl) dX11_route_162 (fun r_23 S_24 hp_r_23 H locs hP hS => ?_)
                              obtain ⟨hr_23, hS_24⟩ := hp_r_23
                              refine lv_aload_n hx hb dX11_route_165 rfl (lv_at hl 0 rfl) ?_
                              refine xget (ref := "AbsentPraiseModel") (T := TX11) (v := .ref (X.2.1 145)) hC hP hin_X11 xo_X11 rfl 38 (by decide) (List.mem_of_getElem? (i := 4) rfl) rfl rfl dX11_route_166 ?_
                              refine lv_bipush (v := 6) hx hb dX11_route_169 (by decide) ?_
                              refine lv_iload hx hb dX11_route_171 (lv_at hl 5 rfl) ?_
                              refine lv_iconst (v := 1) hx hb dX11_route_173 (by decide) ?_
                              refine lv_iadd hx hb dX11_route_174 ?_
                              refine lv_imul hx hb dX11_route_175 ?_
                              refine lv_iload hx hb dX11_route_176 (lv_at hl 9 rfl) ?_
                              refine lv_iadd hx hb dX11_route_178 ?_
                              have hn_26 : vp_in ((6 * (x6_108 + 1)) + x10_108) 54 := (by have hr_23 := hr_23.symm; have hS_24 := hS_24.symm; subst hr_23 hS_24; exact nl (nr (sn (sp (sn hs_108 c_18) c_20) c_21)))
                              refine xiald hC hP rfl hn_26 dX11_route_179 ?_
                              refine lv_iadd hx hb dX11_route_180 ?_
                              refine lv_istore (lv' := [(11, .int (r_23 + (S_24 145 (((6 * (x6_108 + 1)) + x10_108)).toNatClampNeg))), (0, .ref (X.2.1 127)), (1, .int x1_108), (3, .int x3_108), (4, .int x4_108), (5, .int x5_108), (6, .int x6_108), (7, .int x7_108), (8, .int x8_108), (9, .int x9_108), (10, .int x10_108)]) hx hb dX11_route_181 hl (by decide) rfl (fun ls hl => ?_)
                              refine lv_iload hx hb dX11_route_183 (lv_at hl 0 rfl) ?_
                              refine lv_iload hx hb dX11_route_185 (lv_at hl 8 rfl) ?_
                              refine lv_icmp_le (tgt := 195) hx hb dX11_route_187 (by decide) (fun c_27 => ?_) (fun c_27 => ?_)
                              · refine lv_iload hx hb dX11_route_195 (lv_at hl 9 rfl) ?_
                                refine lv_istore (lv' := [(9, .int x9_108), (11, .int (r_23 + (S_24 145 (((6 * (x6_108 + 1)) + x10_108)).toNatClampNeg))), (0, .ref (X.2.1 127)), (1, .int x1_108), (3, .int x3_108), (4, .int x4_108), (5, .int x5_108), (6, .int x6_108), (7, .int x7_108), (8, .int x8_108), (10, .int x10_108)]) hx hb dX11_route_197 hl (by decide) rfl (fun ls hl => ?_)
                                refine lv_iload hx hb dX11_route_199 (lv_at hl 1 rfl) ?_
                                refine lv_iload hx hb dX11_route_201 (lv_at hl 9 rfl) ?_
                                refine lv_icmp_le (tgt := 211) hx hb dX11_route_203 (by decide) (fun _ => ?_) (fun c => absurd c_27 c)
                                refine lv_iload hx hb dX11_route_211 (lv_at hl 9 rfl) ?_
                                refine lv_istore (lv' := [(8, .int x8_108), (9, .int x9_108), (11, .int (r_23 + (S_24 145 (((6 * (x6_108 + 1)) + x10_108)).toNatClampNeg))), (0, .ref (X.2.1 127)), (1, .int x1_108), (3, .int x3_108), (4, .int x4_108), (5, .int x5_108), (6, .int x6_108), (7, .int x7_108), (10, .int x10_108)]) hx hb dX11_route_213 hl (by decide) rfl (fun ls hl => ?_)
                                refine lv_iinc (v := (x10_108 + 1)) (lv' := [(10, .int (x10_108 + 1)), (8, .int x8_108), (9, .int x9_108), (11, .int (r_23 + (S_24 145 (((6 * (x6_108 + 1)) + x10_108)).toNatClampNeg))), (0, .ref (X.2.1 127)), (1, .int x1_108), (3, .int x3_108), (4, .int x4_108), (5, .int x5_108), (6, .int x6_108), (7, .int x7_108)]) hx hb dX11_route_215 hl (k := 10) rfl rfl (by decide) rfl (fun ls hl => ?_)
                                refine lv_goto (tgt := 108) hx hb dX11_route_218 (by decide) ?_
                                have he_28 : f_X11_route_L108 (n + 1) T_108 x1_108 x3_108 x4_108 x5_108 x6_108 x7_108 x8_108 x9_108 x10_108 = f_X11_route_L108 n S_24 x1_108 x3_108 x4_108 x5_108 x6_108 x7_108 x8_108 x9_108 (x10_108 + 1) := (by have hr_23 := hr_23.symm; have hS_24 := hS_24.symm; subst hr_23 hS_24; exact (iN c_18 (ip c_20 (iN c_21 (ip c_27 rfl)))))
                                exact ih_108 S_24 x1_108 x3_108 x4_108 x5_108 x6_108 x7_108 x8_108 x9_108 (x10_108 + 1) (by have hr_23 := hr_23.symm; have hS_24 := hS_24.symm; subst hr_23 hS_24; exact (sp (nr (nr (sn (sp (sn hs_108 c_18) c_20) c_21))) c_27)) (fun q hq => hex_108 q (hq.trans he_28.symm)) _ _ hP hS ls (lv_sub hl [4, 5, 6, 7, 8, 9, 10, 1, 2, 0] rfl)
                              · refine lv_iload hx hb dX11_route_190 (lv_at hl 10 rfl) ?_
                                refine lv_goto (tgt := 197) hx hb dX11_route_192 (by decide) ?_
                                refine lv_istore (lv' := [(9, .int x10_108), (11, .int (r_23 + (S_24 145 (((6 * (x6_108 + 1)) + x10_108)).toNatClampNeg))), (0, .ref (X.2.1 127)), (1, .int x1_108), (3, .int x3_108), (4, .int x4_108), (5, .int x5_108), (6, .int x6_108), (7, .int x7_108), (8, .int x8_108), (10, .int x10_108)]) hx hb dX11_route_197 hl (by decide) rfl (fun ls hl => ?_)
                                refine lv_iload hx hb dX11_route_199 (lv_at hl 1 rfl) ?_
                                refine lv_iload hx hb dX11_route_201 (lv_at hl 9 rfl) ?_
                                refine lv_icmp_le (tgt := 211) hx hb dX11_route_203 (by decide) (fun c => absurd c c_27) (fun _ => ?_)
                                refine lv_iload hx hb dX11_route_206 (lv_at hl 1 rfl) ?_
                                refine lv_goto (tgt := 213) hx hb dX11_route_208 (by decide) ?_
                                refine lv_istore (lv' := [(8, .int (r_23 + (S_24 145 (((6 * (x6_108 + 1)) + x10_108)).toNatClampNeg))), (9, .int x10_108), (11, .int (r_23 + (S_24 145 (((6 * (x6_108 + 1)) + x10_108)).toNatClampNeg))), (0, .ref (X.2.1 127)), (1, .int x1_108), (3, .int x3_108), (4, .int x4_108), (5, .int x5_108), (6, .int x6_108), (7, .int x7_108), (10, .int x10_108)]) hx hb dX11_route_213 hl (by decide) rfl (fun ls hl => ?_)
                                refine lv_iinc (v := (x10_108 + 1)) (lv' := [(10, .int (x10_108 + 1)), (8, .int (r_23 + (S_24 145 (((6 * (x6_108 + 1)) + x10_108)).toNatClampNeg))), (9, .int x10_108), (11, .int (r_23 + (S_24 145 (((6 * (x6_108 + 1)) + x10_108)).toNatClampNeg))), (0, .ref (X.2.1 127)), (1, .int x1_108), (3, .int x3_108), (4, .int x4_108), (5, .int x5_108), (6, .int x6_108), (7, .int x7_108)]) hx hb dX11_route_215 hl (k := 10) rfl rfl (by decide) rfl (fun ls hl => ?_)
                                refine lv_goto (tgt := 108) hx hb dX11_route_218 (by decide) ?_
                                have he_29 : f_X11_route_L108 (n + 1) T_108 x1_108 x3_108 x4_108 x5_108 x6_108 x7_108 x8_108 x9_108 x10_108 = f_X11_route_L108 n S_24 x1_108 x3_108 x4_108 x5_108 x6_108 x7_108 (r_23 + (S_24 145 (((6 * (x6_108 + 1)) + x10_108)).toNatClampNeg)) x10_108 (x10_108 + 1) := (by have hr_23 := hr_23.symm; have hS_24 := hS_24.symm; subst hr_23 hS_24; exact (iN c_18 (ip c_20 (iN c_21 (iN c_27 rfl)))))
                                exact ih_108 S_24 x1_108 x3_108 x4_108 x5_108 x6_108 x7_108 (r_23 + (S_24 145 (((6 * (x6_108 + 1)) + x10_108)).toNatClampNeg)) x10_108 (x10_108 + 1) (by have hr_23 := hr_23.symm; have hS_24 := hS_24.symm; subst hr_23 hS_24; exact (sn (nr (nr (sn (sp (sn hs_108 c_18) c_20) c_21))) c_27)) (fun q hq => hex_108 q (hq.trans he_29.symm)) _ _ hP hS ls (lv_sub hl [4, 5, 6, 7, 8, 9, 10, 1, 2, 0] rfl)
                            · refine lv_iconst (v := 1) hx hb dX11_route_157 (by decide) ?_
                              refine lv_goto (tgt := 162) hx hb dX11_route_158 (by decide) ?_
                              have hn_30 : s_X11_warmer T_108 x1_108 x10_108 ((T_108 131 (0 : Int32).toNatClampNeg) + x6_108) 1 := (nl (sp (sp (sn hs_108 c_18) c_20) c_21))
                              refine xcV_iW (b := 127) (As := [.int x1_108, .int x10_108, .int ((T_108 131 (0 : Int32).toNatClampNeg) + x6_108), .int 1]) (rest := []) hC hP hS (k_X11_warmer l X T_108 x1_108 x10_108 ((T_108 131 (0 : Int32).toNatClampNeg) + x6_108) 1 hn_30) (cwV 4 hts gX11_route_X11_warmer rfl rfl rfl hd_X11_warmer ⟨Nat.le_of_ble_eq_true rfl, Nat.le_of_ble_eq_true rfl⟩) xo_X11 rfl rfl rfl hl.1 (Nat.le_of_ble_eq_true rfl) dX11_route_162 (fun r_31 S_32 hp_r_31 H locs hP hS => ?_)
                              obtain ⟨hr_31, hS_32⟩ := hp_r_31
                              refine lv_aload_n hx hb dX11_route_165 rfl (lv_at hl 0 rfl) ?_
                              refine xget (ref := "AbsentPraiseModel") (T := TX11) (v := .ref (X.2.1 145)) hC hP hin_X11 xo_X11 rfl 38 (by decide) (List.mem_of_getElem? (i := 4) rfl) rfl rfl dX11_route_166 ?_
                              refine lv_bipush (v := 6) hx hb dX11_route_169 (by decide) ?_
                              refine lv_iload hx hb dX11_route_171 (lv_at hl 5 rfl) ?_
                              refine lv_iconst (v := 1) hx hb dX11_route_173 (by decide) ?_
                              refine lv_iadd hx hb dX11_route_174 ?_
                              refine lv_imul hx hb dX11_route_175 ?_
                              refine lv_iload hx hb dX11_route_176 (lv_at hl 9 rfl) ?_
                              refine lv_iadd hx hb dX11_route_178 ?_
                              have hn_34 : vp_in ((6 * (x6_108 + 1)) + x10_108) 54 := (by have hr_31 := hr_31.symm; have hS_32 := hS_32.symm; subst hr_31 hS_32; exact nl (nr (sp (sp (sn hs_108 c_18) c_20) c_21)))
                              refine xiald hC hP rfl hn_34 dX11_route_179 ?_
                              refine lv_iadd hx hb dX11_route_180 ?_
                              refine lv_istore (lv' := [(11, .int (r_31 + (S_32 145 (((6 * (x6_108 + 1)) + x10_108)).toNatClampNeg))), (0, .ref (X.2.1 127)), (1, .int x1_108), (3, .int x3_108), (4, .int x4_108), (5, .int x5_108), (6, .int x6_108), (7, .int x7_108), (8, .int x8_108), (9, .int x9_108), (10, .int x10_108)]) hx hb dX11_route_181 hl (by decide) rfl (fun ls hl => ?_)
                              refine lv_iload hx hb dX11_route_183 (lv_at hl 0 rfl) ?_
                              refine lv_iload hx hb dX11_route_185 (lv_at hl 8 rfl) ?_
                              refine lv_icmp_le (tgt := 195) hx hb dX11_route_187 (by decide) (fun c_35 => ?_) (fun c_35 => ?_)
                              · refine lv_iload hx hb dX11_route_195 (lv_at hl 9 rfl) ?_
                                refine lv_istore (lv' := [(9, .int x9_108), (11, .int (r_31 + (S_32 145 (((6 * (x6_108 + 1)) + x10_108)).toNatClampNeg))), (0, .ref (X.2.1 127)), (1, .int x1_108), (3, .int x3_108), (4, .int x4_108), (5, .int x5_108), (6, .int x6_108), (7, .int x7_108), (8, .int x8_108), (10, .int x10_108)]) hx hb dX11_route_197 hl (by decide) rfl (fun ls hl => ?_)
                                refine lv_iload hx hb dX11_route_199 (lv_at hl 1 rfl) ?_
                                refine lv_iload hx hb dX11_route_201 (lv_at hl 9 rfl) ?_
                                refine lv_icmp_le (tgt := 211) hx hb dX11_route_203 (by decide) (fun _ => ?_) (fun c => absurd c_35 c)
                                refine lv_iload hx hb dX11_route_211 (lv_at hl 9 rfl) ?_
                                refine lv_istore (lv' := [(8, .int x8_108), (9, .int x9_108), (11, .int (r_31 + (S_32 145 (((6 * (x6_108 + 1)) + x10_108)).toNatClampNeg))), (0, .ref (X.2.1 127)), (1, .int x1_108), (3, .int x3_108), (4, .int x4_108), (5, .int x5_108), (6, .int x6_108), (7, .int x7_108), (10, .int x10_108)]) hx hb dX11_route_213 hl (by decide) rfl (fun ls hl => ?_)
                                refine lv_iinc (v := (x10_108 + 1)) (lv' := [(10, .int (x10_108 + 1)), (8, .int x8_108), (9, .int x9_108), (11, .int (r_31 + (S_32 145 (((6 * (x6_108 + 1)) + x10_108)).toNatClampNeg))), (0, .ref (X.2.1 127)), (1, .int x1_108), (3, .int x3_108), (4, .int x4_108), (5, .int x5_108), (6, .int x6_108), (7, .int x7_108)]) hx hb dX11_route_215 hl (k := 10) rfl rfl (by decide) rfl (fun ls hl => ?_)
                                refine lv_goto (tgt := 108) hx hb dX11_route_218 (by decide) ?_
                                have he_36 : f_X11_route_L108 (n + 1) T_108 x1_108 x3_108 x4_108 x5_108 x6_108 x7_108 x8_108 x9_108 x10_108 = f_X11_route_L108 n S_32 x1_108 x3_108 x4_108 x5_108 x6_108 x7_108 x8_108 x9_108 (x10_108 + 1) := (by have hr_31 := hr_31.symm; have hS_32 := hS_32.symm; subst hr_31 hS_32; exact (iN c_18 (ip c_20 (ip c_21 (ip c_35 rfl)))))
                                exact ih_108 S_32 x1_108 x3_108 x4_108 x5_108 x6_108 x7_108 x8_108 x9_108 (x10_108 + 1) (by have hr_31 := hr_31.symm; have hS_32 := hS_32.symm; subst hr_31 hS_32; exact (sp (nr (nr (sp (sp (sn hs_108 c_18) c_20) c_21))) c_35)) (fun q hq => hex_108 q (hq.trans he_36.symm)) _ _ hP hS ls (lv_sub hl [4, 5, 6, 7, 8, 9, 10, 1, 2, 0] rfl)
                              · refine lv_iload hx hb dX11_route_190 (lv_at hl 10 rfl) ?_
                                refine lv_goto (tgt := 197) hx hb dX11_route_192 (by decide) ?_
                                refine lv_istore (lv' := [(9, .int x10_108), (11, .int (r_31 + (S_32 145 (((6 * (x6_108 + 1)) + x10_108)).toNatClampNeg))), (0, .ref (X.2.1 127)), (1, .int x1_108), (3, .int x3_108), (4, .int x4_108), (5, .int x5_108), (6, .int x6_108), (7, .int x7_108), (8, .int x8_108), (10, .int x10_108)]) hx hb dX11_route_197 hl (by decide) rfl (fun ls hl => ?_)
                                refine lv_iload hx hb dX11_route_199 (lv_at hl 1 rfl) ?_
                                refine lv_iload hx hb dX11_route_201 (lv_at hl 9 rfl) ?_
                                refine lv_icmp_le (tgt := 211) hx hb dX11_route_203 (by decide) (fun c => absurd c c_35) (fun _ => ?_)
                                refine lv_iload hx hb dX11_route_206 (lv_at hl 1 rfl) ?_
                                refine lv_goto (tgt := 213) hx hb dX11_route_208 (by decide) ?_
                                refine lv_istore (lv' := [(8, .int (r_31 + (S_32 145 (((6 * (x6_108 + 1)) + x10_108)).toNatClampNeg))), (9, .int x10_108), (11, .int (r_31 + (S_32 145 (((6 * (x6_108 + 1)) + x10_108)).toNatClampNeg))), (0, .ref (X.2.1 127)), (1, .int x1_108), (3, .int x3_108), (4, .int x4_108), (5, .int x5_108), (6, .int x6_108), (7, .int x7_108), (10, .int x10_108)]) hx hb dX11_route_213 hl (by decide) rfl (fun ls hl => ?_)
                                refine lv_iinc (v := (x10_108 + 1)) (lv' := [(10, .int (x10_108 + 1)), (8, .int (r_31 + (S_32 145 (((6 * (x6_108 + 1)) + x10_108)).toNatClampNeg))), (9, .int x10_108), (11, .int (r_31 + (S_32 145 (((6 * (x6_108 + 1)) + x10_108)).toNatClampNeg))), (0, .ref (X.2.1 127)), (1, .int x1_108), (3, .int x3_108), (4, .int x4_108), (5, .int x5_108), (6, .int x6_108), (7, .int x7_108)]) hx hb dX11_route_215 hl (k := 10) rfl rfl (by decide) rfl (fun ls hl => ?_)
                                refine lv_goto (tgt := 108) hx hb dX11_route_218 (by decide) ?_
                                have he_37 : f_X11_route_L108 (n + 1) T_108 x1_108 x3_108 x4_108 x5_108 x6_108 x7_108 x8_108 x9_108 x10_108 = f_X11_route_L108 n S_32 x1_108 x3_108 x4_108 x5_108 x6_108 x7_108 (r_31 + (S_32 145 (((6 * (x6_108 + 1)) + x10_108)).toNatClampNeg)) x10_108 (x10_108 + 1) := (by have hr_31 := hr_31.symm; have hS_32 := hS_32.symm; subst hr_31 hS_32; exact (iN c_18 (ip c_20 (ip c_21 (iN c_35 rfl)))))
                                exact ih_108 S_32 x1_108 x3_108 x4_108 x5_108 x6_108 x7_108 (r_31 + (S_32 145 (((6 * (x6_108 + 1)) + x10_108)).toNatClampNeg)) x10_108 (x10_108 + 1) (by have hr_31 := hr_31.symm; have hS_32 := hS_32.symm; subst hr_31 hS_32; exact (sn (nr (nr (sp (sp (sn hs_108 c_18) c_20) c_21))) c_35)) (fun q hq => hex_108 q (hq.trans he_37.symm)) _ _ hP hS ls (lv_sub hl [4, 5, 6, 7, 8, 9, 10, 1, 2, 0] rfl)
                          · refine lv_aload_n hx hb dX11_route_124 rfl (lv_at hl 0 rfl) ?_
                            refine xget (ref := "AbsentPraiseModel") (T := TX11) (v := .ref (X.2.1 129)) hC hP hin_X11 xo_X11 rfl 5 (by decide) (List.mem_of_getElem? (i := 7) rfl) rfl rfl dX11_route_125 ?_
                            refine lv_iload hx hb dX11_route_128 (lv_at hl 6 rfl) ?_
                            have hn_38 : vp_in x7_108 6 := (nl (sn (sn hs_108 c_18) c_20))
                            refine xiald hC hP rfl hn_38 dX11_route_130 ?_
                            refine lv_iload hx hb dX11_route_131 (lv_at hl 9 rfl) ?_
                            refine xcS_iR (As := [.int (T_108 129 (x7_108).toNatClampNeg), .int x10_108]) (rest := []) hC hP hS (k_X11_has l X T_108 (T_108 129 (x7_108).toNatClampNeg) x10_108) (va_cwS 2 hts gX11_route_X11_has rfl rfl rfl hs_X11_has ⟨Nat.le_of_ble_eq_true rfl, Nat.le_of_ble_eq_true rfl⟩) rfl rfl hl.1 (Nat.le_of_ble_eq_true rfl) dX11_route_133 (fun r_39 hp_r_39 H locs hP hS => ?_)
                            obtain ⟨hr_39, hzr_39⟩ := hp_r_39
                            refine lv_if_eq (tgt := 215) hx hb dX11_route_136 (by decide) (fun c_40 => ?_) (fun c_40 => ?_)
                            · refine lv_iinc (v := (x10_108 + 1)) (lv' := [(10, .int (x10_108 + 1)), (0, .ref (X.2.1 127)), (1, .int x1_108), (3, .int x3_108), (4, .int x4_108), (5, .int x5_108), (6, .int x6_108), (7, .int x7_108), (8, .int x8_108), (9, .int x9_108)]) hx hb dX11_route_215 hl (k := 9) rfl rfl (by decide) rfl (fun ls hl => ?_)
                              refine lv_goto (tgt := 108) hx hb dX11_route_218 (by decide) ?_
                              have he_41 : f_X11_route_L108 (n + 1) T_108 x1_108 x3_108 x4_108 x5_108 x6_108 x7_108 x8_108 x9_108 x10_108 = f_X11_route_L108 n T_108 x1_108 x3_108 x4_108 x5_108 x6_108 x7_108 x8_108 x9_108 (x10_108 + 1) := (by have hr_39 := hr_39.symm; subst hr_39; exact (iN c_18 (iN c_20 (ip c_40 rfl))))
                              exact ih_108 T_108 x1_108 x3_108 x4_108 x5_108 x6_108 x7_108 x8_108 x9_108 (x10_108 + 1) (by have hr_39 := hr_39.symm; subst hr_39; exact (sp (nr (sn (sn hs_108 c_18) c_20)) c_40)) (fun q hq => hex_108 q (hq.trans he_41.symm)) _ _ hP hS ls (lv_sub hl [1, 2, 3, 4, 5, 6, 7, 8, 9, 0] rfl)
                            · refine lv_aload_n hx hb dX11_route_139 rfl (lv_at hl 0 rfl) ?_
                              refine lv_iload_n hx hb dX11_route_140 rfl (lv_at hl 1 rfl) ?_
                              refine lv_iload hx hb dX11_route_141 (lv_at hl 9 rfl) ?_
                              refine lv_aload_n hx hb dX11_route_143 rfl (lv_at hl 0 rfl) ?_
                              refine xget (ref := "AbsentPraiseModel") (T := TX11) (v := .ref (X.2.1 131)) hC hP hin_X11 xo_X11 rfl 8 (by decide) (List.mem_of_getElem? (i := 8) rfl) rfl rfl dX11_route_144 ?_
                              refine lv_iconst (v := 0) hx hb dX11_route_147 (by decide) ?_
                              refine xiald hC hP rfl (vp_lit (by decide)) dX11_route_148 ?_
                              refine lv_iload hx hb dX11_route_149 (lv_at hl 5 rfl) ?_
                              refine lv_iadd hx hb dX11_route_151 ?_
                              refine lv_iload hx hb dX11_route_152 (lv_at hl 5 rfl) ?_
                              refine lv_if_ne (tgt := 161) hx hb dX11_route_154 (by decide) (fun c_42 => ?_) (fun c_42 => ?_)
                              · refine lv_iconst (v := 0) hx hb dX11_route_161 (by decide) ?_
                                have hn_43 : s_X11_warmer T_108 x1_108 x10_108 ((T_108 131 (0 : Int32).toNatClampNeg) + x6_108) 0 := (by have hr_39 := hr_39.symm; subst hr_39; exact nl (sn (sn (nr (sn (sn hs_108 c_18) c_20)) c_40) c_42))
                                refine xcV_iW (b := 127) (As := [.int x1_108, .int x10_108, .int ((T_108 131 (0 : Int32).toNatClampNeg) + x6_108), .int 0]) (rest := []) hC hP hS (k_X11_warmer l X T_108 x1_108 x10_108 ((T_108 131 (0 : Int32).toNatClampNeg) + x6_108) 0 hn_43) (cwV 4 hts gX11_route_X11_warmer rfl rfl rfl hd_X11_warmer ⟨Nat.le_of_ble_eq_true rfl, Nat.le_of_ble_eq_true rfl⟩) xo_X11 rfl rfl rfl hl.1 (Nat.le_of_ble_eq_true rfl) dX11_route_162 (fun r_44 S_45 hp_r_44 H locs hP hS => ?_)
                                obtain ⟨hr_44, hS_45⟩ := hp_r_44
                                refine lv_aload_n hx hb dX11_route_165 rfl (lv_at hl 0 rfl) ?_
                                refine xget (ref := "AbsentPraiseModel") (T := TX11) (v := .ref (X.2.1 145)) hC hP hin_X11 xo_X11 rfl 38 (by decide) (List.mem_of_getElem? (i := 4) rfl) rfl rfl dX11_route_166 ?_
                                refine lv_bipush (v := 6) hx hb dX11_route_169 (by decide) ?_
                                refine lv_iload hx hb dX11_route_171 (lv_at hl 5 rfl) ?_
                                refine lv_iconst (v := 1) hx hb dX11_route_173 (by decide) ?_
                                refine lv_iadd hx hb dX11_route_174 ?_
                                refine lv_imul hx hb dX11_route_175 ?_
                                refine lv_iload hx hb dX11_route_176 (lv_at hl 9 rfl) ?_
                                refine lv_iadd hx hb dX11_route_178 ?_
                                have hn_47 : vp_in ((6 * (x6_108 + 1)) + x10_108) 54 := (by have hr_39 := hr_39.symm; have hr_44 := hr_44.symm; have hS_45 := hS_45.symm; subst hr_39 hr_44 hS_45; exact nl (nr (sn (sn (nr (sn (sn hs_108 c_18) c_20)) c_40) c_42)))
                                refine xiald hC hP rfl hn_47 dX11_route_179 ?_
                                refine lv_iadd hx hb dX11_route_180 ?_
                                refine lv_istore (lv' := [(11, .int (r_44 + (S_45 145 (((6 * (x6_108 + 1)) + x10_108)).toNatClampNeg))), (0, .ref (X.2.1 127)), (1, .int x1_108), (3, .int x3_108), (4, .int x4_108), (5, .int x5_108), (6, .int x6_108), (7, .int x7_108), (8, .int x8_108), (9, .int x9_108), (10, .int x10_108)]) hx hb dX11_route_181 hl (by decide) rfl (fun ls hl => ?_)
                                refine lv_iload hx hb dX11_route_183 (lv_at hl 0 rfl) ?_
                                refine lv_iload hx hb dX11_route_185 (lv_at hl 8 rfl) ?_
                                refine lv_icmp_le (tgt := 195) hx hb dX11_route_187 (by decide) (fun c_48 => ?_) (fun c_48 => ?_)
                                · refine lv_iload hx hb dX11_route_195 (lv_at hl 9 rfl) ?_
                                  refine lv_istore (lv' := [(9, .int x9_108), (11, .int (r_44 + (S_45 145 (((6 * (x6_108 + 1)) + x10_108)).toNatClampNeg))), (0, .ref (X.2.1 127)), (1, .int x1_108), (3, .int x3_108), (4, .int x4_108), (5, .int x5_108), (6, .int x6_108), (7, .int x7_108), (8, .int x8_108), (10, .int x10_108)]) hx hb dX11_route_197 hl (by decide) rfl (fun ls hl => ?_)
                                  refine lv_iload hx hb dX11_route_199 (lv_at hl 1 rfl) ?_
                                  refine lv_iload hx hb dX11_route_201 (lv_at hl 9 rfl) ?_
                                  refine lv_icmp_le (tgt := 211) hx hb dX11_route_203 (by decide) (fun _ => ?_) (fun c => absurd c_48 c)
                                  refine lv_iload hx hb dX11_route_211 (lv_at hl 9 rfl) ?_
                                  refine lv_istore (lv' := [(8, .int x8_108), (9, .int x9_108), (11, .int (r_44 + (S_45 145 (((6 * (x6_108 + 1)) + x10_108)).toNatClampNeg))), (0, .ref (X.2.1 127)), (1, .int x1_108), (3, .int x3_108), (4, .int x4_108), (5, .int x5_108), (6, .int x6_108), (7, .int x7_108), (10, .int x10_108)]) hx hb dX11_route_213 hl (by decide) rfl (fun ls hl => ?_)
                                  refine lv_iinc (v := (x10_108 + 1)) (lv' := [(10, .int (x10_108 + 1)), (8, .int x8_108), (9, .int x9_108), (11, .int (r_44 + (S_45 145 (((6 * (x6_108 + 1)) + x10_108)).toNatClampNeg))), (0, .ref (X.2.1 127)), (1, .int x1_108), (3, .int x3_108), (4, .int x4_108), (5, .int x5_108), (6, .int x6_108), (7, .int x7_108)]) hx hb dX11_route_215 hl (k := 10) rfl rfl (by decide) rfl (fun ls hl => ?_)
                                  refine lv_goto (tgt := 108) hx hb dX11_route_218 (by decide) ?_
                                  have he_49 : f_X11_route_L108 (n + 1) T_108 x1_108 x3_108 x4_108 x5_108 x6_108 x7_108 x8_108 x9_108 x10_108 = f_X11_route_L108 n S_45 x1_108 x3_108 x4_108 x5_108 x6_108 x7_108 x8_108 x9_108 (x10_108 + 1) := (by have hr_39 := hr_39.symm; have hr_44 := hr_44.symm; have hS_45 := hS_45.symm; subst hr_39 hr_44 hS_45; exact (iN c_18 (iN c_20 (iN c_40 (iN c_42 (ip c_48 rfl))))))
                                  exact ih_108 S_45 x1_108 x3_108 x4_108 x5_108 x6_108 x7_108 x8_108 x9_108 (x10_108 + 1) (by have hr_39 := hr_39.symm; have hr_44 := hr_44.symm; have hS_45 := hS_45.symm; subst hr_39 hr_44 hS_45; exact (sp (nr (nr (sn (sn (nr (sn (sn hs_108 c_18) c_20)) c_40) c_42))) c_48)) (fun q hq => hex_108 q (hq.trans he_49.symm)) _ _ hP hS ls (lv_sub hl [4, 5, 6, 7, 8, 9, 10, 1, 2, 0] rfl)
                                · refine lv_iload hx hb dX11_route_190 (lv_at hl 10 rfl) ?_
                                  refine lv_goto (tgt := 197) hx hb dX11_route_192 (by decide) ?_
                                  refine lv_istore (lv' := [(9, .int x10_108), (11, .int (r_44 + (S_45 145 (((6 * (x6_108 + 1)) + x10_108)).toNatClampNeg))), (0, .ref (X.2.1 127)), (1, .int x1_108), (3, .int x3_108), (4, .int x4_108), (5, .int x5_108), (6, .int x6_108), (7, .int x7_108), (8, .int x8_108), (10, .int x10_108)]) hx hb dX11_route_197 hl (by decide) rfl (fun ls hl => ?_)
                                  refine lv_iload hx hb dX11_route_199 (lv_at hl 1 rfl) ?_
                                  refine lv_iload hx hb dX11_route_201 (lv_at hl 9 rfl) ?_
                                  refine lv_icmp_le (tgt := 211) hx hb dX11_route_203 (by decide) (fun c => absurd c c_48) (fun _ => ?_)
                                  refine lv_iload hx hb dX11_route_206 (lv_at hl 1 rfl) ?_
                                  refine lv_goto (tgt := 213) hx hb dX11_route_208 (by decide) ?_
                                  refine lv_istore (lv' := [(8, .int (r_44 + (S_45 145 (((6 * (x6_108 + 1)) + x10_108)).toNatClampNeg))), (9, .int x10_108), (11, .int (r_44 + (S_45 145 (((6 * (x6_108 + 1)) + x10_108)).toNatClampNeg))), (0, .ref (X.2.1 127)), (1, .int x1_108), (3, .int x3_108), (4, .int x4_108), (5, .int x5_108), (6, .int x6_108), (7, .int x7_108), (10, .int x10_108)]) hx hb dX11_route_213 hl (by decide) rfl (fun ls hl => ?_)
                                  refine lv_iinc (v := (x10_108 + 1)) (lv' := [(10, .int (x10_108 + 1)), (8, .int (r_44 + (S_45 145 (((6 * (x6_108 + 1)) + x10_108)).toNatClampNeg))), (9, .int x10_108), (11, .int (r_44 + (S_45 145 (((6 * (x6_108 + 1)) + x10_108)).toNatClampNeg))), (0, .ref (X.2.1 127)), (1, .int x1_108), (3, .int x3_108), (4, .int x4_108), (5, .int x5_108), (6, .int x6_108), (7, .int x7_108)]) hx hb dX11_route_215 hl (k := 10) rfl rfl (by decide) rfl (fun ls hl => ?_)
                                  refine lv_goto (tgt := 108) hx hb dX11_route_218 (by decide) ?_
                                  have he_50 : f_X11_route_L108 (n + 1) T_108 x1_108 x3_108 x4_108 x5_108 x6_108 x7_108 x8_108 x9_108 x10_108 = f_X11_route_L108 n S_45 x1_108 x3_108 x4_108 x5_108 x6_108 x7_108 (r_44 + (S_45 145 (((6 * (x6_108 + 1)) + x10_108)).toNatClampNeg)) x10_108 (x10_108 + 1) := (by have hr_39 := hr_39.symm; have hr_44 := hr_44.symm; have hS_45 := hS_45.symm; subst hr_39 hr_44 hS_45; exact (iN c_18 (iN c_20 (iN c_40 (iN c_42 (iN c_48 rfl))))))
                                  exact ih_108 S_45 x1_108 x3_108 x4_108 x5_108 x6_108 x7_108 (r_44 + (S_45 145 (((6 * (x6_108 + 1)) + x10_108)).toNatClampNeg)) x10_108 (x10_108 + 1) (by have hr_39 := hr_39.symm; have hr_44 := hr_44.symm; have hS_45 := hS_45.symm; subst hr_39 hr_44 hS_45; exact (sn (nr (nr (sn (sn (nr (sn (sn hs_108 c_18) c_20)) c_40) c_42))) c_48)) (fun q hq => hex_108 q (hq.trans he_50.symm)) _ _ hP hS ls (lv_sub hl [4, 5, 6, 7, 8, 9, 10, 1, 2, 0] rfl)
                              · refine lv_iconst (v := 1) hx hb dX11_route_157 (by decide) ?_
                                refine lv_goto (tgt := 162) hx hb dX11_route_158 (by decide) ?_
                                have hn_51 : s_X11_warmer T_108 x1_108 x10_108 ((T_108 131 (0 : Int32).toNatClampNeg) + x6_108) 1 := (by have hr_39 := hr_39.symm; subst hr_39; exact nl (sp (sn (nr (sn (sn hs_108 c_18) c_20)) c_40) c_42))
                                refine xcV_iW (b := 127) (As := [.int x1_108, .int x10_108, .int ((T_108 131 (0 : Int32).toNatClampNeg) + x6_108), .int 1]) (rest := []) hC hP hS (k_X11_warmer l X T_108 x1_108 x10_108 ((T_108 131 (0 : Int32).toNatClampNeg) + x6_108) 1 hn_51) (cwV 4 hts gX11_route_X11_warmer rfl rfl rfl hd_X11_warmer ⟨Nat.le_of_ble_eq_true rfl, Nat.le_of_ble_eq_true rfl⟩) xo_X11 rfl rfl rfl hl.1 (Nat.le_of_ble_eq_true rfl) dX11_route_162 (fun r_52 S_53 hp_r_52 H locs hP hS => ?_)
                                obtain ⟨hr_52, hS_53⟩ := hp_r_52
                                refine lv_aload_n hx hb dX11_route_165 rfl (lv_at hl 0 rfl) ?_
                                refine xget (ref := "AbsentPraiseModel") (T := TX11) (v := .ref (X.2.1 145)) hC hP hin_X11 xo_X11 rfl 38 (by decide) (List.mem_of_getElem? (i := 4) rfl) rfl rfl dX11_route_166 ?_
                                refine lv_bipush (v := 6) hx hb dX11_route_169 (by decide) ?_
                                refine lv_iload hx hb dX11_route_171 (lv_at hl 5 rfl) ?_
                                refine lv_iconst (v := 1) hx hb dX11_route_173 (by decide) ?_
                                refine lv_iadd hx hb dX11_route_174 ?_
                                refine lv_imul hx hb dX11_route_175 ?_
                                refine lv_iload hx hb dX11_route_176 (lv_at hl 9 rfl) ?_
                                refine lv_iadd hx hb dX11_route_178 ?_
                                have hn_55 : vp_in ((6 * (x6_108 + 1)) + x10_108) 54 := (by have hr_39 := hr_39.symm; have hr_52 := hr_52.symm; have hS_53 := hS_53.symm; subst hr_39 hr_52 hS_53; exact nl (nr (sp (sn (nr (sn (sn hs_108 c_18) c_20)) c_40) c_42)))
                                refine xiald hC hP rfl hn_55 dX11_route_179 ?_
                                refine lv_iadd hx hb dX11_route_180 ?_
                                refine lv_istore (lv' := [(11, .int (r_52 + (S_53 145 (((6 * (x6_108 + 1)) + x10_108)).toNatClampNeg))), (0, .ref (X.2.1 127)), (1, .int x1_108), (3, .int x3_108), (4, .int x4_108), (5, .int x5_108), (6, .int x6_108), (7, .int x7_108), (8, .int x8_108), (9, .int x9_108), (10, .int x10_108)]) hx hb dX11_route_181 hl (by decide) rfl (fun ls hl => ?_)
                                refine lv_iload hx hb dX11_route_183 (lv_at hl 0 rfl) ?_
                                refine lv_iload hx hb dX11_route_185 (lv_at hl 8 rfl) ?_
                                refine lv_icmp_le (tgt := 195) hx hb dX11_route_187 (by decide) (fun c_56 => ?_) (fun c_56 => ?_)
                                · refine lv_iload hx hb dX11_route_195 (lv_at hl 9 rfl) ?_
                                  refine lv_istore (lv' := [(9, .int x9_108), (11, .int (r_52 + (S_53 145 (((6 * (x6_108 + 1)) + x10_108)).toNatClampNeg))), (0, .ref (X.2.1 127)), (1, .int x1_108), (3, .int x3_108), (4, .int x4_108), (5, .int x5_108), (6, .int x6_108), (7, .int x7_108), (8, .int x8_108), (10, .int x10_108)]) hx hb dX11_route_197 hl (by decide) rfl (fun ls hl => ?_)
                                  refine lv_iload hx hb dX11_route_199 (lv_at hl 1 rfl) ?_
                                  refine lv_iload hx hb dX11_route_201 (lv_at hl 9 rfl) ?_
                                  refine lv_icmp_le (tgt := 211) hx hb dX11_route_203 (by decide) (fun _ => ?_) (fun c => absurd c_56 c)
                                  refine lv_iload hx hb dX11_route_211 (lv_at hl 9 rfl) ?_
                                  refine lv_istore (lv' := [(8, .int x8_108), (9, .int x9_108), (11, .int (r_52 + (S_53 145 (((6 * (x6_108 + 1)) + x10_108)).toNatClampNeg))), (0, .ref (X.2.1 127)), (1, .int x1_108), (3, .int x3_108), (4, .int x4_108), (5, .int x5_108), (6, .int x6_108), (7, .int x7_108), (10, .int x10_108)]) hx hb dX11_route_213 hl (by decide) rfl (fun ls hl => ?_)
                                  refine lv_iinc (v := (x10_108 + 1)) (lv' := [(10, .int (x10_108 + 1)), (8, .int x8_108), (9, .int x9_108), (11, .int (r_52 + (S_53 145 (((6 * (x6_108 + 1)) + x10_108)).toNatClampNeg))), (0, .ref (X.2.1 127)), (1, .int x1_108), (3, .int x3_108), (4, .int x4_108), (5, .int x5_108), (6, .int x6_108), (7, .int x7_108)]) hx hb dX11_route_215 hl (k := 10) rfl rfl (by decide) rfl (fun ls hl => ?_)
                                  refine lv_goto (tgt := 108) hx hb dX11_route_218 (by decide) ?_
                                  have he_57 : f_X11_route_L108 (n + 1) T_108 x1_108 x3_108 x4_108 x5_108 x6_108 x7_108 x8_108 x9_108 x10_108 = f_X11_route_L108 n S_53 x1_108 x3_108 x4_108 x5_108 x6_108 x7_108 x8_108 x9_108 (x10_108 + 1) := (by have hr_39 := hr_39.symm; have hr_52 := hr_52.symm; have hS_53 := hS_53.symm; subst hr_39 hr_52 hS_53; exact (iN c_18 (iN c_20 (iN c_40 (ip c_42 (ip c_56 rfl))))))
                                  exact ih_108 S_53 x1_108 x3_108 x4_108 x5_108 x6_108 x7_108 x8_108 x9_108 (x10_108 + 1) (by have hr_39 := hr_39.symm; have hr_52 := hr_52.symm; have hS_53 := hS_53.symm; subst hr_39 hr_52 hS_53; exact (sp (nr (nr (sp (sn (nr (sn (sn hs_108 c_18) c_20)) c_40) c_42))) c_56)) (fun q hq => hex_108 q (hq.trans he_57.symm)) _ _ hP hS ls (lv_sub hl [4, 5, 6, 7, 8, 9, 10, 1, 2, 0] rfl)
                                · refine lv_iload hx hb dX11_route_190 (lv_at hl 10 rfl) ?_
                                  refine lv_goto (tgt := 197) hx hb dX11_route_192 (by decide) ?_
                                  refine lv_istore (lv' := [(9, .int x10_108), (11, .int (r_52 + (S_53 145 (((6 * (x6_108 + 1)) + x10_108)).toNatClampNeg))), (0, .ref (X.2.1 127)), (1, .int x1_108), (3, .int x3_108), (4, .int x4_108), (5, .int x5_108), (6, .int x6_108), (7, .int x7_108), (8, .int x8_108), (10, .int x10_108)]) hx hb dX11_route_197 hl (by decide) rfl (fun ls hl => ?_)
                                  refine lv_iload hx hb dX11_route_199 (lv_at hl 1 rfl) ?_
                                  refine lv_iload hx hb dX11_route_201 (lv_at hl 9 rfl) ?_
                                  refine lv_icmp_le (tgt := 211) hx hb dX11_route_203 (by decide) (fun c => absurd c c_56) (fun _ => ?_)
                                  refine lv_iload hx hb dX11_route_206 (lv_at hl 1 rfl) ?_
                                  refine lv_goto (tgt := 213) hx hb dX11_route_208 (by decide) ?_
                                  refine lv_istore (lv' := [(8, .int (r_52 + (S_53 145 (((6 * (x6_108 + 1)) + x10_108)).toNatClampNeg))), (9, .int x10_108), (11, .int (r_52 + (S_53 145 (((6 * (x6_108 + 1)) + x10_108)).toNatClampNeg))), (0, .ref (X.2.1 127)), (1, .int x1_108), (3, .int x3_108), (4, .int x4_108), (5, .int x5_108), (6, .int x6_108), (7, .int x7_108), (10, .int x10_108)]) hx hb dX11_route_213 hl (by decide) rfl (fun ls hl => ?_)
                                  refine lv_iinc (v := (x10_108 + 1)) (lv' := [(10, .int (x10_108 + 1)), (8, .int (r_52 + (S_53 145 (((6 * (x6_108 + 1)) + x10_108)).toNatClampNeg))), (9, .int x10_108), (11, .int (r_52 + (S_53 145 (((6 * (x6_108 + 1)) + x10_108)).toNatClampNeg))), (0, .ref (X.2.1 127)), (1, .int x1_108), (3, .int x3_108), (4, .int x4_108), (5, .int x5_108), (6, .int x6_108), (7, .int x7_108)]) hx hb dX11_route_215 hl (k := 10) rfl rfl (by decide) rfl (fun ls hl => ?_)
                                  refine lv_goto (tgt := 108) hx hb dX11_route_218 (by decide) ?_
                                  have he_58 : f_X11_route_L108 (n + 1) T_108 x1_108 x3_108 x4_108 x5_108 x6_108 x7_108 x8_108 x9_108 x10_108 = f_X11_route_L108 n S_53 x1_108 x3_108 x4_108 x5_108 x6_108 x7_108 (r_52 + (S_53 145 (((6 * (x6_108 + 1)) + x10_108)).toNatClampNeg)) x10_108 (x10_108 + 1) := (by have hr_39 := hr_39.symm; have hr_52 := hr_52.symm; have hS_53 := hS_53.symm; subst hr_39 hr_52 hS_53; exact (iN c_18 (iN c_20 (iN c_40 (ip c_42 (iN c_56 rfl))))))
                                  exact ih_108 S_53 x1_108 x3_108 x4_108 x5_108 x6_108 x7_108 (r_52 + (S_53 145 (((6 * (x6_108 + 1)) + x10_108)).toNatClampNeg)) x10_108 (x10_108 + 1) (by have hr_39 := hr_39.symm; have hr_52 := hr_52.symm; have hS_53 := hS_53.symm; subst hr_39 hr_52 hS_53; exact (sn (nr (nr (sp (sn (nr (sn (sn hs_108 c_18) c_20)) c_40) c_42))) c_56)) (fun q hq => hex_108 q (hq.trans he_58.symm)) _ _ hP hS ls (lv_sub hl [4, 5, 6, 7, 8, 9, 10, 1, 2, 0] rfl)
                    refine hLp_108 ((fu 0 (T_89 127 0))) T_89 x1_89 x3_89 x4_89 x5_89 x6_89 x7_89 (-1000000) 0 0 (nl (sn hs_89 c_16)) (fun q_108 hq_108 H locs hP hS ls hl => ?_) _ _ hP hS ls (lv_sub hl [3, 4, 5, 6, 7, 8, 9, 2, 1, 0] rfl)
                    refine lv_aload_n hx hb dX11_route_221 rfl (lv_at hl 0 rfl) ?_
                    refine xget (ref := "AbsentPraiseModel") (T := TX11) (v := .ref (X.2.1 145)) hC hP hin_X11 xo_X11 rfl 38 (by decide) (List.mem_of_getElem? (i := 4) rfl) rfl rfl dX11_route_222 ?_
                    refine lv_bipush (v := 6) hx hb dX11_route_225 (by decide) ?_
                    refine lv_iload hx hb dX11_route_227 (lv_at hl 5 rfl) ?_
                    refine lv_imul hx hb dX11_route_229 ?_
                    refine lv_iload hx hb dX11_route_230 (lv_at hl 6 rfl) ?_
                    refine lv_iadd hx hb dX11_route_232 ?_
                    refine lv_iload hx hb dX11_route_233 (lv_at hl 7 rfl) ?_
                    have hn_59 : vp_in ((6 * x6_89) + x7_89) 54 := (by have hq_108 := hq_108.symm; subst hq_108; exact nl (nr (sn hs_89 c_16)))
                    refine xiast hC hP hS rfl hn_59 dX11_route_235 (fun S_60 hS_60 H locs hP hS => ?_)
                    refine lv_iload hx hb dX11_route_236 (lv_at hl 5 rfl) ?_
                    refine lv_if_ne (tgt := 259) hx hb dX11_route_238 (by decide) (fun c_61 => ?_) (fun c_61 => ?_)
                    · refine lv_iload hx hb dX11_route_259 (lv_at hl 3 rfl) ?_
                      refine lv_istore (lv' := [(4, .int x4_89), (0, .ref (X.2.1 127)), (1, .int x1_89), (3, .int x3_89), (5, .int x5_89), (6, .int x6_89), (7, .int x7_89), (8, .int q_108.1), (9, .int q_108.2.1)]) hx hb dX11_route_261 hl (by decide) rfl (fun ls hl => ?_)
                      refine lv_iload hx hb dX11_route_263 (lv_at hl 5 rfl) ?_
                      refine lv_if_ne (tgt := 286) hx hb dX11_route_265 (by decide) (fun _ => ?_) (fun c => absurd c c_61)
                      refine lv_iload hx hb dX11_route_286 (lv_at hl 4 rfl) ?_
                      refine lv_istore (lv' := [(5, .int x5_89), (4, .int x4_89), (0, .ref (X.2.1 127)), (1, .int x1_89), (3, .int x3_89), (6, .int x6_89), (7, .int x7_89), (8, .int q_108.1), (9, .int q_108.2.1)]) hx hb dX11_route_288 hl (by decide) rfl (fun ls hl => ?_)
                      refine lv_iinc (v := (x7_89 + 1)) (lv' := [(7, .int (x7_89 + 1)), (5, .int x5_89), (4, .int x4_89), (0, .ref (X.2.1 127)), (1, .int x1_89), (3, .int x3_89), (6, .int x6_89), (8, .int q_108.1), (9, .int q_108.2.1)]) hx hb dX11_route_290 hl (k := 6) rfl rfl (by decide) rfl (fun ls hl => ?_)
                      refine lv_goto (tgt := 89) hx hb dX11_route_293 (by decide) ?_
                      have he_62 : f_X11_route_L89 (n + 1) T_89 x1_89 x3_89 x4_89 x5_89 x6_89 x7_89 = f_X11_route_L89 n S_60 x1_89 x3_89 x4_89 x5_89 x6_89 (x7_89 + 1) := (by have hq_108 := hq_108.symm; have hS_60 := hS_60.symm; subst hq_108 hS_60; exact (iN c_16 (iN c_61 rfl)))
                      exact ih_89 S_60 x1_89 x3_89 x4_89 x5_89 x6_89 (x7_89 + 1) (by have hq_108 := hq_108.symm; have hS_60 := hS_60.symm; subst hq_108 hS_60; exact (sn (nr (nr (sn hs_89 c_16))) c_61)) (fun q hq => hex_89 q (hq.trans he_62.symm)) _ _ hP hS ls (lv_sub hl [3, 4, 5, 2, 1, 6, 0] rfl)
                    · refine lv_iload hx hb dX11_route_241 (lv_at hl 6 rfl) ?_
                      refine lv_aload_n hx hb dX11_route_243 rfl (lv_at hl 0 rfl) ?_
                      refine xget (ref := "AbsentPraiseModel") (T := TX11) (v := .ref (X.2.1 131)) hC hP hin_X11 xo_X11 rfl 8 (by decide) (List.mem_of_getElem? (i := 8) rfl) rfl rfl dX11_route_244 ?_
                      refine lv_iconst (v := 2) hx hb dX11_route_247 (by decide) ?_
                      refine lv_iload_n hx hb dX11_route_248 rfl (lv_at hl 1 rfl) ?_
                      refine lv_iadd hx hb dX11_route_249 ?_
                      have hn_63 : vp_in (2 + x1_89) 72 := (by have hq_108 := hq_108.symm; have hS_60 := hS_60.symm; subst hq_108 hS_60; exact nl (sp (nr (nr (sn hs_89 c_16))) c_61))
                      refine xiald hC hP rfl hn_63 dX11_route_250 ?_
                      refine lv_icmp_ne (tgt := 259) hx hb dX11_route_251 (by decide) (fun c_64 => ?_) (fun c_64 => ?_)
                      · refine lv_iload hx hb dX11_route_259 (lv_at hl 3 rfl) ?_
                        refine lv_istore (lv' := [(4, .int x4_89), (0, .ref (X.2.1 127)), (1, .int x1_89), (3, .int x3_89), (5, .int x5_89), (6, .int x6_89), (7, .int x7_89), (8, .int q_108.1), (9, .int q_108.2.1)]) hx hb dX11_route_261 hl (by decide) rfl (fun ls hl => ?_)
                        refine lv_iload hx hb dX11_route_263 (lv_at hl 5 rfl) ?_
                        refine lv_if_ne (tgt := 286) hx hb dX11_route_265 (by decide) (fun c => absurd c_61 c) (fun _ => ?_)
                        refine lv_iload hx hb dX11_route_268 (lv_at hl 6 rfl) ?_
                        refine lv_aload_n hx hb dX11_route_270 rfl (lv_at hl 1 rfl) ?_
                        refine xget (ref := "AbsentPraiseModel") (T := TX11) (v := .ref (X.2.1 131)) hC hP hin_X11 xo_X11 rfl 8 (by decide) (List.mem_of_getElem? (i := 8) rfl) rfl rfl dX11_route_271 ?_
                        refine lv_iconst (v := 2) hx hb dX11_route_274 (by decide) ?_
                        refine lv_iload_n hx hb dX11_route_275 rfl (lv_at hl 2 rfl) ?_
                        refine lv_iadd hx hb dX11_route_276 ?_
                        refine xiald hC hP rfl hn_63 dX11_route_277 ?_
                        refine lv_icmp_ne (tgt := 286) hx hb dX11_route_278 (by decide) (fun _ => ?_) (fun c => absurd c c_64)
                        refine lv_iload hx hb dX11_route_286 (lv_at hl 4 rfl) ?_
                        refine lv_istore (lv' := [(5, .int x5_89), (4, .int x4_89), (0, .ref (X.2.1 127)), (1, .int x1_89), (3, .int x3_89), (6, .int x6_89), (7, .int x7_89), (8, .int q_108.1), (9, .int q_108.2.1)]) hx hb dX11_route_288 hl (by decide) rfl (fun ls hl => ?_)
                        refine lv_iinc (v := (x7_89 + 1)) (lv' := [(7, .int (x7_89 + 1)), (5, .int x5_89), (4, .int x4_89), (0, .ref (X.2.1 127)), (1, .int x1_89), (3, .int x3_89), (6, .int x6_89), (8, .int q_108.1), (9, .int q_108.2.1)]) hx hb dX11_route_290 hl (k := 6) rfl rfl (by decide) rfl (fun ls hl => ?_)
                        refine lv_goto (tgt := 89) hx hb dX11_route_293 (by decide) ?_
                        have he_65 : f_X11_route_L89 (n + 1) T_89 x1_89 x3_89 x4_89 x5_89 x6_89 x7_89 = f_X11_route_L89 n S_60 x1_89 x3_89 x4_89 x5_89 x6_89 (x7_89 + 1) := (by have hq_108 := hq_108.symm; have hS_60 := hS_60.symm; subst hq_108 hS_60; exact (iN c_16 (ip c_61 (iN c_64 rfl))))
                        exact ih_89 S_60 x1_89 x3_89 x4_89 x5_89 x6_89 (x7_89 + 1) (by have hq_108 := hq_108.symm; have hS_60 := hS_60.symm; subst hq_108 hS_60; exact (sn (nr (sp (nr (nr (sn hs_89 c_16))) c_61)) c_64)) (fun q hq => hex_89 q (hq.trans he_65.symm)) _ _ hP hS ls (lv_sub hl [3, 4, 5, 2, 1, 6, 0] rfl)
                      · refine lv_iload hx hb dX11_route_254 (lv_at hl 8 rfl) ?_
                        refine lv_goto (tgt := 261) hx hb dX11_route_256 (by decide) ?_
                        refine lv_istore (lv' := [(4, .int q_108.2.1), (0, .ref (X.2.1 127)), (1, .int x1_89), (3, .int x3_89), (5, .int x5_89), (6, .int x6_89), (7, .int x7_89), (8, .int q_108.1), (9, .int q_108.2.1)]) hx hb dX11_route_261 hl (by decide) rfl (fun ls hl => ?_)
                        refine lv_iload hx hb dX11_route_263 (lv_at hl 5 rfl) ?_
                        refine lv_if_ne (tgt := 286) hx hb dX11_route_265 (by decide) (fun c => absurd c_61 c) (fun _ => ?_)
                        refine lv_iload hx hb dX11_route_268 (lv_at hl 6 rfl) ?_
                        refine lv_aload_n hx hb dX11_route_270 rfl (lv_at hl 1 rfl) ?_
                        refine xget (ref := "AbsentPraiseModel") (T := TX11) (v := .ref (X.2.1 131)) hC hP hin_X11 xo_X11 rfl 8 (by decide) (List.mem_of_getElem? (i := 8) rfl) rfl rfl dX11_route_271 ?_
                        refine lv_iconst (v := 2) hx hb dX11_route_274 (by decide) ?_
                        refine lv_iload_n hx hb dX11_route_275 rfl (lv_at hl 2 rfl) ?_
                        refine lv_iadd hx hb dX11_route_276 ?_
                        refine xiald hC hP rfl hn_63 dX11_route_277 ?_
                        refine lv_icmp_ne (tgt := 286) hx hb dX11_route_278 (by decide) (fun c => absurd c_64 c) (fun _ => ?_)
                        refine lv_iload hx hb dX11_route_281 (lv_at hl 7 rfl) ?_
                        refine lv_goto (tgt := 288) hx hb dX11_route_283 (by decide) ?_
                        refine lv_istore (lv' := [(5, .int q_108.1), (4, .int q_108.2.1), (0, .ref (X.2.1 127)), (1, .int x1_89), (3, .int x3_89), (6, .int x6_89), (7, .int x7_89), (8, .int q_108.1), (9, .int q_108.2.1)]) hx hb dX11_route_288 hl (by decide) rfl (fun ls hl => ?_)
                        refine lv_iinc (v := (x7_89 + 1)) (lv' := [(7, .int (x7_89 + 1)), (5, .int q_108.1), (4, .int q_108.2.1), (0, .ref (X.2.1 127)), (1, .int x1_89), (3, .int x3_89), (6, .int x6_89), (8, .int q_108.1), (9, .int q_108.2.1)]) hx hb dX11_route_290 hl (k := 6) rfl rfl (by decide) rfl (fun ls hl => ?_)
                        refine lv_goto (tgt := 89) hx hb dX11_route_293 (by decide) ?_
                        have he_66 : f_X11_route_L89 (n + 1) T_89 x1_89 x3_89 x4_89 x5_89 x6_89 x7_89 = f_X11_route_L89 n S_60 x1_89 x3_89 q_108.2.1 q_108.1 x6_89 (x7_89 + 1) := (by have hq_108 := hq_108.symm; have hS_60 := hS_60.symm; subst hq_108 hS_60; exact (iN c_16 (ip c_61 (ip c_64 rfl))))
                        exact ih_89 S_60 x1_89 x3_89 q_108.2.1 q_108.1 x6_89 (x7_89 + 1) (by have hq_108 := hq_108.symm; have hS_60 := hS_60.symm; subst hq_108 hS_60; exact (sp (nr (sp (nr (nr (sn hs_89 c_16))) c_61)) c_64)) (fun q hq => hex_89 q (hq.trans he_66.symm)) _ _ hP hS ls (lv_sub hl [3, 4, 5, 2, 1, 6, 0] rfl)
              refine hLp_89 ((fu 0 (T_81 127 0))) T_81 x1_81 x3_81 x4_81 x5_81 x6_81 0 (nl (sn hs_81 c_14)) (fun q_89 hq_89 H locs hP hS ls hl => ?_) _ _ hP hS ls (lv_sub hl [1, 2, 3, 4, 5, 6, 0] rfl)
              refine lv_iinc (v := (x6_81 + (-1))) (lv' := [(6, .int (x6_81 + (-1))), (0, .ref (X.2.1 127)), (1, .int x1_81), (3, .int x3_81), (4, .int q_89.1), (5, .int q_89.2.1)]) hx hb dX11_route_296 hl (k := 5) rfl rfl (by decide) rfl (fun ls hl => ?_)
              refine lv_goto (tgt := 81) hx hb dX11_route_299 (by decide) ?_
              have he_67 : f_X11_route_L81 (n + 1) T_81 x1_81 x3_81 x4_81 x5_81 x6_81 = f_X11_route_L81 n q_89.2.2 x1_81 x3_81 q_89.1 q_89.2.1 (x6_81 + (-1)) := (by have hq_89 := hq_89.symm; subst hq_89; exact (iN c_14 rfl))
              exact ih_81 q_89.2.2 x1_81 x3_81 q_89.1 q_89.2.1 (x6_81 + (-1)) (by have hq_89 := hq_89.symm; subst hq_89; exact (nr (sn hs_81 c_14))) (fun q hq => hex_81 q (hq.trans he_67.symm)) _ _ hP hS ls (lv_sub hl [1, 2, 3, 4, 5, 0] rfl)
        refine hLp_81 ((fd (p1 - 1))) q_43 p0 p2 0 (-1000000) (p1 - 1) (by have hr_1 := hr_1.symm; have hr_3 := hr_3.symm; have hr_5 := hr_5.symm; have hS_8 := hS_8.symm; have hq_43 := hq_43.symm; subst hr_1 hr_3 hr_5 hS_8 hq_43; exact nl (nr (nr (sn (sn (sn hs c_2) c_4) c_6)))) (fun q_81 hq_81 H locs hP hS ls hl => ?_) _ _ hP hS ls (lv_sub hl [3, 4, 6, 2, 1, 0] rfl)
        refine lv_iload_n hx hb dX11_route_302 rfl (lv_at hl 0 rfl) ?_
        refine lv_if_ne (tgt := 315) hx hb dX11_route_303 (by decide) (fun c_68 => ?_) (fun c_68 => ?_)
        · refine lv_iload hx hb dX11_route_315 (lv_at hl 1 rfl) ?_
          exact xret_iW hC hP hS hb hr (by simp only [f_X11_route, ← hr_1, ← hr_3, ← hr_5, ← hS_8, ← hq_43, ← hq_81, if_neg c_2, if_neg c_4, if_neg c_6, if_neg c_68]) dX11_route_317 hlocks
        · refine lv_iload hx hb dX11_route_306 (lv_at hl 2 rfl) ?_
          refine lv_sipush (v := 10000) hx hb dX11_route_308 (by decide) ?_
          refine lv_iadd hx hb dX11_route_311 ?_
          refine lv_goto (tgt := 317) hx hb dX11_route_312 (by decide) ?_
          exact xret_iW hC hP hS hb hr (by simp only [f_X11_route, ← hr_1, ← hr_3, ← hr_5, ← hS_8, ← hq_43, ← hq_81, if_neg c_2, if_neg c_4, if_neg c_6, if_pos c_68]) dX11_route_317 hlocks
      · refine lv_ldc (v := (-1000000002)) hx hb hown (hts (.constant RX11 91 (-1000000002)) (List.mem_of_getElem? (i := 3) rfl)) dX11_route_33 ?_
        exact xret_iW hC hP hS hb hr (by simp only [f_X11_route, ← hr_1, ← hr_3, ← hr_5, if_neg c_2, if_neg c_4, if_pos c_6]) dX11_route_35 hlocks
  · refine lv_ldc (v := (-1000000001)) hx hb hown (hts (.constant RX11 230 (-1000000001)) (List.mem_of_getElem? (i := 1) rfl)) dX11_route_8 ?_
    exact xret_iW hC hP hS hb hr (by simp only [f_X11_route, ← hr_1, if_pos c_2]) dX11_route_10 hlocks
