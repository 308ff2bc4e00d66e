set_option linter.all false
/-! contracts: X11_tries, X11_warm, X11_bestRoom -/
theorem hd_X11_tries : yX11_tries.cls = RX11 ∧ yX11_tries.cls ≠ "java/lang/invoke/MethodHandle" ∧ yX11_tries.cls ≠ "java/lang/invoke/VarHandle" ∧ (parseMethodDescriptor yX11_tries.desc).map (fun d => d.parameters.length) = some 0 := by decide +kernel
set_option maxHeartbeats 4000000 in
set_option maxRecDepth 100000 in
theorem k_X11_tries (l : Launch) (X : xX) (S : xS) (hs : s_X11_tries S) : Met l yX11_tries wsX11_tries ({ frames := 0, cells := 0, slots := 0, locals := 0 } : Room) (va_Pc [.ref (X.2.1 127)] (xI X S)) (va_Qv (fun u : xS => u = (f_X11_tries S)) (xI X) (xA X)) 0 0 (xA X) := by
  refine Met.ofW (cc := cX11_tries) (maxL := 2) (ret := none) (by decide +kernel) rfl ?_
  intro p e s m args below meth c s₁ B hml hv
  obtain ⟨rfl, hP, hK, hN, hJ⟩ := hv
  have hx := B.exec
  have hb := B.bytes
  have hr := B.returns
  have hts := atoms_spec (ws := wsX11_tries) B.pre
  have hown : s.vm.findClass RX11 = some m.cls := findClass_of_methodNamed B.named
  have hlocks := B.notSynchronized
  have hC : xC X p m c cX11_tries 2 s _ wsX11_tries RX11 := ⟨⟨hx, hb, hml, hown, hts⟩, hK, hN, hJ⟩
  have hS : va_S (xA X) s.heap s.heap [] := va_S.rf
  have hin_X11 : ∀ w ∈ u_ws RX11 TX11 41, w ∈ wsX11_tries := by decide +kernel
  have hl := lv_entry ([.ref (X.2.1 127)]) (n := 2) (Nat.le_of_ble_eq_true rfl)
  rw [lg_entry_eq]
  generalize (lg_sl ([.ref (X.2.1 127)]) ++ List.replicate (2 - (lg_sl ([.ref (X.2.1 127)])).length) Slot.unset).toArray = ls at hl ⊢
  have hl : lv_has ls 2 [(0, .ref (X.2.1 127))] := hl
  refine lv_iconst (v := 0) hx hb dX11_tries_0 (by decide) ?_
  refine lv_istore_n (lv' := [(1, .int 0), (0, .ref (X.2.1 127))]) hx hb dX11_tries_1 rfl hl (by decide) rfl (fun ls hl => ?_)
  have hLp_2 : ∀ (n : Nat) (T_2 : xS) (x1_2 : Int32), s_X11_tries_L2 n T_2 x1_2 → (∀ q : xS, q = f_X11_tries_L2 n T_2 x1_2 → (∀ (H : Heap) (locs : List Loc), va_P X.1 vwCl (xW X q) H → va_S (xA X) s.heap H locs → ∀ (ls : Array Slot), lv_has ls 2 [] → W p l e ({ frames := 0, cells := 0, slots := 0, locals := 0 } : Room) s m ([.ref (X.2.1 127)] : List Value).toArray below meth c H locs 0 0 (MQ below (va_Qv (fun u : xS => u = (f_X11_tries S)) (xI X) (xA X)) ([.ref (X.2.1 127)] : List Value).toArray s 0 0 (xA X)) (F0 m 26 ls []))) → ∀ (H : Heap) (locs : List Loc), va_P X.1 vwCl (xW X T_2) H → va_S (xA X) s.heap H locs → ∀ (ls : Array Slot), lv_has ls 2 [(0, .ref (X.2.1 127)), (1, .int x1_2)] → W p l e ({ frames := 0, cells := 0, slots := 0, locals := 0 } : Room) s m ([.ref (X.2.1 127)] : List Value).toArray below meth c H locs 0 0 (MQ below (va_Qv (fun u : xS => u = (f_X11_tries S)) (xI X) (xA X)) ([.ref (X.2.1 127)] : List Value).toArray s 0 0 (xA X)) (F0 m 2 ls []) := by
    intro n
    induction n with
    | zero => intro T_2 x1_2 hs; exact hs.elim
    | succ n ih_2 =>
      intro T_2 x1_2 hs_2 hex_2 H locs hP hS ls hl
      refine lv_iload_n hx hb dX11_tries_2 rfl (lv_at hl 1 rfl) ?_
      refine lv_bipush (v := 72) hx hb dX11_tries_3 (by decide) ?_
      refine lv_icmp_ge (tgt := 26) hx hb dX11_tries_5 (by decide) (fun c_1 => ?_) (fun c_1 => ?_)
      · have he_2 : f_X11_tries_L2 (n + 1) T_2 x1_2 = T_2 := ((ip c_1 rfl))
        exact hex_2 _ he_2.symm _ _ hP hS ls (lv_sub hl [] rfl)
      · refine lv_aload_n hx hb dX11_tries_8 rfl (lv_at hl 0 rfl) ?_
        refine xget (ref := "AbsentPraiseModel") (T := TX11) (v := .ref (X.2.1 132)) hC hP hin_X11 xo_X11 rfl 9 (by decide) (List.mem_of_getElem? (i := 1) rfl) rfl rfl dX11_tries_9 ?_
        refine lv_iload_n hx hb dX11_tries_12 rfl (lv_at hl 1 rfl) ?_
        refine lv_aload_n hx hb dX11_tries_13 rfl (lv_at hl 0 rfl) ?_
        refine xget (ref := "AbsentPraiseModel") (T := TX11) (v := .ref (X.2.1 131)) hC hP hin_X11 xo_X11 rfl 8 (by decide) (List.mem_of_getElem? (i := 2) rfl) rfl rfl dX11_tries_14 ?_
        refine lv_iload_n hx hb dX11_tries_17 rfl (lv_at hl 1 rfl) ?_
        have hn_3 : vp_in x1_2 72 := (nl (sn hs_2 c_1))
        refine xiald hC hP rfl hn_3 dX11_tries_18 ?_
        refine xiast hC hP hS rfl hn_3 dX11_tries_19 (fun S_4 hS_4 H locs hP hS => ?_)
        refine lv_iinc (v := (x1_2 + 1)) (lv' := [(1, .int (x1_2 + 1)), (0, .ref (X.2.1 127))]) hx hb dX11_tries_20 hl (k := 1) rfl rfl (by decide) rfl (fun ls hl => ?_)
        refine lv_goto (tgt := 2) hx hb dX11_tries_23 (by decide) ?_
        have he_5 : f_X11_tries_L2 (n + 1) T_2 x1_2 = f_X11_tries_L2 n S_4 (x1_2 + 1) := (by have hS_4 := hS_4.symm; subst hS_4; exact (iN c_1 rfl))
        exact ih_2 S_4 (x1_2 + 1) (by have hS_4 := hS_4.symm; subst hS_4; exact (nr (sn hs_2 c_1))) (fun q hq => hex_2 q (hq.trans he_5.symm)) _ _ hP hS ls (lv_sub hl [1, 0] rfl)
  refine hLp_2 ((fu 0 72)) S 0 (nl hs) (fun q_2 hq_2 H locs hP hS ls hl => ?_) _ _ hP hS ls (lv_sub hl [1, 0] rfl)
  exact xret_v hC hP hS hb hr (by simp only [f_X11_tries, ← hq_2]) dX11_tries_26 hlocks
theorem hd_X11_warm : yX11_warm.cls = RX11 ∧ yX11_warm.cls ≠ "java/lang/invoke/MethodHandle" ∧ yX11_warm.cls ≠ "java/lang/invoke/VarHandle" ∧ (parseMethodDescriptor yX11_warm.desc).map (fun d => d.parameters.length) = some 2 := by decide +kernel
set_option maxHeartbeats 4000000 in
set_option maxRecDepth 100000 in
theorem k_X11_warm (l : Launch) (X : xX) (S : xS) (p0 : Int32) (p1 : Int32) (hs : s_X11_warm S p0 p1) : Met l yX11_warm wsX11_warm ({ frames := 4, cells := 0, slots := 0, locals := 92 } : Room) (va_Pc [.ref (X.2.1 127), .int p0, .int p1] (xI X S)) (va_Qi (fun (r : Int32) (u : xS) => r = (f_X11_warm S p0 p1).1 ∧ u = (f_X11_warm S p0 p1).2) (xI X) (xA X)) 0 0 (xA X) := by
  refine Met.ofW (cc := cX11_warm) (maxL := 4) (ret := (some .int)) (by decide +kernel) rfl ?_
  intro p e s m args below meth c s₁ B hml hv
  obtain ⟨rfl, hP, hK, hN, hJ⟩ := hv
  have hx := B.exec
  have hb := B.bytes
  have hr := B.returns
  have hts := atoms_spec (ws := wsX11_warm) B.pre
  have hown : s.vm.findClass RX11 = some m.cls := findClass_of_methodNamed B.named
  have hlocks := B.notSynchronized
  have hC : xC X p m c cX11_warm 4 s _ wsX11_warm RX11 := ⟨⟨hx, hb, hml, hown, hts⟩, hK, hN, hJ⟩
  have hS : va_S (xA X) s.heap s.heap [] := va_S.rf
  have hin_X11 : ∀ w ∈ u_ws RX11 TX11 41, w ∈ wsX11_warm := by decide +kernel
  have hl := lv_entry ([.ref (X.2.1 127), .int p0, .int p1]) (n := 4) (Nat.le_of_ble_eq_true rfl)
  rw [lg_entry_eq]
  generalize (lg_sl ([.ref (X.2.1 127), .int p0, .int p1]) ++ List.replicate (4 - (lg_sl ([.ref (X.2.1 127), .int p0, .int p1])).length) Slot.unset).toArray = ls at hl ⊢
  have hl : lv_has ls 4 [(0, .ref (X.2.1 127)), (1, .int p0), (2, .int p1)] := hl
  refine lv_aload_n hx hb dX11_warm_0 rfl (lv_at hl 0 rfl) ?_
  refine lv_iload_n hx hb dX11_warm_1 rfl (lv_at hl 1 rfl) ?_
  refine xcV_iR (b := 127) (As := [.int p0]) (rest := []) hC hP hS (k_X11_isPerson l X S p0) (cwV 1 hts gX11_warm_X11_isPerson rfl rfl rfl hd_X11_isPerson ⟨Nat.le_of_ble_eq_true rfl, Nat.le_of_ble_eq_true rfl⟩) xo_X11 rfl rfl rfl hl.1 (Nat.le_of_ble_eq_true rfl) dX11_warm_2 (fun r_1 hp_r_1 H locs hP hS => ?_)
  obtain ⟨hr_1, hzr_1⟩ := hp_r_1
  refine lv_if_ne (tgt := 11) hx hb dX11_warm_5 (by decide) (fun c_2 => ?_) (fun c_2 => ?_)
  · refine lv_iload_n hx hb dX11_warm_11 rfl (lv_at hl 2 rfl) ?_
    refine lv_i2l (v := (p1 : Int32).toInt64) hx hb dX11_warm_12 rfl ?_
    refine lv_lconst (v := 0) hx hb dX11_warm_13 (by decide) ?_
    refine lv_ldc2 (v := 100) hx hb hown (hts (.constantLong RX11 268 (100)) (List.mem_of_getElem? (i := 2) rfl)) dX11_warm_14 ?_
    refine xcS_iR (As := [.long (p1 : Int32).toInt64, .long 0, .long 100]) (rest := []) hC hP hS (k_X11_in l X S (p1 : Int32).toInt64 0 100) (va_cwS 3 hts gX11_warm_X11_in rfl rfl rfl hs_X11_in ⟨Nat.le_of_ble_eq_true rfl, Nat.le_of_ble_eq_true rfl⟩) rfl rfl hl.1 (Nat.le_of_ble_eq_true rfl) dX11_warm_17 (fun r_3 hp_r_3 H locs hP hS => ?_)
    obtain ⟨hr_3, hzr_3⟩ := hp_r_3
    refine lv_if_ne (tgt := 26) hx hb dX11_warm_20 (by decide) (fun c_4 => ?_) (fun c_4 => ?_)
    · refine lv_aload_n hx hb dX11_warm_26 rfl (lv_at hl 0 rfl) ?_
      have hn_5 : s_X11_tries S := (by have hr_1 := hr_1.symm; have hr_3 := hr_3.symm; subst hr_1 hr_3; exact nl (sn (sn hs c_2) c_4))
      refine xcV_vW (b := 127) (As := []) (rest := []) hC hP hS (k_X11_tries l X S hn_5) (cwV 0 hts gX11_warm_X11_tries rfl rfl rfl hd_X11_tries ⟨Nat.le_of_ble_eq_true rfl, Nat.le_of_ble_eq_true rfl⟩) xo_X11 rfl rfl rfl hl.1 (Nat.le_of_ble_eq_true rfl) dX11_warm_27 (fun S_6 hS_6 H locs hP hS => ?_)
      refine lv_iconst (v := 0) hx hb dX11_warm_30 (by decide) ?_
      refine lv_istore_n (lv' := [(3, .int 0), (0, .ref (X.2.1 127)), (1, .int p0), (2, .int p1)]) hx hb dX11_warm_31 rfl hl (by decide) rfl (fun ls hl => ?_)
      have hLp_32 : ∀ (n : Nat) (T_32 : xS) (x1_32 : Int32) (x2_32 : Int32) (x3_32 : Int32), s_X11_warm_L32 n T_32 x1_32 x2_32 x3_32 → (∀ q : xS, q = f_X11_warm_L32 n T_32 x1_32 x2_32 x3_32 → (∀ (H : Heap) (locs : List Loc), va_P X.1 vwCl (xW X q) H → va_S (xA X) s.heap H locs → ∀ (ls : Array Slot), lv_has ls 4 [(0, .ref (X.2.1 127)), (1, .int x1_32)] → W p l e ({ frames := 4, cells := 0, slots := 0, locals := 92 } : Room) s m ([.ref (X.2.1 127), .int p0, .int p1] : List Value).toArray below meth c H locs 0 0 (MQ below (va_Qi (fun (r : Int32) (u : xS) => r = (f_X11_warm S p0 p1).1 ∧ u = (f_X11_warm S p0 p1).2) (xI X) (xA X)) ([.ref (X.2.1 127), .int p0, .int p1] : List Value).toArray s 0 0 (xA X)) (F0 m 51 ls []))) → ∀ (H : Heap) (locs : List Loc), va_P X.1 vwCl (xW X T_32) H → va_S (xA X) s.heap H locs → ∀ (ls : Array Slot), lv_has ls 4 [(0, .ref (X.2.1 127)), (1, .int x1_32), (2, .int x2_32), (3, .int x3_32)] → W p l e ({ frames := 4, cells := 0, slots := 0, locals := 92 } : Room) s m ([.ref (X.2.1 127), .int p0, .int p1] : List Value).toArray below meth c H locs 0 0 (MQ below (va_Qi (fun (r : Int32) (u : xS) => r = (f_X11_warm S p0 p1).1 ∧ u = (f_X11_warm S p0 p1).2) (xI X) (xA X)) ([.ref (X.2.1 127), .int p0, .int p1] : List Value).toArray s 0 0 (xA X)) (F0 m 32 ls []) := by
        intro n
        induction n with
        | zero => intro T_32 x1_32 x2_32 x3_32 hs; exact hs.elim
        | succ n ih_32 =>
          intro T_32 x1_32 x2_32 x3_32 hs_32 hex_32 H locs hP hS ls hl
          refine lv_iload_n hx hb dX11_warm_32 rfl (lv_at hl 3 rfl) ?_
          refine lv_iload_n hx hb dX11_warm_33 rfl (lv_at hl 2 rfl) ?_
          refine lv_icmp_ge (tgt := 51) hx hb dX11_warm_34 (by decide) (fun c_7 => ?_) (fun c_7 => ?_)
          · have he_8 : f_X11_warm_L32 (n + 1) T_32 x1_32 x2_32 x3_32 = T_32 := ((ip c_7 rfl))
            exact hex_32 _ he_8.symm _ _ hP hS ls (lv_sub hl [0, 1] rfl)
          · refine lv_aload_n hx hb dX11_warm_37 rfl (lv_at hl 0 rfl) ?_
            refine lv_aload_n hx hb dX11_warm_38 rfl (lv_at hl 0 rfl) ?_
            refine xget (ref := "AbsentPraiseModel") (T := TX11) (v := .ref (X.2.1 132)) hC hP hin_X11 xo_X11 rfl 9 (by decide) (List.mem_of_getElem? (i := 4) rfl) rfl rfl dX11_warm_39 ?_
            have hn_9 : s_X11_passes T_32 132 := (nl (sn hs_32 c_7))
            refine xcV_vW (b := 127) (As := [.ref (X.2.1 132)]) (rest := []) hC hP hS (k_X11_passes l X T_32 132 rfl hn_9) (cwV 1 hts gX11_warm_X11_passes rfl rfl rfl hd_X11_passes ⟨Nat.le_of_ble_eq_true rfl, Nat.le_of_ble_eq_true rfl⟩) xo_X11 rfl rfl rfl hl.1 (Nat.le_of_ble_eq_true rfl) dX11_warm_42 (fun S_10 hS_10 H locs hP hS => ?_)
            refine lv_iinc (v := (x3_32 + 1)) (lv' := [(3, .int (x3_32 + 1)), (0, .ref (X.2.1 127)), (1, .int x1_32), (2, .int x2_32)]) hx hb dX11_warm_45 hl (k := 3) rfl rfl (by decide) rfl (fun ls hl => ?_)
            refine lv_goto (tgt := 32) hx hb dX11_warm_48 (by decide) ?_
            have he_11 : f_X11_warm_L32 (n + 1) T_32 x1_32 x2_32 x3_32 = f_X11_warm_L32 n S_10 x1_32 x2_32 (x3_32 + 1) := (by have hS_10 := hS_10.symm; subst hS_10; exact (iN c_7 rfl))
            exact ih_32 S_10 x1_32 x2_32 (x3_32 + 1) (by have hS_10 := hS_10.symm; subst hS_10; exact (nr (sn hs_32 c_7))) (fun q hq => hex_32 q (hq.trans he_11.symm)) _ _ hP hS ls (lv_sub hl [1, 2, 3, 0] rfl)
      refine hLp_32 ((fu 0 p1)) S_6 p0 p1 0 (by have hr_1 := hr_1.symm; have hr_3 := hr_3.symm; have hS_6 := hS_6.symm; subst hr_1 hr_3 hS_6; exact nl (nr (sn (sn hs c_2) c_4))) (fun q_32 hq_32 H locs hP hS ls hl => ?_) _ _ hP hS ls (lv_sub hl [1, 2, 3, 0] rfl)
      refine lv_aload_n hx hb dX11_warm_51 rfl (lv_at hl 0 rfl) ?_
      refine xget (ref := "AbsentPraiseModel") (T := TX11) (v := .ref (X.2.1 132)) hC hP hin_X11 xo_X11 rfl 9 (by decide) (List.mem_of_getElem? (i := 4) rfl) rfl rfl dX11_warm_52 ?_
      refine lv_bipush (v := 9) hx hb dX11_warm_55 (by decide) ?_
      refine lv_iload_n hx hb dX11_warm_57 rfl (lv_at hl 1 rfl) ?_
      refine lv_iadd hx hb dX11_warm_58 ?_
      have hn_12 : vp_in (9 + p0) 72 := (by have hr_1 := hr_1.symm; have hr_3 := hr_3.symm; have hS_6 := hS_6.symm; have hq_32 := hq_32.symm; subst hr_1 hr_3 hS_6 hq_32; exact nl (nr (nr (sn (sn hs c_2) c_4))))
      refine xiald hC hP rfl hn_12 dX11_warm_59 ?_
      refine lv_sipush (v := 10000) hx hb dX11_warm_60 (by decide) ?_
      refine lv_iadd hx hb dX11_warm_63 ?_
      exact xret_iW hC hP hS hb hr (by simp only [f_X11_warm, ← hr_1, ← hr_3, ← hS_6, ← hq_32, if_neg c_2, if_neg c_4]) dX11_warm_64 hlocks
    · refine lv_ldc (v := (-1000000002)) hx hb hown (hts (.constant RX11 91 (-1000000002)) (List.mem_of_getElem? (i := 3) rfl)) dX11_warm_23 ?_
      exact xret_iW hC hP hS hb hr (by simp only [f_X11_warm, ← hr_1, ← hr_3, if_neg c_2, if_pos c_4]) dX11_warm_25 hlocks
  · refine lv_ldc (v := (-1000000001)) hx hb hown (hts (.constant RX11 230 (-1000000001)) (List.mem_of_getElem? (i := 1) rfl)) dX11_warm_8 ?_
    exact xret_iW hC hP hS hb hr (by simp only [f_X11_warm, ← hr_1, if_pos c_2]) dX11_warm_10 hlocks
theorem hd_X11_bestRoom : yX11_bestRoom.cls = RX11 ∧ yX11_bestRoom.cls ≠ "java/lang/invoke/MethodHandle" ∧ yX11_bestRoom.cls ≠ "java/lang/invoke/VarHandle" ∧ (parseMethodDescriptor yX11_bestRoom.desc).map (fun d => d.parameters.length) = some 3 := by decide +kernel
set_option maxHeartbeats 4000000 in
set_option maxRecDepth 100000 in
theorem k_X11_bestRoom (l : Launch) (X : xX) (S : xS) (p0 : Int32) (p1 : Int32) (p2 : Int32) (hs : s_X11_bestRoom S p0 p1 p2) : Met l yX11_bestRoom wsX11_bestRoom ({ frames := 4, cells := 0, slots := 0, locals := 92 } : Room) (va_Pc [.ref (X.2.1 127), .int p0, .int p1, .int p2] (xI X S)) (va_Qi (fun (r : Int32) (u : xS) => r = (f_X11_bestRoom S p0 p1 p2).1 ∧ u = (f_X11_bestRoom S p0 p1 p2).2) (xI X) (xA X)) 0 0 (xA X) := by
  refine Met.ofW (cc := cX11_bestRoom) (maxL := 8) (ret := (some .int)) (by decide +kernel) rfl ?_
  intro p e s m args below meth c s₁ B hml hv
  obtain ⟨rfl, hP, hK, hN, hJ⟩ := hv
  have hx := B.exec
  have hb := B.bytes
  have hr := B.returns
  have hts := atoms_spec (ws := wsX11_bestRoom) B.pre
  have hown : s.vm.findClass RX11 = some m.cls := findClass_of_methodNamed B.named
  have hlocks := B.notSynchronized
  have hC : xC X p m c cX11_bestRoom 8 s _ wsX11_bestRoom RX11 := ⟨⟨hx, hb, hml, hown, hts⟩, hK, hN, hJ⟩
  have hS : va_S (xA X) s.heap s.heap [] := va_S.rf
  have hin_X11 : ∀ w ∈ u_ws RX11 TX11 41, w ∈ wsX11_bestRoom := by decide +kernel
  have hl := lv_entry ([.ref (X.2.1 127), .int p0, .int p1, .int p2]) (n := 8) (Nat.le_of_ble_eq_true rfl)
  rw [lg_entry_eq]
  generalize (lg_sl ([.ref (X.2.1 127), .int p0, .int p1, .int p2]) ++ List.replicate (8 - (lg_sl ([.ref (X.2.1 127), .int p0, .int p1, .int p2])).length) Slot.unset).toArray = ls at hl ⊢
  have hl : lv_has ls 8 [(0, .ref (X.2.1 127)), (1, .int p0), (2, .int p1), (3, .int p2)] := hl
  refine lv_aload_n hx hb dX11_bestRoom_0 rfl (lv_at hl 0 rfl) ?_
  refine lv_iload_n hx hb dX11_bestRoom_1 rfl (lv_at hl 1 rfl) ?_
  refine xcV_iR (b := 127) (As := [.int p0]) (rest := []) hC hP hS (k_X11_isPerson l X S p0) (cwV 1 hts gX11_bestRoom_X11_isPerson rfl rfl rfl hd_X11_isPerson ⟨Nat.le_of_ble_eq_true rfl, Nat.le_of_ble_eq_true rfl⟩) xo_X11 rfl rfl rfl hl.1 (Nat.le_of_ble_eq_true rfl) dX11_bestRoom_2 (fun r_1 hp_r_1 H locs hP hS => ?_)
  obtain ⟨hr_1, hzr_1⟩ := hp_r_1
  refine lv_if_ne (tgt := 11) hx hb dX11_bestRoom_5 (by decide) (fun c_2 => ?_) (fun c_2 => ?_)
  · refine lv_iload_n hx hb dX11_bestRoom_11 rfl (lv_at hl 2 rfl) ?_
    refine lv_i2l (v := (p1 : Int32).toInt64) hx hb dX11_bestRoom_12 rfl ?_
    refine lv_lconst (v := 1) hx hb dX11_bestRoom_13 (by decide) ?_
    refine lv_ldc2 (v := 30) hx hb hown (hts (.constantLong RX11 273 (30)) (List.mem_of_getElem? (i := 2) rfl)) dX11_bestRoom_14 ?_
    refine xcS_iR (As := [.long (p1 : Int32).toInt64, .long 1, .long 30]) (rest := []) hC hP hS (k_X11_in l X S (p1 : Int32).toInt64 1 30) (va_cwS 3 hts gX11_bestRoom_X11_in rfl rfl rfl hs_X11_in ⟨Nat.le_of_ble_eq_true rfl, Nat.le_of_ble_eq_true rfl⟩) rfl rfl hl.1 (Nat.le_of_ble_eq_true rfl) dX11_bestRoom_17 (fun r_3 hp_r_3 H locs hP hS => ?_)
    obtain ⟨hr_3, hzr_3⟩ := hp_r_3
    refine lv_if_eq (tgt := 33) hx hb dX11_bestRoom_20 (by decide) (fun c_4 => ?_) (fun c_4 => ?_)
    · refine lv_ldc (v := (-1000000002)) hx hb hown (hts (.constant RX11 91 (-1000000002)) (List.mem_of_getElem? (i := 3) rfl)) dX11_bestRoom_33 ?_
      exact xret_iW hC hP hS hb hr (by simp only [f_X11_bestRoom, ← hr_1, ← hr_3, if_neg c_2, if_pos c_4]) dX11_bestRoom_35 hlocks
    · refine lv_iload_n hx hb dX11_bestRoom_23 rfl (lv_at hl 3 rfl) ?_
      refine lv_i2l (v := (p2 : Int32).toInt64) hx hb dX11_bestRoom_24 rfl ?_
      refine lv_lconst (v := 0) hx hb dX11_bestRoom_25 (by decide) ?_
      refine lv_lconst (v := 1) hx hb dX11_bestRoom_26 (by decide) ?_
      refine xcS_iR (As := [.long (p2 : Int32).toInt64, .long 0, .long 1]) (rest := []) hC hP hS (k_X11_in l X S (p2 : Int32).toInt64 0 1) (va_cwS 3 hts gX11_bestRoom_X11_in rfl rfl rfl hs_X11_in ⟨Nat.le_of_ble_eq_true rfl, Nat.le_of_ble_eq_true rfl⟩) rfl rfl hl.1 (Nat.le_of_ble_eq_true rfl) dX11_bestRoom_27 (fun r_5 hp_r_5 H locs hP hS => ?_)
      obtain ⟨hr_5, hzr_5⟩ := hp_r_5
      refine lv_if_ne (tgt := 36) hx hb dX11_bestRoom_30 (by decide) (fun c_6 => ?_) (fun c_6 => ?_)
      · refine lv_iconst (v := 0) hx hb dX11_bestRoom_36 (by decide) ?_
        refine lv_istore (lv' := [(4, .int 0), (0, .ref (X.2.1 127)), (1, .int p0), (2, .int p1), (3, .int p2)]) hx hb dX11_bestRoom_37 hl (by decide) rfl (fun ls hl => ?_)
        refine lv_ldc (v := (-1000000)) hx hb hown (hts (.constant RX11 214 (-1000000)) (List.mem_of_getElem? (i := 4) rfl)) dX11_bestRoom_39 ?_
        refine lv_istore (lv' := [(5, .int (-1000000)), (4, .int 0), (0, .ref (X.2.1 127)), (1, .int p0), (2, .int p1), (3, .int p2)]) hx hb dX11_bestRoom_41 hl (by decide) rfl (fun ls hl => ?_)
        refine lv_iconst (v := 0) hx hb dX11_bestRoom_43 (by decide) ?_
        refine lv_istore (lv' := [(6, .int 0), (5, .int (-1000000)), (4, .int 0), (0, .ref (X.2.1 127)), (1, .int p0), (2, .int p1), (3, .int p2)]) hx hb dX11_bestRoom_44 hl (by decide) rfl (fun ls hl => ?_)
        have hLp_46 : ∀ (n : Nat) (T_46 : xS) (x1_46 : Int32) (x2_46 : Int32) (x3_46 : Int32) (x4_46 : Int32) (x5_46 : Int32) (x6_46 : Int32), s_X11_bestRoom_L46 n T_46 x1_46 x2_46 x3_46 x4_46 x5_46 x6_46 → (∀ q : Int32 × Int32 × xS, q = f_X11_bestRoom_L46 n T_46 x1_46 x2_46 x3_46 x4_46 x5_46 x6_46 → (∀ (H : Heap) (locs : List Loc), va_P X.1 vwCl (xW X q.2.2) H → va_S (xA X) s.heap H locs → ∀ (ls : Array Slot), lv_has ls 8 [(3, .int x3_46), (4, .int q.1), (5, .int q.2.1)] → W p l e ({ frames := 4, cells := 0, slots := 0, locals := 92 } : Room) s m ([.ref (X.2.1 127), .int p0, .int p1, .int p2] : List Value).toArray below meth c H locs 0 0 (MQ below (va_Qi (fun (r : Int32) (u : xS) => r = (f_X11_bestRoom S p0 p1 p2).1 ∧ u = (f_X11_bestRoom S p0 p1 p2).2) (xI X) (xA X)) ([.ref (X.2.1 127), .int p0, .int p1, .int p2] : List Value).toArray s 0 0 (xA X)) (F0 m 151 ls []))) → ∀ (H : Heap) (locs : List Loc), va_P X.1 vwCl (xW X T_46) H → va_S (xA X) s.heap H locs → ∀ (ls : Array Slot), lv_has ls 8 [(0, .ref (X.2.1 127)), (1, .int x1_46), (2, .int x2_46), (3, .int x3_46), (4, .int x4_46), (5, .int x5_46), (6, .int x6_46)] → W p l e ({ frames := 4, cells := 0, slots := 0, locals := 92 } : Room) s m ([.ref (X.2.1 127), .int p0, .int p1, .int p2] : List Value).toArray below meth c H locs 0 0 (MQ below (va_Qi (fun (r : Int32) (u : xS) => r = (f_X11_bestRoom S p0 p1 p2).1 ∧ u = (f_X11_bestRoom S p0 p1 p2).2) (xI X) (xA X)) ([.ref (X.2.1 127), .int p0, .int p1, .int p2] : List Value).toArray s 0 0 (xA X)) (F0 m 46 ls []) := by
          intro n
          induction n with
          | zero => intro T_46 x1_46 x2_46 x3_46 x4_46 x5_46 x6_46 hs; exact hs.elim
          | succ n ih_46 =>
            intro T_46 x1_46 x2_46 x3_46 x4_46 x5_46 x6_46 hs_46 hex_46 H locs hP hS ls hl
            refine lv_iload hx hb dX11_bestRoom_46 (lv_at hl 6 rfl) ?_
            refine lv_aload_n hx hb dX11_bestRoom_48 rfl (lv_at hl 0 rfl) ?_
            refine xget (ref := "AbsentPraiseModel") (T := TX11) (v := .int (T_46 127 0)) hC hP hin_X11 xo_X11 rfl 0 (by decide) (List.mem_of_getElem? (i := 5) rfl) rfl rfl dX11_bestRoom_49 ?_
            refine lv_icmp_ge (tgt := 151) hx hb dX11_bestRoom_52 (by decide) (fun c_7 => ?_) (fun c_7 => ?_)
            · have he_8 : f_X11_bestRoom_L46 (n + 1) T_46 x1_46 x2_46 x3_46 x4_46 x5_46 x6_46 = (x4_46, x5_46, T_46) := ((ip c_7 rfl))
              exact hex_46 _ he_8.symm _ _ hP hS ls (lv_sub hl [3, 4, 5] rfl)
            · refine lv_aload_n hx hb dX11_bestRoom_55 rfl (lv_at hl 0 rfl) ?_
              have hn_9 : s_X11_tries T_46 := (nl (sn hs_46 c_7))
              refine xcV_vW (b := 127) (As := []) (rest := []) hC hP hS (k_X11_tries l X T_46 hn_9) (cwV 0 hts gX11_bestRoom_X11_tries rfl rfl rfl hd_X11_tries ⟨Nat.le_of_ble_eq_true rfl, Nat.le_of_ble_eq_true rfl⟩) xo_X11 rfl rfl rfl hl.1 (Nat.le_of_ble_eq_true rfl) dX11_bestRoom_56 (fun S_10 hS_10 H locs hP hS => ?_)
              refine lv_aload_n hx hb dX11_bestRoom_59 rfl (lv_at hl 0 rfl) ?_
              refine xget (ref := "AbsentPraiseModel") (T := TX11) (v := .ref (X.2.1 132)) hC hP hin_X11 xo_X11 rfl 9 (by decide) (List.mem_of_getElem? (i := 6) rfl) rfl rfl dX11_bestRoom_60 ?_
              refine lv_iconst (v := 2) hx hb dX11_bestRoom_63 (by decide) ?_
              refine lv_iload_n hx hb dX11_bestRoom_64 rfl (lv_at hl 1 rfl) ?_
              refine lv_iadd hx hb dX11_bestRoom_65 ?_
              refine lv_iload hx hb dX11_bestRoom_66 (lv_at hl 6 rfl) ?_
              have hn_11 : vp_in (2 + x1_46) 72 := (by have hS_10 := hS_10.symm; subst hS_10; exact nl (nr (sn hs_46 c_7)))
              refine xiast hC hP hS rfl hn_11 dX11_bestRoom_68 (fun S_12 hS_12 H locs hP hS => ?_)
              refine lv_iconst (v := 0) hx hb dX11_bestRoom_69 (by decide) ?_
              refine lv_istore (lv' := [(7, .int 0), (0, .ref (X.2.1 127)), (1, .int x1_46), (2, .int x2_46), (3, .int x3_46), (4, .int x4_46), (5, .int x5_46), (6, .int x6_46)]) hx hb dX11_bestRoom_70 hl (by decide) rfl (fun ls hl => ?_)
              have hLp_72 : ∀ (n : Nat) (T_72 : xS) (x1_72 : Int32) (x2_72 : Int32) (x3_72 : Int32) (x4_72 : Int32) (x5_72 : Int32) (x6_72 : Int32) (x7_72 : Int32), s_X11_bestRoom_L72 n T_72 x1_72 x2_72 x3_72 x4_72 x5_72 x6_72 x7_72 → (∀ q : xS, q = f_X11_bestRoom_L72 n T_72 x1_72 x2_72 x3_72 x4_72 x5_72 x6_72 x7_72 → (∀ (H : Heap) (locs : List Loc), va_P X.1 vwCl (xW X q) H → va_S (xA X) s.heap H locs → ∀ (ls : Array Slot), lv_has ls 8 [(0, .ref (X.2.1 127)), (1, .int x1_72), (2, .int x2_72), (3, .int x3_72), (4, .int x4_72), (5, .int x5_72), (6, .int x6_72)] → W p l e ({ frames := 4, cells := 0, slots := 0, locals := 92 } : Room) s m ([.ref (X.2.1 127), .int p0, .int p1, .int p2] : List Value).toArray below meth c H locs 0 0 (MQ below (va_Qi (fun (r : Int32) (u : xS) => r = (f_X11_bestRoom S p0 p1 p2).1 ∧ u = (f_X11_bestRoom S p0 p1 p2).2) (xI X) (xA X)) ([.ref (X.2.1 127), .int p0, .int p1, .int p2] : List Value).toArray s 0 0 (xA X)) (F0 m 92 ls []))) → ∀ (H : Heap) (locs : List Loc), va_P X.1 vwCl (xW X T_72) H → va_S (xA X) s.heap H locs → ∀ (ls : Array Slot), lv_has ls 8 [(0, .ref (X.2.1 127)), (1, .int x1_72), (2, .int x2_72), (3, .int x3_72), (4, .int x4_72), (5, .int x5_72), (6, .int x6_72), (7, .int x7_72)] → W p l e ({ frames := 4, cells := 0, slots := 0, locals := 92 } : Room) s m ([.ref (X.2.1 127), .int p0, .int p1, .int p2] : List Value).toArray below meth c H locs 0 0 (MQ below (va_Qi (fun (r : Int32) (u : xS) => r = (f_X11_bestRoom S p0 p1 p2).1 ∧ u = (f_X11_bestRoom S p0 p1 p2).2) (xI X) (xA X)) ([.ref (X.2.1 127), .int p0, .int p1, .int p2] : List Value).toArray s 0 0 (xA X)) (F0 m 72 ls []) := by
                intro n
                induction n with
                | zero => intro T_72 x1_72 x2_72 x3_72 x4_72 x5_72 x6_72 x7_72 hs; exact hs.elim
                | succ n ih_72 =>
                  intro T_72 x1_72 x2_72 x3_72 x4_72 x5_72 x6_72 x7_72 hs_72 hex_72 H locs hP hS ls hl
                  refine lv_iload hx hb dX11_bestRoom_72 (lv_at hl 7 rfl) ?_
                  refine lv_iload_n hx hb dX11_bestRoom_74 rfl (lv_at hl 2 rfl) ?_
                  refine lv_icmp_ge (tgt := 92) hx hb dX11_bestRoom_75 (by decide) (fun c_13 => ?_) (fun c_13 => ?_)
                  · have he_14 : f_X11_bestRoom_L72 (n + 1) T_72 x1_72 x2_72 x3_72 x4_72 x5_72 x6_72 x7_72 = T_72 := ((ip c_13 rfl))
                    exact hex_72 _ he_14.symm _ _ hP hS ls (lv_sub hl [0, 1, 2, 3, 4, 5, 6] rfl)
                  · refine lv_aload_n hx hb dX11_bestRoom_78 rfl (lv_at hl 0 rfl) ?_
                    refine lv_aload_n hx hb dX11_bestRoom_79 rfl (lv_at hl 0 rfl) ?_
                    refine xget (ref := "AbsentPraiseModel") (T := TX11) (v := .ref (X.2.1 132)) hC hP hin_X11 xo_X11 rfl 9 (by decide) (List.mem_of_getElem? (i := 6) rfl) rfl rfl dX11_bestRoom_80 ?_
                    have hn_15 : s_X11_passes T_72 132 := (nl (sn hs_72 c_13))
                    refine xcV_vW (b := 127) (As := [.ref (X.2.1 132)]) (rest := []) hC hP hS (k_X11_passes l X T_72 132 rfl hn_15) (cwV 1 hts gX11_bestRoom_X11_passes rfl rfl rfl hd_X11_passes ⟨Nat.le_of_ble_eq_true rfl, Nat.le_of_ble_eq_true rfl⟩) xo_X11 rfl rfl rfl hl.1 (Nat.le_of_ble_eq_true rfl) dX11_bestRoom_83 (fun S_16 hS_16 H locs hP hS => ?_)
                    refine lv_iinc (v := (x7_72 + 1)) (lv' := [(7, .int (x7_72 + 1)), (0, .ref (X.2.1 127)), (1, .int x1_72), (2, .int x2_72), (3, .int x3_72), (4, .int x4_72), (5, .int x5_72), (6, .int x6_72)]) hx hb dX11_bestRoom_86 hl (k := 7) rfl rfl (by decide) rfl (fun ls hl => ?_)
                    refine lv_goto (tgt := 72) hx hb dX11_bestRoom_89 (by decide) ?_
                    have he_17 : f_X11_bestRoom_L72 (n + 1) T_72 x1_72 x2_72 x3_72 x4_72 x5_72 x6_72 x7_72 = f_X11_bestRoom_L72 n S_16 x1_72 x2_72 x3_72 x4_72 x5_72 x6_72 (x7_72 + 1) := (by have hS_16 := hS_16.symm; subst hS_16; exact (iN c_13 rfl))
                    exact ih_72 S_16 x1_72 x2_72 x3_72 x4_72 x5_72 x6_72 (x7_72 + 1) (by have hS_16 := hS_16.symm; subst hS_16; exact (nr (sn hs_72 c_13))) (fun q hq => hex_72 q (hq.trans he_17.symm)) _ _ hP hS ls (lv_sub hl [1, 2, 3, 4, 5, 6, 7, 0] rfl)
              refine hLp_72 ((fu 0 x2_46)) S_12 x1_46 x2_46 x3_46 x4_46 x5_46 x6_46 0 (by have hS_10 := hS_10.symm; have hS_12 := hS_12.symm; subst hS_10 hS_12; exact nl (nr (nr (sn hs_46 c_7)))) (fun q_72 hq_72 H locs hP hS ls hl => ?_) _ _ hP hS ls (lv_sub hl [1, 2, 3, 4, 5, 6, 7, 0] rfl)
              refine lv_aload_n hx hb dX11_bestRoom_92 rfl (lv_at hl 0 rfl) ?_
              refine xget (ref := "AbsentPraiseModel") (T := TX11) (v := .ref (X.2.1 132)) hC hP hin_X11 xo_X11 rfl 9 (by decide) (List.mem_of_getElem? (i := 6) rfl) rfl rfl dX11_bestRoom_93 ?_
              refine lv_bipush (v := 9) hx hb dX11_bestRoom_96 (by decide) ?_
              refine lv_iload_n hx hb dX11_bestRoom_98 rfl (lv_at hl 1 rfl) ?_
              refine lv_iadd hx hb dX11_bestRoom_99 ?_
              have hn_18 : vp_in (9 + x1_46) 72 := (by have hS_10 := hS_10.symm; have hS_12 := hS_12.symm; have hq_72 := hq_72.symm; subst hS_10 hS_12 hq_72; exact nl (nr (nr (nr (sn hs_46 c_7)))))
              refine xiald hC hP rfl hn_18 dX11_bestRoom_100 ?_
              refine lv_iload hx hb dX11_bestRoom_101 (lv_at hl 5 rfl) ?_
              refine lv_icmp_le (tgt := 111) hx hb dX11_bestRoom_103 (by decide) (fun c_19 => ?_) (fun c_19 => ?_)
              · refine lv_iload hx hb dX11_bestRoom_111 (lv_at hl 4 rfl) ?_
                refine lv_istore (lv' := [(4, .int x4_46), (0, .ref (X.2.1 127)), (1, .int x1_46), (2, .int x2_46), (3, .int x3_46), (5, .int x5_46), (6, .int x6_46)]) hx hb dX11_bestRoom_113 hl (by decide) rfl (fun ls hl => ?_)
                refine lv_aload_n hx hb dX11_bestRoom_115 rfl (lv_at hl 1 rfl) ?_
                refine xget (ref := "AbsentPraiseModel") (T := TX11) (v := .ref (X.2.1 132)) hC hP hin_X11 xo_X11 rfl 9 (by decide) (List.mem_of_getElem? (i := 6) rfl) rfl rfl dX11_bestRoom_116 ?_
                refine lv_bipush (v := 9) hx hb dX11_bestRoom_119 (by decide) ?_
                refine lv_iload_n hx hb dX11_bestRoom_121 rfl (lv_at hl 2 rfl) ?_
                refine lv_iadd hx hb dX11_bestRoom_122 ?_
                refine xiald hC hP rfl hn_18 dX11_bestRoom_123 ?_
                refine lv_iload hx hb dX11_bestRoom_124 (lv_at hl 5 rfl) ?_
                refine lv_icmp_le (tgt := 141) hx hb dX11_bestRoom_126 (by decide) (fun _ => ?_) (fun c => absurd c_19 c)
                refine lv_iload hx hb dX11_bestRoom_141 (lv_at hl 5 rfl) ?_
                refine lv_istore (lv' := [(5, .int x5_46), (4, .int x4_46), (0, .ref (X.2.1 127)), (1, .int x1_46), (2, .int x2_46), (3, .int x3_46), (6, .int x6_46)]) hx hb dX11_bestRoom_143 hl (by decide) rfl (fun ls hl => ?_)
                refine lv_iinc (v := (x6_46 + 1)) (lv' := [(6, .int (x6_46 + 1)), (5, .int x5_46), (4, .int x4_46), (0, .ref (X.2.1 127)), (1, .int x1_46), (2, .int x2_46), (3, .int x3_46)]) hx hb dX11_bestRoom_145 hl (k := 6) rfl rfl (by decide) rfl (fun ls hl => ?_)
                refine lv_goto (tgt := 46) hx hb dX11_bestRoom_148 (by decide) ?_
                have he_20 : f_X11_bestRoom_L46 (n + 1) T_46 x1_46 x2_46 x3_46 x4_46 x5_46 x6_46 = f_X11_bestRoom_L46 n q_72 x1_46 x2_46 x3_46 x4_46 x5_46 (x6_46 + 1) := (by have hS_10 := hS_10.symm; have hS_12 := hS_12.symm; have hq_72 := hq_72.symm; subst hS_10 hS_12 hq_72; exact (iN c_7 (ip c_19 rfl)))
                exact ih_46 q_72 x1_46 x2_46 x3_46 x4_46 x5_46 (x6_46 + 1) (by have hS_10 := hS_10.symm; have hS_12 := hS_12.symm; have hq_72 := hq_72.symm; subst hS_10 hS_12 hq_72; exact (sp (nr (nr (nr (nr (sn hs_46 c_7))))) c_19)) (fun q hq => hex_46 q (hq.trans he_20.symm)) _ _ hP hS ls (lv_sub hl [3, 4, 5, 6, 2, 1, 0] rfl)
              · refine lv_iload hx hb dX11_bestRoom_106 (lv_at hl 6 rfl) ?_
                refine lv_goto (tgt := 113) hx hb dX11_bestRoom_108 (by decide) ?_
                refine lv_istore (lv' := [(4, .int x6_46), (0, .ref (X.2.1 127)), (1, .int x1_46), (2, .int x2_46), (3, .int x3_46), (5, .int x5_46), (6, .int x6_46)]) hx hb dX11_bestRoom_113 hl (by decide) rfl (fun ls hl => ?_)
                refine lv_aload_n hx hb dX11_bestRoom_115 rfl (lv_at hl 1 rfl) ?_
                refine xget (ref := "AbsentPraiseModel") (T := TX11) (v := .ref (X.2.1 132)) hC hP hin_X11 xo_X11 rfl 9 (by decide) (List.mem_of_getElem? (i := 6) rfl) rfl rfl dX11_bestRoom_116 ?_
                refine lv_bipush (v := 9) hx hb dX11_bestRoom_119 (by decide) ?_
                refine lv_iload_n hx hb dX11_bestRoom_121 rfl (lv_at hl 2 rfl) ?_
                refine lv_iadd hx hb dX11_bestRoom_122 ?_
                refine xiald hC hP rfl hn_18 dX11_bestRoom_123 ?_
                refine lv_iload hx hb dX11_bestRoom_124 (lv_at hl 5 rfl) ?_
                refine lv_icmp_le (tgt := 141) hx hb dX11_bestRoom_126 (by decide) (fun c => absurd c c_19) (fun _ => ?_)
                refine lv_aload_n hx hb dX11_bestRoom_129 rfl (lv_at hl 1 rfl) ?_
                refine xget (ref := "AbsentPraiseModel") (T := TX11) (v := .ref (X.2.1 132)) hC hP hin_X11 xo_X11 rfl 9 (by decide) (List.mem_of_getElem? (i := 6) rfl) rfl rfl dX11_bestRoom_130 ?_
                refine lv_bipush (v := 9) hx hb dX11_bestRoom_133 (by decide) ?_
                refine lv_iload_n hx hb dX11_bestRoom_135 rfl (lv_at hl 2 rfl) ?_
                refine lv_iadd hx hb dX11_bestRoom_136 ?_
                refine xiald hC hP rfl hn_18 dX11_bestRoom_137 ?_
                refine lv_goto (tgt := 143) hx hb dX11_bestRoom_138 (by decide) ?_
                refine lv_istore (lv' := [(5, .int (q_72 132 ((9 + x1_46)).toNatClampNeg)), (4, .int x6_46), (0, .ref (X.2.1 127)), (1, .int x1_46), (2, .int x2_46), (3, .int x3_46), (6, .int x6_46)]) hx hb dX11_bestRoom_143 hl (by decide) rfl (fun ls hl => ?_)
                refine lv_iinc (v := (x6_46 + 1)) (lv' := [(6, .int (x6_46 + 1)), (5, .int (q_72 132 ((9 + x1_46)).toNatClampNeg)), (4, .int x6_46), (0, .ref (X.2.1 127)), (1, .int x1_46), (2, .int x2_46), (3, .int x3_46)]) hx hb dX11_bestRoom_145 hl (k := 6) rfl rfl (by decide) rfl (fun ls hl => ?_)
                refine lv_goto (tgt := 46) hx hb dX11_bestRoom_148 (by decide) ?_
                have he_21 : f_X11_bestRoom_L46 (n + 1) T_46 x1_46 x2_46 x3_46 x4_46 x5_46 x6_46 = f_X11_bestRoom_L46 n q_72 x1_46 x2_46 x3_46 x6_46 (q_72 132 ((9 + x1_46)).toNatClampNeg) (x6_46 + 1) := (by have hS_10 := hS_10.symm; have hS_12 := hS_12.symm; have hq_72 := hq_72.symm; subst hS_10 hS_12 hq_72; exact (iN c_7 (iN c_19 rfl)))
                exact ih_46 q_72 x1_46 x2_46 x3_46 x6_46 (q_72 132 ((9 + x1_46)).toNatClampNeg) (x6_46 + 1) (by have hS_10 := hS_10.symm; have hS_12 := hS_12.symm; have hq_72 := hq_72.symm; subst hS_10 hS_12 hq_72; exact (sn (nr (nr (nr (nr (sn hs_46 c_7))))) c_19)) (fun q hq => hex_46 q (hq.trans he_21.symm)) _ _ hP hS ls (lv_sub hl [3, 4, 5, 6, 2, 1, 0] rfl)
        refine hLp_46 ((fu 0 (S 127 0))) S p0 p1 p2 0 (-1000000) 0 (by have hr_1 := hr_1.symm; have hr_3 := hr_3.symm; have hr_5 := hr_5.symm; subst hr_1 hr_3 hr_5; exact nl (sn (sn (sn hs c_2) c_4) c_6)) (fun q_46 hq_46 H locs hP hS ls hl => ?_) _ _ hP hS ls (lv_sub hl [3, 4, 5, 6, 2, 1, 0] rfl)
        refine lv_iload_n hx hb dX11_bestRoom_151 rfl (lv_at hl 0 rfl) ?_
        refine lv_if_ne (tgt := 160) hx hb dX11_bestRoom_152 (by decide) (fun c_22 => ?_) (fun c_22 => ?_)
        · refine lv_iload hx hb dX11_bestRoom_160 (lv_at hl 2 rfl) ?_
          refine lv_sipush (v := 10000) hx hb dX11_bestRoom_162 (by decide) ?_
          refine lv_iadd hx hb dX11_bestRoom_165 ?_
          exact xret_iW hC hP hS hb hr (by simp only [f_X11_bestRoom, ← hr_1, ← hr_3, ← hr_5, ← hq_46, if_neg c_2, if_neg c_4, if_neg c_6, if_neg c_22]) dX11_bestRoom_166 hlocks
        · refine lv_iload hx hb dX11_bestRoom_155 (lv_at hl 1 rfl) ?_
          refine lv_goto (tgt := 166) hx hb dX11_bestRoom_157 (by decide) ?_
          exact xret_iW hC hP hS hb hr (by simp only [f_X11_bestRoom, ← hr_1, ← hr_3, ← hr_5, ← hq_46, if_neg c_2, if_neg c_4, if_neg c_6, if_pos c_22]) dX11_bestRoom_166 hlocks
      · refine lv_ldc (v := (-1000000002)) hx hb hown (hts (.constant RX11 91 (-1000000002)) (List.mem_of_getElem? (i := 3) rfl)) dX11_bestRoom_33 ?_
        exact xret_iW hC hP hS hb hr (by simp only [f_X11_bestRoom, ← hr_1, ← hr_3, ← hr_5, if_neg c_2, if_neg c_4, if_pos c_6]) dX11_bestRoom_35 hlocks
  · refine lv_ldc (v := (-1000000001)) hx hb hown (hts (.constant RX11 230 (-1000000001)) (List.mem_of_getElem? (i := 1) rfl)) dX11_bestRoom_8 ?_
    exact xret_iW hC hP hS hb hr (by simp only [f_X11_bestRoom, ← hr_1, if_pos c_2]) dX11_bestRoom_10 hlocks
