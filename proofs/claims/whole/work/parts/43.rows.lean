set_option linter.all false
/-! contracts: X11_judge, X11_seed, X11_keep, X11_goBack -/
theorem hd_X11_judge : yX11_judge.cls = RX11 ∧ yX11_judge.cls ≠ "java/lang/invoke/MethodHandle" ∧ yX11_judge.cls ≠ "java/lang/invoke/VarHandle" ∧ (parseMethodDescriptor yX11_judge.desc).map (fun d => d.parameters.length) = some 0 := by decide +kernel
set_option maxHeartbeats 4000000 in
set_option maxRecDepth 100000 in
theorem k_X11_judge (l : Launch) (X : xX) (S : xS) (hs : s_X11_judge S) : Met l yX11_judge wsX11_judge ({ frames := 0, cells := 0, slots := 0, locals := 0 } : Room) (va_Pc [.ref (X.2.1 127)] (xI X S)) (va_Qi (fun (r : Int32) (u : xS) => r = (f_X11_judge S) ∧ u = S) (xI X) (xA X)) 0 0 (xA X) := by
  refine Met.ofW (cc := cX11_judge) (maxL := 2) (ret := (some .int)) (by decide +kernel) rfl ?_
  intro p e s m args below meth c s₁ B hml hv
  obtain ⟨rfl, hP, hK, hN, hJ⟩ := hv
  have hx := B.exec
  have hb := B.bytes
  have hr := B.returns
  have hts := atoms_spec (ws := wsX11_judge) B.pre
  have hown : s.vm.findClass RX11 = some m.cls := findClass_of_methodNamed B.named
  have hlocks := B.notSynchronized
  have hC : xC X p m c cX11_judge 2 s _ wsX11_judge RX11 := ⟨⟨hx, hb, hml, hown, hts⟩, hK, hN, hJ⟩
  have hS : va_S (xA X) s.heap s.heap [] := va_S.rf
  have hin_X11 : ∀ w ∈ u_ws RX11 TX11 41, w ∈ wsX11_judge := by decide +kernel
  have hl := lv_entry ([.ref (X.2.1 127)]) (n := 2) (Nat.le_of_ble_eq_true rfl)
  rw [lg_entry_eq]
  generalize (lg_sl ([.ref (X.2.1 127)]) ++ List.replicate (2 - (lg_sl ([.ref (X.2.1 127)])).length) Slot.unset).toArray = ls at hl ⊢
  have hl : lv_has ls 2 [(0, .ref (X.2.1 127))] := hl
  refine lv_iconst (v := 0) hx hb dX11_judge_0 (by decide) ?_
  refine lv_istore_n (lv' := [(1, .int 0), (0, .ref (X.2.1 127))]) hx hb dX11_judge_1 rfl hl (by decide) rfl (fun ls hl => ?_)
  have hLp_2 : ∀ (n : Nat) (x1_2 : Int32), s_X11_judge_L2 n S x1_2 → (∀ q : Unit, f_X11_judge_L2 n S x1_2 = .inr q → (∀ (H : Heap) (locs : List Loc), va_P X.1 vwCl (xW X S) H → va_S (xA X) s.heap H locs → ∀ (ls : Array Slot), lv_has ls 2 [] → W p l e ({ frames := 0, cells := 0, slots := 0, locals := 0 } : Room) s m ([.ref (X.2.1 127)] : List Value).toArray below meth c H locs 0 0 (MQ below (va_Qi (fun (r : Int32) (u : xS) => r = (f_X11_judge S) ∧ u = S) (xI X) (xA X)) ([.ref (X.2.1 127)] : List Value).toArray s 0 0 (xA X)) (F0 m 41 ls []))) → (∀ r : Int32, f_X11_judge_L2 n S x1_2 = .inl r → ∀ (H : Heap) (locs : List Loc), va_P X.1 vwCl (xW X S) H → va_S (xA X) s.heap H locs → ∀ (pc : Nat) (ls : Array Slot), decode cX11_judge pc = .ok (.ireturn, 1) → W p l e ({ frames := 0, cells := 0, slots := 0, locals := 0 } : Room) s m ([.ref (X.2.1 127)] : List Value).toArray below meth c H locs 0 0 (MQ below (va_Qi (fun (r : Int32) (u : xS) => r = (f_X11_judge S) ∧ u = S) (xI X) (xA X)) ([.ref (X.2.1 127)] : List Value).toArray s 0 0 (xA X)) (F0 m pc ls [.int r])) → ∀ (H : Heap) (locs : List Loc), va_P X.1 vwCl (xW X S) H → va_S (xA X) s.heap H locs → ∀ (ls : Array Slot), lv_has ls 2 [(0, .ref (X.2.1 127)), (1, .int x1_2)] → W p l e ({ frames := 0, cells := 0, slots := 0, locals := 0 } : Room) s m ([.ref (X.2.1 127)] : List Value).toArray below meth c H locs 0 0 (MQ below (va_Qi (fun (r : Int32) (u : xS) => r = (f_X11_judge S) ∧ u = S) (xI X) (xA X)) ([.ref (X.2.1 127)] : List Value).toArray s 0 0 (xA X)) (F0 m 2 ls []) := by
    intro n
    induction n with
    | zero => intro x1_2 hs; exact hs.elim
    | succ n ih_2 =>
      intro x1_2 hs_2 hex_2 hret_2 H locs hP hS ls hl
      refine lv_iload_n hx hb dX11_judge_2 rfl (lv_at hl 1 rfl) ?_
      refine lv_aload_n hx hb dX11_judge_3 rfl (lv_at hl 0 rfl) ?_
      refine xget (ref := "AbsentPraiseModel") (T := TX11) (v := .int (S 127 15)) hC hP hin_X11 xo_X11 rfl 15 (by decide) (List.mem_of_getElem? (i := 1) rfl) rfl rfl dX11_judge_4 ?_
      refine lv_icmp_ge (tgt := 41) hx hb dX11_judge_7 (by decide) (fun c_1 => ?_) (fun c_1 => ?_)
      · have he_2 : f_X11_judge_L2 (n + 1) S x1_2 = .inr () := ((ip c_1 rfl))
        exact hex_2 _ he_2 _ _ hP hS ls (lv_sub hl [] rfl)
      · refine lv_aload_n hx hb dX11_judge_10 rfl (lv_at hl 0 rfl) ?_
        refine xget (ref := "AbsentPraiseModel") (T := TX11) (v := .ref (X.2.1 131)) hC hP hin_X11 xo_X11 rfl 8 (by decide) (List.mem_of_getElem? (i := 2) rfl) rfl rfl dX11_judge_11 ?_
        refine lv_bipush (v := 9) hx hb dX11_judge_14 (by decide) ?_
        refine lv_aload_n hx hb dX11_judge_16 rfl (lv_at hl 0 rfl) ?_
        refine xget (ref := "AbsentPraiseModel") (T := TX11) (v := .ref (X.2.1 136)) hC hP hin_X11 xo_X11 rfl 16 (by decide) (List.mem_of_getElem? (i := 3) rfl) rfl rfl dX11_judge_17 ?_
        refine lv_iload_n hx hb dX11_judge_20 rfl (lv_at hl 1 rfl) ?_
        have hn_3 : vp_in x1_2 15 := (nl (sn hs_2 c_1))
        refine xiald hC hP rfl hn_3 dX11_judge_21 ?_
        refine lv_iadd hx hb dX11_judge_22 ?_
        have hn_4 : vp_in (9 + (S 136 (x1_2).toNatClampNeg)) 72 := (nl (nr (sn hs_2 c_1)))
        refine xiald hC hP rfl hn_4 dX11_judge_23 ?_
        refine lv_aload_n hx hb dX11_judge_24 rfl (lv_at hl 0 rfl) ?_
        refine xget (ref := "AbsentPraiseModel") (T := TX11) (v := .ref (X.2.1 137)) hC hP hin_X11 xo_X11 rfl 17 (by decide) (List.mem_of_getElem? (i := 4) rfl) rfl rfl dX11_judge_25 ?_
        refine lv_iload_n hx hb dX11_judge_28 rfl (lv_at hl 1 rfl) ?_
        refine xiald hC hP rfl hn_3 dX11_judge_29 ?_
        refine lv_icmp_eq (tgt := 35) hx hb dX11_judge_30 (by decide) (fun c_5 => ?_) (fun c_5 => ?_)
        · refine lv_iinc (v := (x1_2 + 1)) (lv' := [(1, .int (x1_2 + 1)), (0, .ref (X.2.1 127))]) hx hb dX11_judge_35 hl (k := 1) rfl rfl (by decide) rfl (fun ls hl => ?_)
          refine lv_goto (tgt := 2) hx hb dX11_judge_38 (by decide) ?_
          have he_6 : f_X11_judge_L2 (n + 1) S x1_2 = f_X11_judge_L2 n S (x1_2 + 1) := ((iN c_1 (ip c_5 rfl)))
          exact ih_2 (x1_2 + 1) ((sp (nr (nr (sn hs_2 c_1))) c_5)) (fun q hq => hex_2 q (he_6.trans hq)) (fun r hq => hret_2 r (he_6.trans hq)) _ _ hP hS ls (lv_sub hl [1, 0] rfl)
        · refine lv_iload_n hx hb dX11_judge_33 rfl (lv_at hl 1 rfl) ?_
          have he_7 : f_X11_judge_L2 (n + 1) S x1_2 = .inl (x1_2) := ((iN c_1 (iN c_5 rfl)))
          exact hret_2 _ he_7 _ _ hP hS 34 ls dX11_judge_34
  refine hLp_2 ((fu 0 (S 127 15))) 0 (nl hs) (fun q_2 hq_2 H locs hP hS ls hl => ?_) (fun r hr_2 H locs hP hS pc_2 ls hd_2 => ?_) _ _ hP hS ls (lv_sub hl [1, 0] rfl)
  · refine lv_iconst (v := (-1)) hx hb dX11_judge_41 (by decide) ?_
    exact xret_iR hC hP hS hb hr (((sm_r hq_2 rfl))) dX11_judge_42 hlocks
  · exact xret_iR hC hP hS hb hr (((sm_l hr_2 rfl))) hd_2 hlocks
theorem hd_X11_seed : yX11_seed.cls = RX11 ∧ yX11_seed.cls ≠ "java/lang/invoke/MethodHandle" ∧ yX11_seed.cls ≠ "java/lang/invoke/VarHandle" ∧ (parseMethodDescriptor yX11_seed.desc).map (fun d => d.parameters.length) = some 1 := by decide +kernel
set_option maxHeartbeats 4000000 in
set_option maxRecDepth 100000 in
theorem k_X11_seed (l : Launch) (X : xX) (S : xS) (p0 : Int32) : Met l yX11_seed wsX11_seed ({ frames := 0, cells := 0, slots := 0, locals := 0 } : Room) (va_Pc [.ref (X.2.1 127), .int p0] (xI X S)) (va_Qi (fun (r : Int32) (u : xS) => r = (f_X11_seed S p0).1 ∧ u = (f_X11_seed S p0).2) (xI X) (xA X)) 0 0 (xA X) := by
  refine Met.ofW (cc := cX11_seed) (maxL := 3) (ret := (some .int)) (by decide +kernel) rfl ?_
  intro p e s m args below meth c s₁ B hml hv
  obtain ⟨rfl, hP, hK, hN, hJ⟩ := hv
  have hx := B.exec
  have hb := B.bytes
  have hr := B.returns
  have hts := atoms_spec (ws := wsX11_seed) B.pre
  have hown : s.vm.findClass RX11 = some m.cls := findClass_of_methodNamed B.named
  have hlocks := B.notSynchronized
  have hC : xC X p m c cX11_seed 3 s _ wsX11_seed RX11 := ⟨⟨hx, hb, hml, hown, hts⟩, hK, hN, hJ⟩
  have hS : va_S (xA X) s.heap s.heap [] := va_S.rf
  have hin_X11 : ∀ w ∈ u_ws RX11 TX11 41, w ∈ wsX11_seed := by decide +kernel
  have hl := lv_entry ([.ref (X.2.1 127), .int p0]) (n := 3) (Nat.le_of_ble_eq_true rfl)
  rw [lg_entry_eq]
  generalize (lg_sl ([.ref (X.2.1 127), .int p0]) ++ List.replicate (3 - (lg_sl ([.ref (X.2.1 127), .int p0])).length) Slot.unset).toArray = ls at hl ⊢
  have hl : lv_has ls 3 [(0, .ref (X.2.1 127)), (1, .int p0)] := hl
  refine lv_iload_n hx hb dX11_seed_0 rfl (lv_at hl 1 rfl) ?_
  refine lv_if_ge (tgt := 7) hx hb dX11_seed_1 (by decide) (fun c_1 => ?_) (fun c_1 => ?_)
  · refine lv_aload_n hx hb dX11_seed_7 rfl (lv_at hl 0 rfl) ?_
    refine xget (ref := "AbsentPraiseModel") (T := TX11) (v := .int (S 127 10)) hC hP hin_X11 xo_X11 rfl 10 (by decide) (List.mem_of_getElem? (i := 2) rfl) rfl rfl dX11_seed_8 ?_
    refine lv_istore_n (lv' := [(2, .int (S 127 10)), (0, .ref (X.2.1 127)), (1, .int p0)]) hx hb dX11_seed_11 rfl hl (by decide) rfl (fun ls hl => ?_)
    refine lv_aload_n hx hb dX11_seed_12 rfl (lv_at hl 1 rfl) ?_
    refine lv_iload_n hx hb dX11_seed_13 rfl (lv_at hl 2 rfl) ?_
    refine xput (ref := "AbsentPraiseModel") (T := TX11) (ty := .int) hC hP hS (by decide) hin_X11 tyX11 tyX11_ok nmX11 xo_X11 rfl 10 (by decide) (List.mem_of_getElem? (i := 2) rfl) rfl rfl rfl rfl rfl (Nat.le_of_ble_eq_true rfl) dX11_seed_14 rfl (fun S_2 hS_2 H locs hP hS => ?_)
    refine lv_iload_n hx hb dX11_seed_17 rfl (lv_at hl 0 rfl) ?_
    exact xret_iW hC hP hS hb hr (by simp only [f_X11_seed, ← hS_2, if_pos c_1]) dX11_seed_18 hlocks
  · refine lv_ldc (v := (-1000000002)) hx hb hown (hts (.constant RX11 91 (-1000000002)) (List.mem_of_getElem? (i := 1) rfl)) dX11_seed_4 ?_
    exact xret_iW hC hP hS hb hr (by simp only [f_X11_seed, if_neg c_1]) dX11_seed_6 hlocks
theorem hd_X11_keep : yX11_keep.cls = RX11 ∧ yX11_keep.cls ≠ "java/lang/invoke/MethodHandle" ∧ yX11_keep.cls ≠ "java/lang/invoke/VarHandle" ∧ (parseMethodDescriptor yX11_keep.desc).map (fun d => d.parameters.length) = some 1 := by decide +kernel
set_option maxHeartbeats 4000000 in
set_option maxRecDepth 100000 in
theorem k_X11_keep (l : Launch) (X : xX) (S : xS) (p0 : Int32) (hs : s_X11_keep S p0) : Met l yX11_keep wsX11_keep ({ frames := 1, cells := 0, slots := 0, locals := 25 } : Room) (va_Pc [.ref (X.2.1 127), .int p0] (xI X S)) (va_Qi (fun (r : Int32) (u : xS) => r = (f_X11_keep S p0).1 ∧ u = (f_X11_keep S p0).2) (xI X) (xA X)) 0 0 (xA X) := by
  refine Met.ofW (cc := cX11_keep) (maxL := 3) (ret := (some .int)) (by decide +kernel) rfl ?_
  intro p e s m args below meth c s₁ B hml hv
  obtain ⟨rfl, hP, hK, hN, hJ⟩ := hv
  have hx := B.exec
  have hb := B.bytes
  have hr := B.returns
  have hts := atoms_spec (ws := wsX11_keep) B.pre
  have hown : s.vm.findClass RX11 = some m.cls := findClass_of_methodNamed B.named
  have hlocks := B.notSynchronized
  have hC : xC X p m c cX11_keep 3 s _ wsX11_keep RX11 := ⟨⟨hx, hb, hml, hown, hts⟩, hK, hN, hJ⟩
  have hS : va_S (xA X) s.heap s.heap [] := va_S.rf
  have hin_X11 : ∀ w ∈ u_ws RX11 TX11 41, w ∈ wsX11_keep := by decide +kernel
  have hl := lv_entry ([.ref (X.2.1 127), .int p0]) (n := 3) (Nat.le_of_ble_eq_true rfl)
  rw [lg_entry_eq]
  generalize (lg_sl ([.ref (X.2.1 127), .int p0]) ++ List.replicate (3 - (lg_sl ([.ref (X.2.1 127), .int p0])).length) Slot.unset).toArray = ls at hl ⊢
  have hl : lv_has ls 3 [(0, .ref (X.2.1 127)), (1, .int p0)] := hl
  refine lv_iload_n hx hb dX11_keep_0 rfl (lv_at hl 1 rfl) ?_
  refine lv_i2l (v := (p0 : Int32).toInt64) hx hb dX11_keep_1 rfl ?_
  refine lv_lconst (v := 0) hx hb dX11_keep_2 (by decide) ?_
  refine lv_lconst (v := 1) hx hb dX11_keep_3 (by decide) ?_
  refine xcS_iR (As := [.long (p0 : Int32).toInt64, .long 0, .long 1]) (rest := []) hC hP hS (k_X11_in l X S (p0 : Int32).toInt64 0 1) (va_cwS 3 hts gX11_keep_X11_in rfl rfl rfl hs_X11_in ⟨Nat.le_of_ble_eq_true rfl, Nat.le_of_ble_eq_true rfl⟩) rfl rfl hl.1 (Nat.le_of_ble_eq_true rfl) dX11_keep_4 (fun r_1 hp_r_1 H locs hP hS => ?_)
  obtain ⟨hr_1, hzr_1⟩ := hp_r_1
  refine lv_if_ne (tgt := 13) hx hb dX11_keep_7 (by decide) (fun c_2 => ?_) (fun c_2 => ?_)
  · refine lv_iconst (v := 0) hx hb dX11_keep_13 (by decide) ?_
    refine lv_istore_n (lv' := [(2, .int 0), (0, .ref (X.2.1 127)), (1, .int p0)]) hx hb dX11_keep_14 rfl hl (by decide) rfl (fun ls hl => ?_)
    have hLp_15 : ∀ (n : Nat) (T_15 : xS) (x1_15 : Int32) (x2_15 : Int32), s_X11_keep_L15 n T_15 x1_15 x2_15 → (∀ q : xS, q = f_X11_keep_L15 n T_15 x1_15 x2_15 → (∀ (H : Heap) (locs : List Loc), va_P X.1 vwCl (xW X q) H → va_S (xA X) s.heap H locs → ∀ (ls : Array Slot), lv_has ls 3 [(0, .ref (X.2.1 127)), (1, .int x1_15)] → W p l e ({ frames := 1, cells := 0, slots := 0, locals := 25 } : Room) s m ([.ref (X.2.1 127), .int p0] : List Value).toArray below meth c H locs 0 0 (MQ below (va_Qi (fun (r : Int32) (u : xS) => r = (f_X11_keep S p0).1 ∧ u = (f_X11_keep S p0).2) (xI X) (xA X)) ([.ref (X.2.1 127), .int p0] : List Value).toArray s 0 0 (xA X)) (F0 m 44 ls []))) → ∀ (H : Heap) (locs : List Loc), va_P X.1 vwCl (xW X T_15) H → va_S (xA X) s.heap H locs → ∀ (ls : Array Slot), lv_has ls 3 [(0, .ref (X.2.1 127)), (1, .int x1_15), (2, .int x2_15)] → W p l e ({ frames := 1, cells := 0, slots := 0, locals := 25 } : Room) s m ([.ref (X.2.1 127), .int p0] : List Value).toArray below meth c H locs 0 0 (MQ below (va_Qi (fun (r : Int32) (u : xS) => r = (f_X11_keep S p0).1 ∧ u = (f_X11_keep S p0).2) (xI X) (xA X)) ([.ref (X.2.1 127), .int p0] : List Value).toArray s 0 0 (xA X)) (F0 m 15 ls []) := by
      intro n
      induction n with
      | zero => intro T_15 x1_15 x2_15 hs; exact hs.elim
      | succ n ih_15 =>
        intro T_15 x1_15 x2_15 hs_15 hex_15 H locs hP hS ls hl
        refine lv_iload_n hx hb dX11_keep_15 rfl (lv_at hl 2 rfl) ?_
        refine lv_bipush (v := 72) hx hb dX11_keep_16 (by decide) ?_
        refine lv_icmp_ge (tgt := 44) hx hb dX11_keep_18 (by decide) (fun c_3 => ?_) (fun c_3 => ?_)
        · have he_4 : f_X11_keep_L15 (n + 1) T_15 x1_15 x2_15 = T_15 := ((ip c_3 rfl))
          exact hex_15 _ he_4.symm _ _ hP hS ls (lv_sub hl [0, 1] rfl)
        · refine lv_aload_n hx hb dX11_keep_21 rfl (lv_at hl 0 rfl) ?_
          refine xget (ref := "AbsentPraiseModel") (T := TX11) (v := .ref (X.2.1 146)) hC hP hin_X11 xo_X11 rfl 39 (by decide) (List.mem_of_getElem? (i := 2) rfl) rfl rfl dX11_keep_22 ?_
          refine lv_bipush (v := 73) hx hb dX11_keep_25 (by decide) ?_
          refine lv_iload_n hx hb dX11_keep_27 rfl (lv_at hl 1 rfl) ?_
          refine lv_imul hx hb dX11_keep_28 ?_
          refine lv_iload_n hx hb dX11_keep_29 rfl (lv_at hl 2 rfl) ?_
          refine lv_iadd hx hb dX11_keep_30 ?_
          refine lv_aload_n hx hb dX11_keep_31 rfl (lv_at hl 0 rfl) ?_
          refine xget (ref := "AbsentPraiseModel") (T := TX11) (v := .ref (X.2.1 131)) hC hP hin_X11 xo_X11 rfl 8 (by decide) (List.mem_of_getElem? (i := 3) rfl) rfl rfl dX11_keep_32 ?_
          refine lv_iload_n hx hb dX11_keep_35 rfl (lv_at hl 2 rfl) ?_
          have hn_5 : vp_in x2_15 72 := (nl (sn hs_15 c_3))
          refine xiald hC hP rfl hn_5 dX11_keep_36 ?_
          have hn_6 : vp_in ((73 * x1_15) + x2_15) 146 := (nl (nr (sn hs_15 c_3)))
          refine xiast hC hP hS rfl hn_6 dX11_keep_37 (fun S_7 hS_7 H locs hP hS => ?_)
          refine lv_iinc (v := (x2_15 + 1)) (lv' := [(2, .int (x2_15 + 1)), (0, .ref (X.2.1 127)), (1, .int x1_15)]) hx hb dX11_keep_38 hl (k := 2) rfl rfl (by decide) rfl (fun ls hl => ?_)
          refine lv_goto (tgt := 15) hx hb dX11_keep_41 (by decide) ?_
          have he_8 : f_X11_keep_L15 (n + 1) T_15 x1_15 x2_15 = f_X11_keep_L15 n S_7 x1_15 (x2_15 + 1) := (by have hS_7 := hS_7.symm; subst hS_7; exact (iN c_3 rfl))
          exact ih_15 S_7 x1_15 (x2_15 + 1) (by have hS_7 := hS_7.symm; subst hS_7; exact (nr (nr (sn hs_15 c_3)))) (fun q hq => hex_15 q (hq.trans he_8.symm)) _ _ hP hS ls (lv_sub hl [1, 2, 0] rfl)
    refine hLp_15 ((fu 0 72)) S p0 0 (by have hr_1 := hr_1.symm; subst hr_1; exact nl (sn hs c_2)) (fun q_15 hq_15 H locs hP hS ls hl => ?_) _ _ hP hS ls (lv_sub hl [1, 2, 0] rfl)
    refine lv_aload_n hx hb dX11_keep_44 rfl (lv_at hl 0 rfl) ?_
    refine xget (ref := "AbsentPraiseModel") (T := TX11) (v := .ref (X.2.1 146)) hC hP hin_X11 xo_X11 rfl 39 (by decide) (List.mem_of_getElem? (i := 2) rfl) rfl rfl dX11_keep_45 ?_
    refine lv_bipush (v := 73) hx hb dX11_keep_48 (by decide) ?_
    refine lv_iload_n hx hb dX11_keep_50 rfl (lv_at hl 1 rfl) ?_
    refine lv_imul hx hb dX11_keep_51 ?_
    refine lv_bipush (v := 72) hx hb dX11_keep_52 (by decide) ?_
    refine lv_iadd hx hb dX11_keep_54 ?_
    refine lv_aload_n hx hb dX11_keep_55 rfl (lv_at hl 0 rfl) ?_
    refine xget (ref := "AbsentPraiseModel") (T := TX11) (v := .int (q_15 127 10)) hC hP hin_X11 xo_X11 rfl 10 (by decide) (List.mem_of_getElem? (i := 4) rfl) rfl rfl dX11_keep_56 ?_
    have hn_9 : vp_in ((73 * p0) + 72) 146 := (by have hr_1 := hr_1.symm; have hq_15 := hq_15.symm; subst hr_1 hq_15; exact nl (nr (sn hs c_2)))
    refine xiast hC hP hS rfl hn_9 dX11_keep_59 (fun S_10 hS_10 H locs hP hS => ?_)
    refine lv_aload_n hx hb dX11_keep_60 rfl (lv_at hl 0 rfl) ?_
    refine xget (ref := "AbsentPraiseModel") (T := TX11) (v := .ref (X.2.1 147)) hC hP hin_X11 xo_X11 rfl 40 (by decide) (List.mem_of_getElem? (i := 5) rfl) rfl rfl dX11_keep_61 ?_
    refine lv_iload_n hx hb dX11_keep_64 rfl (lv_at hl 1 rfl) ?_
    refine lv_iconst (v := 1) hx hb dX11_keep_65 (by decide) ?_
    have hn_11 : vp_in p0 2 := (by have hr_1 := hr_1.symm; have hq_15 := hq_15.symm; have hS_10 := hS_10.symm; subst hr_1 hq_15 hS_10; exact nl (nr (nr (sn hs c_2))))
    refine xzast hC hP hS hn_11 rfl dX11_keep_66 (fun S_12 hS_12 H locs hP hS => ?_)
    refine lv_aload_n hx hb dX11_keep_67 rfl (lv_at hl 0 rfl) ?_
    refine lv_iconst (v := 0) hx hb dX11_keep_68 (by decide) ?_
    refine xput (ref := "AbsentPraiseModel") (T := TX11) (ty := .int) hC hP hS (by decide) hin_X11 tyX11 tyX11_ok nmX11 xo_X11 rfl 36 (by decide) (List.mem_of_getElem? (i := 6) rfl) rfl rfl rfl rfl rfl (Nat.le_of_ble_eq_true rfl) dX11_keep_69 rfl (fun S_13 hS_13 H locs hP hS => ?_)
    refine lv_iconst (v := 1) hx hb dX11_keep_72 (by decide) ?_
    exact xret_iW hC hP hS hb hr (by simp only [f_X11_keep, ← hr_1, ← hq_15, ← hS_10, ← hS_12, ← hS_13, if_neg c_2]) dX11_keep_73 hlocks
  · refine lv_ldc (v := (-1000000001)) hx hb hown (hts (.constant RX11 230 (-1000000001)) (List.mem_of_getElem? (i := 1) rfl)) dX11_keep_10 ?_
    exact xret_iW hC hP hS hb hr (by simp only [f_X11_keep, ← hr_1, if_pos c_2]) dX11_keep_12 hlocks
theorem hd_X11_goBack : yX11_goBack.cls = RX11 ∧ yX11_goBack.cls ≠ "java/lang/invoke/MethodHandle" ∧ yX11_goBack.cls ≠ "java/lang/invoke/VarHandle" ∧ (parseMethodDescriptor yX11_goBack.desc).map (fun d => d.parameters.length) = some 1 := by decide +kernel
set_option maxHeartbeats 4000000 in
set_option maxRecDepth 100000 in
theorem k_X11_goBack (l : Launch) (X : xX) (S : xS) (p0 : Int32) (hs : s_X11_goBack S p0) : Met l yX11_goBack wsX11_goBack ({ frames := 1, cells := 0, slots := 0, locals := 25 } : Room) (va_Pc [.ref (X.2.1 127), .int p0] (xI X S)) (va_Qi (fun (r : Int32) (u : xS) => r = (f_X11_goBack S p0).1 ∧ u = (f_X11_goBack S p0).2) (xI X) (xA X)) 0 0 (xA X) := by
  refine Met.ofW (cc := cX11_goBack) (maxL := 3) (ret := (some .int)) (by decide +kernel) rfl ?_
  intro p e s m args below meth c s₁ B hml hv
  obtain ⟨rfl, hP, hK, hN, hJ⟩ := hv
  have hx := B.exec
  have hb := B.bytes
  have hr := B.returns
  have hts := atoms_spec (ws := wsX11_goBack) B.pre
  have hown : s.vm.findClass RX11 = some m.cls := findClass_of_methodNamed B.named
  have hlocks := B.notSynchronized
  have hC : xC X p m c cX11_goBack 3 s _ wsX11_goBack RX11 := ⟨⟨hx, hb, hml, hown, hts⟩, hK, hN, hJ⟩
  have hS : va_S (xA X) s.heap s.heap [] := va_S.rf
  have hin_X11 : ∀ w ∈ u_ws RX11 TX11 41, w ∈ wsX11_goBack := by decide +kernel
  have hl := lv_entry ([.ref (X.2.1 127), .int p0]) (n := 3) (Nat.le_of_ble_eq_true rfl)
  rw [lg_entry_eq]
  generalize (lg_sl ([.ref (X.2.1 127), .int p0]) ++ List.replicate (3 - (lg_sl ([.ref (X.2.1 127), .int p0])).length) Slot.unset).toArray = ls at hl ⊢
  have hl : lv_has ls 3 [(0, .ref (X.2.1 127)), (1, .int p0)] := hl
  refine lv_iload_n hx hb dX11_goBack_0 rfl (lv_at hl 1 rfl) ?_
  refine lv_i2l (v := (p0 : Int32).toInt64) hx hb dX11_goBack_1 rfl ?_
  refine lv_lconst (v := 0) hx hb dX11_goBack_2 (by decide) ?_
  refine lv_lconst (v := 1) hx hb dX11_goBack_3 (by decide) ?_
  refine xcS_iR (As := [.long (p0 : Int32).toInt64, .long 0, .long 1]) (rest := []) hC hP hS (k_X11_in l X S (p0 : Int32).toInt64 0 1) (va_cwS 3 hts gX11_goBack_X11_in rfl rfl rfl hs_X11_in ⟨Nat.le_of_ble_eq_true rfl, Nat.le_of_ble_eq_true rfl⟩) rfl rfl hl.1 (Nat.le_of_ble_eq_true rfl) dX11_goBack_4 (fun r_1 hp_r_1 H locs hP hS => ?_)
  obtain ⟨hr_1, hzr_1⟩ := hp_r_1
  refine lv_if_ne (tgt := 13) hx hb dX11_goBack_7 (by decide) (fun c_2 => ?_) (fun c_2 => ?_)
  · refine lv_aload_n hx hb dX11_goBack_13 rfl (lv_at hl 0 rfl) ?_
    refine xget (ref := "AbsentPraiseModel") (T := TX11) (v := .ref (X.2.1 147)) hC hP hin_X11 xo_X11 rfl 40 (by decide) (List.mem_of_getElem? (i := 2) rfl) rfl rfl dX11_goBack_14 ?_
    refine lv_iload_n hx hb dX11_goBack_17 rfl (lv_at hl 1 rfl) ?_
    have hn_3 : vp_in p0 2 := (by have hr_1 := hr_1.symm; subst hr_1; exact nl (sn hs c_2))
    refine xzald hC hP hn_3 dX11_goBack_18 ?_
    refine lv_if_ne (tgt := 25) hx hb dX11_goBack_19 (by decide) (fun c_4 => ?_) (fun c_4 => ?_)
    · refine lv_iconst (v := 0) hx hb dX11_goBack_25 (by decide) ?_
      refine lv_istore_n (lv' := [(2, .int 0), (0, .ref (X.2.1 127)), (1, .int p0)]) hx hb dX11_goBack_26 rfl hl (by decide) rfl (fun ls hl => ?_)
      have hLp_27 : ∀ (n : Nat) (T_27 : xS) (x1_27 : Int32) (x2_27 : Int32), s_X11_goBack_L27 n T_27 x1_27 x2_27 → (∀ q : xS, q = f_X11_goBack_L27 n T_27 x1_27 x2_27 → (∀ (H : Heap) (locs : List Loc), va_P X.1 vwCl (xW X q) H → va_S (xA X) s.heap H locs → ∀ (ls : Array Slot), lv_has ls 3 [(0, .ref (X.2.1 127)), (1, .int x1_27)] → W p l e ({ frames := 1, cells := 0, slots := 0, locals := 25 } : Room) s m ([.ref (X.2.1 127), .int p0] : List Value).toArray below meth c H locs 0 0 (MQ below (va_Qi (fun (r : Int32) (u : xS) => r = (f_X11_goBack S p0).1 ∧ u = (f_X11_goBack S p0).2) (xI X) (xA X)) ([.ref (X.2.1 127), .int p0] : List Value).toArray s 0 0 (xA X)) (F0 m 56 ls []))) → ∀ (H : Heap) (locs : List Loc), va_P X.1 vwCl (xW X T_27) H → va_S (xA X) s.heap H locs → ∀ (ls : Array Slot), lv_has ls 3 [(0, .ref (X.2.1 127)), (1, .int x1_27), (2, .int x2_27)] → W p l e ({ frames := 1, cells := 0, slots := 0, locals := 25 } : Room) s m ([.ref (X.2.1 127), .int p0] : List Value).toArray below meth c H locs 0 0 (MQ below (va_Qi (fun (r : Int32) (u : xS) => r = (f_X11_goBack S p0).1 ∧ u = (f_X11_goBack S p0).2) (xI X) (xA X)) ([.ref (X.2.1 127), .int p0] : List Value).toArray s 0 0 (xA X)) (F0 m 27 ls []) := by
        intro n
        induction n with
        | zero => intro T_27 x1_27 x2_27 hs; exact hs.elim
        | succ n ih_27 =>
          intro T_27 x1_27 x2_27 hs_27 hex_27 H locs hP hS ls hl
          refine lv_iload_n hx hb dX11_goBack_27 rfl (lv_at hl 2 rfl) ?_
          refine lv_bipush (v := 72) hx hb dX11_goBack_28 (by decide) ?_
          refine lv_icmp_ge (tgt := 56) hx hb dX11_goBack_30 (by decide) (fun c_5 => ?_) (fun c_5 => ?_)
          · have he_6 : f_X11_goBack_L27 (n + 1) T_27 x1_27 x2_27 = T_27 := ((ip c_5 rfl))
            exact hex_27 _ he_6.symm _ _ hP hS ls (lv_sub hl [0, 1] rfl)
          · refine lv_aload_n hx hb dX11_goBack_33 rfl (lv_at hl 0 rfl) ?_
            refine xget (ref := "AbsentPraiseModel") (T := TX11) (v := .ref (X.2.1 131)) hC hP hin_X11 xo_X11 rfl 8 (by decide) (List.mem_of_getElem? (i := 4) rfl) rfl rfl dX11_goBack_34 ?_
            refine lv_iload_n hx hb dX11_goBack_37 rfl (lv_at hl 2 rfl) ?_
            refine lv_aload_n hx hb dX11_goBack_38 rfl (lv_at hl 0 rfl) ?_
            refine xget (ref := "AbsentPraiseModel") (T := TX11) (v := .ref (X.2.1 146)) hC hP hin_X11 xo_X11 rfl 39 (by decide) (List.mem_of_getElem? (i := 5) rfl) rfl rfl dX11_goBack_39 ?_
            refine lv_bipush (v := 73) hx hb dX11_goBack_42 (by decide) ?_
            refine lv_iload_n hx hb dX11_goBack_44 rfl (lv_at hl 1 rfl) ?_
            refine lv_imul hx hb dX11_goBack_45 ?_
            refine lv_iload_n hx hb dX11_goBack_46 rfl (lv_at hl 2 rfl) ?_
            refine lv_iadd hx hb dX11_goBack_47 ?_
            have hn_7 : vp_in ((73 * x1_27) + x2_27) 146 := (nl (sn hs_27 c_5))
            refine xiald hC hP rfl hn_7 dX11_goBack_48 ?_
            have hn_8 : vp_in x2_27 72 := (nl (nr (sn hs_27 c_5)))
            refine xiast hC hP hS rfl hn_8 dX11_goBack_49 (fun S_9 hS_9 H locs hP hS => ?_)
            refine lv_iinc (v := (x2_27 + 1)) (lv' := [(2, .int (x2_27 + 1)), (0, .ref (X.2.1 127)), (1, .int x1_27)]) hx hb dX11_goBack_50 hl (k := 2) rfl rfl (by decide) rfl (fun ls hl => ?_)
            refine lv_goto (tgt := 27) hx hb dX11_goBack_53 (by decide) ?_
            have he_10 : f_X11_goBack_L27 (n + 1) T_27 x1_27 x2_27 = f_X11_goBack_L27 n S_9 x1_27 (x2_27 + 1) := (by have hS_9 := hS_9.symm; subst hS_9; exact (iN c_5 rfl))
            exact ih_27 S_9 x1_27 (x2_27 + 1) (by have hS_9 := hS_9.symm; subst hS_9; exact (nr (nr (sn hs_27 c_5)))) (fun q hq => hex_27 q (hq.trans he_10.symm)) _ _ hP hS ls (lv_sub hl [1, 2, 0] rfl)
      refine hLp_27 ((fu 0 72)) S p0 0 (by have hr_1 := hr_1.symm; subst hr_1; exact nl (sn (nr (sn hs c_2)) c_4)) (fun q_27 hq_27 H locs hP hS ls hl => ?_) _ _ hP hS ls (lv_sub hl [1, 2, 0] rfl)
      refine lv_aload_n hx hb dX11_goBack_56 rfl (lv_at hl 0 rfl) ?_
      refine lv_aload_n hx hb dX11_goBack_57 rfl (lv_at hl 0 rfl) ?_
      refine xget (ref := "AbsentPraiseModel") (T := TX11) (v := .ref (X.2.1 146)) hC hP hin_X11 xo_X11 rfl 39 (by decide) (List.mem_of_getElem? (i := 5) rfl) rfl rfl dX11_goBack_58 ?_
      refine lv_bipush (v := 73) hx hb dX11_goBack_61 (by decide) ?_
      refine lv_iload_n hx hb dX11_goBack_63 rfl (lv_at hl 1 rfl) ?_
      refine lv_imul hx hb dX11_goBack_64 ?_
      refine lv_bipush (v := 72) hx hb dX11_goBack_65 (by decide) ?_
      refine lv_iadd hx hb dX11_goBack_67 ?_
      have hn_11 : vp_in ((73 * p0) + 72) 146 := (by have hr_1 := hr_1.symm; have hq_27 := hq_27.symm; subst hr_1 hq_27; exact nl (nr (sn (nr (sn hs c_2)) c_4)))
      refine xiald hC hP rfl hn_11 dX11_goBack_68 ?_
      refine xput (ref := "AbsentPraiseModel") (T := TX11) (ty := .int) hC hP hS (by decide) hin_X11 tyX11 tyX11_ok nmX11 xo_X11 rfl 10 (by decide) (List.mem_of_getElem? (i := 6) rfl) rfl rfl rfl rfl rfl (Nat.le_of_ble_eq_true rfl) dX11_goBack_69 rfl (fun S_12 hS_12 H locs hP hS => ?_)
      refine lv_aload_n hx hb dX11_goBack_72 rfl (lv_at hl 0 rfl) ?_
      refine lv_iconst (v := 0) hx hb dX11_goBack_73 (by decide) ?_
      refine xput (ref := "AbsentPraiseModel") (T := TX11) (ty := .int) hC hP hS (by decide) hin_X11 tyX11 tyX11_ok nmX11 xo_X11 rfl 36 (by decide) (List.mem_of_getElem? (i := 7) rfl) rfl rfl rfl rfl rfl (Nat.le_of_ble_eq_true rfl) dX11_goBack_74 rfl (fun S_13 hS_13 H locs hP hS => ?_)
      refine lv_iconst (v := 1) hx hb dX11_goBack_77 (by decide) ?_
      exact xret_iW hC hP hS hb hr (by simp only [f_X11_goBack, ← hr_1, ← hq_27, ← hS_12, ← hS_13, if_neg c_2, if_neg c_4]) dX11_goBack_78 hlocks
    · refine lv_ldc (v := (-1000000003)) hx hb hown (hts (.constant RX11 239 (-1000000003)) (List.mem_of_getElem? (i := 3) rfl)) dX11_goBack_22 ?_
      exact xret_iW hC hP hS hb hr (by simp only [f_X11_goBack, ← hr_1, if_neg c_2, if_pos c_4]) dX11_goBack_24 hlocks
  · refine lv_ldc (v := (-1000000001)) hx hb hown (hts (.constant RX11 230 (-1000000001)) (List.mem_of_getElem? (i := 1) rfl)) dX11_goBack_10 ?_
    exact xret_iW hC hP hS hb hr (by simp only [f_X11_goBack, ← hr_1, if_pos c_2]) dX11_goBack_12 hlocks
