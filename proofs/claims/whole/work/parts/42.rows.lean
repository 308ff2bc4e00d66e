set_option linter.all false
/-! contracts: X11_ask, X11_listens, X11_write, X11_tear -/
theorem hd_X11_ask : yX11_ask.cls = RX11 ∧ yX11_ask.cls ≠ "java/lang/invoke/MethodHandle" ∧ yX11_ask.cls ≠ "java/lang/invoke/VarHandle" ∧ (parseMethodDescriptor yX11_ask.desc).map (fun d => d.parameters.length) = some 1 := by decide +kernel
set_option maxHeartbeats 4000000 in
set_option maxRecDepth 100000 in
theorem k_X11_ask (l : Launch) (X : xX) (S : xS) (p0 : Int32) (hs : s_X11_ask S p0) : Met l yX11_ask wsX11_ask ({ frames := 3, cells := 0, slots := 0, locals := 71 } : Room) (va_Pc [.ref (X.2.1 127), .int p0] (xI X S)) (va_Qi (fun (r : Int32) (u : xS) => r = (f_X11_ask S p0) ∧ u = S) (xI X) (xA X)) 0 0 (xA X) := by
  refine Met.ofW (cc := cX11_ask) (maxL := 9) (ret := (some .int)) (by decide +kernel) rfl ?_
  intro p e s m args below meth c s₁ B hml hv
  obtain ⟨rfl, hP, hK, hN, hJ⟩ := hv
  have hx := B.exec
  have hb := B.bytes
  have hr := B.returns
  have hts := atoms_spec (ws := wsX11_ask) B.pre
  have hown : s.vm.findClass RX11 = some m.cls := findClass_of_methodNamed B.named
  have hlocks := B.notSynchronized
  have hC : xC X p m c cX11_ask 9 s _ wsX11_ask RX11 := ⟨⟨hx, hb, hml, hown, hts⟩, hK, hN, hJ⟩
  have hS : va_S (xA X) s.heap s.heap [] := va_S.rf
  have hl := lv_entry ([.ref (X.2.1 127), .int p0]) (n := 9) (Nat.le_of_ble_eq_true rfl)
  rw [lg_entry_eq]
  generalize (lg_sl ([.ref (X.2.1 127), .int p0]) ++ List.replicate (9 - (lg_sl ([.ref (X.2.1 127), .int p0])).length) Slot.unset).toArray = ls at hl ⊢
  have hl : lv_has ls 9 [(0, .ref (X.2.1 127)), (1, .int p0)] := hl
  refine lv_iload_n hx hb dX11_ask_0 rfl (lv_at hl 1 rfl) ?_
  refine lv_i2l (v := (p0 : Int32).toInt64) hx hb dX11_ask_1 rfl ?_
  refine lv_lconst (v := 0) hx hb dX11_ask_2 (by decide) ?_
  refine lv_ldc2 (v := 2) hx hb hown (hts (.constantLong RX11 293 (2)) (List.mem_of_getElem? (i := 1) rfl)) dX11_ask_3 ?_
  refine xcS_iR (As := [.long (p0 : Int32).toInt64, .long 0, .long 2]) (rest := []) hC hP hS (k_X11_in l X S (p0 : Int32).toInt64 0 2) (va_cwS 3 hts gX11_ask_X11_in rfl rfl rfl hs_X11_in ⟨Nat.le_of_ble_eq_true rfl, Nat.le_of_ble_eq_true rfl⟩) rfl rfl hl.1 (Nat.le_of_ble_eq_true rfl) dX11_ask_6 (fun r_1 hp_r_1 H locs hP hS => ?_)
  obtain ⟨hr_1, hzr_1⟩ := hp_r_1
  refine lv_if_ne (tgt := 15) hx hb dX11_ask_9 (by decide) (fun c_2 => ?_) (fun c_2 => ?_)
  · refine lv_iconst (v := (-1)) hx hb dX11_ask_15 (by decide) ?_
    refine lv_istore_n (lv' := [(2, .int (-1)), (0, .ref (X.2.1 127)), (1, .int p0)]) hx hb dX11_ask_16 rfl hl (by decide) rfl (fun ls hl => ?_)
    refine lv_aload_n hx hb dX11_ask_17 rfl (lv_at hl 1 rfl) ?_
    refine lv_iconst (v := 0) hx hb dX11_ask_18 (by decide) ?_
    have hn_3 : s_X11_thinks S 0 := (by have hr_1 := hr_1.symm; subst hr_1; exact nl (sn hs c_2))
    refine xcV_iR (b := 127) (As := [.int 0]) (rest := []) hC hP hS (k_X11_thinks l X S 0 hn_3) (cwV 1 hts gX11_ask_X11_thinks rfl rfl rfl hd_X11_thinks ⟨Nat.le_of_ble_eq_true rfl, Nat.le_of_ble_eq_true rfl⟩) xo_X11 rfl rfl rfl hl.1 (Nat.le_of_ble_eq_true rfl) dX11_ask_19 (fun r_4 hr_4 H locs hP hS => ?_)
    refine lv_istore_n (lv' := [(3, .int r_4), (2, .int (-1)), (0, .ref (X.2.1 127)), (1, .int p0)]) hx hb dX11_ask_22 rfl hl (by decide) rfl (fun ls hl => ?_)
    refine lv_iconst (v := 0) hx hb dX11_ask_23 (by decide) ?_
    refine lv_istore (lv' := [(4, .int 0), (3, .int r_4), (2, .int (-1)), (0, .ref (X.2.1 127)), (1, .int p0)]) hx hb dX11_ask_24 hl (by decide) rfl (fun ls hl => ?_)
    have hLp_26 : ∀ (n : Nat) (x1_26 : Int32) (x2_26 : Int32) (x3_26 : Int32) (x4_26 : Int32), s_X11_ask_L26 n S x1_26 x2_26 x3_26 x4_26 → (∀ q : Int32, q = f_X11_ask_L26 n S x1_26 x2_26 x3_26 x4_26 → (∀ (H : Heap) (locs : List Loc), va_P X.1 vwCl (xW X S) H → va_S (xA X) s.heap H locs → ∀ (ls : Array Slot), lv_has ls 9 [(2, .int q)] → W p l e ({ frames := 3, cells := 0, slots := 0, locals := 71 } : Room) s m ([.ref (X.2.1 127), .int p0] : List Value).toArray below meth c H locs 0 0 (MQ below (va_Qi (fun (r : Int32) (u : xS) => r = (f_X11_ask S p0) ∧ u = S) (xI X) (xA X)) ([.ref (X.2.1 127), .int p0] : List Value).toArray s 0 0 (xA X)) (F0 m 183 ls []))) → ∀ (H : Heap) (locs : List Loc), va_P X.1 vwCl (xW X S) H → va_S (xA X) s.heap H locs → ∀ (ls : Array Slot), lv_has ls 9 [(0, .ref (X.2.1 127)), (1, .int x1_26), (2, .int x2_26), (3, .int x3_26), (4, .int x4_26)] → W p l e ({ frames := 3, cells := 0, slots := 0, locals := 71 } : Room) s m ([.ref (X.2.1 127), .int p0] : List Value).toArray below meth c H locs 0 0 (MQ below (va_Qi (fun (r : Int32) (u : xS) => r = (f_X11_ask S p0) ∧ u = S) (xI X) (xA X)) ([.ref (X.2.1 127), .int p0] : List Value).toArray s 0 0 (xA X)) (F0 m 26 ls []) := by
      intro n
      induction n with
      | zero => intro x1_26 x2_26 x3_26 x4_26 hs; exact hs.elim
      | succ n ih_26 =>
        intro x1_26 x2_26 x3_26 x4_26 hs_26 hex_26 H locs hP hS ls hl
        refine lv_iload hx hb dX11_ask_26 (lv_at hl 4 rfl) ?_
        refine lv_iconst (v := 2) hx hb dX11_ask_28 (by decide) ?_
        refine lv_icmp_ge (tgt := 183) hx hb dX11_ask_29 (by decide) (fun c_5 => ?_) (fun c_5 => ?_)
        · have he_6 : f_X11_ask_L26 (n + 1) S x1_26 x2_26 x3_26 x4_26 = x2_26 := ((ip c_5 rfl))
          exact hex_26 _ he_6.symm _ _ hP hS ls (lv_sub hl [2] rfl)
        · refine lv_iconst (v := 0) hx hb dX11_ask_32 (by decide) ?_
          refine lv_istore (lv' := [(5, .int 0), (0, .ref (X.2.1 127)), (1, .int x1_26), (2, .int x2_26), (3, .int x3_26), (4, .int x4_26)]) hx hb dX11_ask_33 hl (by decide) rfl (fun ls hl => ?_)
          refine lv_iconst (v := 0) hx hb dX11_ask_35 (by decide) ?_
          refine lv_istore (lv' := [(6, .int 0), (5, .int 0), (0, .ref (X.2.1 127)), (1, .int x1_26), (2, .int x2_26), (3, .int x3_26), (4, .int x4_26)]) hx hb dX11_ask_36 hl (by decide) rfl (fun ls hl => ?_)
          have hLp_38 : ∀ (n : Nat) (x1_38 : Int32) (x2_38 : Int32) (x3_38 : Int32) (x4_38 : Int32) (x5_38 : Int32) (x6_38 : Int32), s_X11_ask_L38 n S x1_38 x2_38 x3_38 x4_38 x5_38 x6_38 → (∀ q : Int32, q = f_X11_ask_L38 n S x1_38 x2_38 x3_38 x4_38 x5_38 x6_38 → (∀ (H : Heap) (locs : List Loc), va_P X.1 vwCl (xW X S) H → va_S (xA X) s.heap H locs → ∀ (ls : Array Slot), lv_has ls 9 [(0, .ref (X.2.1 127)), (1, .int x1_38), (2, .int x2_38), (3, .int x3_38), (4, .int x4_38), (5, .int q)] → W p l e ({ frames := 3, cells := 0, slots := 0, locals := 71 } : Room) s m ([.ref (X.2.1 127), .int p0] : List Value).toArray below meth c H locs 0 0 (MQ below (va_Qi (fun (r : Int32) (u : xS) => r = (f_X11_ask S p0) ∧ u = S) (xI X) (xA X)) ([.ref (X.2.1 127), .int p0] : List Value).toArray s 0 0 (xA X)) (F0 m 151 ls []))) → ∀ (H : Heap) (locs : List Loc), va_P X.1 vwCl (xW X S) H → va_S (xA X) s.heap H locs → ∀ (ls : Array Slot), lv_has ls 9 [(0, .ref (X.2.1 127)), (1, .int x1_38), (2, .int x2_38), (3, .int x3_38), (4, .int x4_38), (5, .int x5_38), (6, .int x6_38)] → W p l e ({ frames := 3, cells := 0, slots := 0, locals := 71 } : Room) s m ([.ref (X.2.1 127), .int p0] : List Value).toArray below meth c H locs 0 0 (MQ below (va_Qi (fun (r : Int32) (u : xS) => r = (f_X11_ask S p0) ∧ u = S) (xI X) (xA X)) ([.ref (X.2.1 127), .int p0] : List Value).toArray s 0 0 (xA X)) (F0 m 38 ls []) := by
            intro n
            induction n with
            | zero => intro x1_38 x2_38 x3_38 x4_38 x5_38 x6_38 hs; exact hs.elim
            | succ n ih_38 =>
              intro x1_38 x2_38 x3_38 x4_38 x5_38 x6_38 hs_38 hex_38 H locs hP hS ls hl
              refine lv_iload hx hb dX11_ask_38 (lv_at hl 6 rfl) ?_
              refine lv_bipush (v := 10) hx hb dX11_ask_40 (by decide) ?_
              refine lv_icmp_ge (tgt := 151) hx hb dX11_ask_42 (by decide) (fun c_7 => ?_) (fun c_7 => ?_)
              · have he_8 : f_X11_ask_L38 (n + 1) S x1_38 x2_38 x3_38 x4_38 x5_38 x6_38 = x5_38 := ((ip c_7 rfl))
                exact hex_38 _ he_8.symm _ _ hP hS ls (lv_sub hl [0, 1, 2, 3, 4, 5] rfl)
              · refine lv_iconst (v := 0) hx hb dX11_ask_45 (by decide) ?_
                refine lv_istore (lv' := [(7, .int 0), (0, .ref (X.2.1 127)), (1, .int x1_38), (2, .int x2_38), (3, .int x3_38), (4, .int x4_38), (5, .int x5_38), (6, .int x6_38)]) hx hb dX11_ask_46 hl (by decide) rfl (fun ls hl => ?_)
                refine lv_iconst (v := 0) hx hb dX11_ask_48 (by decide) ?_
                refine lv_istore (lv' := [(8, .int 0), (7, .int 0), (0, .ref (X.2.1 127)), (1, .int x1_38), (2, .int x2_38), (3, .int x3_38), (4, .int x4_38), (5, .int x5_38), (6, .int x6_38)]) hx hb dX11_ask_49 hl (by decide) rfl (fun ls hl => ?_)
                have hLp_51 : ∀ (n : Nat) (x1_51 : Int32) (x2_51 : Int32) (x3_51 : Int32) (x4_51 : Int32) (x5_51 : Int32) (x6_51 : Int32) (x7_51 : Int32) (x8_51 : Int32), s_X11_ask_L51 n S x1_51 x2_51 x3_51 x4_51 x5_51 x6_51 x7_51 x8_51 → (∀ q : Int32, q = f_X11_ask_L51 n S x1_51 x2_51 x3_51 x4_51 x5_51 x6_51 x7_51 x8_51 → (∀ (H : Heap) (locs : List Loc), va_P X.1 vwCl (xW X S) H → va_S (xA X) s.heap H locs → ∀ (ls : Array Slot), lv_has ls 9 [(0, .ref (X.2.1 127)), (1, .int x1_51), (2, .int x2_51), (3, .int x3_51), (4, .int x4_51), (5, .int x5_51), (6, .int x6_51), (7, .int q)] → W p l e ({ frames := 3, cells := 0, slots := 0, locals := 71 } : Room) s m ([.ref (X.2.1 127), .int p0] : List Value).toArray below meth c H locs 0 0 (MQ below (va_Qi (fun (r : Int32) (u : xS) => r = (f_X11_ask S p0) ∧ u = S) (xI X) (xA X)) ([.ref (X.2.1 127), .int p0] : List Value).toArray s 0 0 (xA X)) (F0 m 129 ls []))) → ∀ (H : Heap) (locs : List Loc), va_P X.1 vwCl (xW X S) H → va_S (xA X) s.heap H locs → ∀ (ls : Array Slot), lv_has ls 9 [(0, .ref (X.2.1 127)), (1, .int x1_51), (2, .int x2_51), (3, .int x3_51), (4, .int x4_51), (5, .int x5_51), (6, .int x6_51), (7, .int x7_51), (8, .int x8_51)] → W p l e ({ frames := 3, cells := 0, slots := 0, locals := 71 } : Room) s m ([.ref (X.2.1 127), .int p0] : List Value).toArray below meth c H locs 0 0 (MQ below (va_Qi (fun (r : Int32) (u : xS) => r = (f_X11_ask S p0) ∧ u = S) (xI X) (xA X)) ([.ref (X.2.1 127), .int p0] : List Value).toArray s 0 0 (xA X)) (F0 m 51 ls []) := by
                  intro n
                  induction n with
                  | zero => intro x1_51 x2_51 x3_51 x4_51 x5_51 x6_51 x7_51 x8_51 hs; exact hs.elim
                  | succ n ih_51 =>
                    intro x1_51 x2_51 x3_51 x4_51 x5_51 x6_51 x7_51 x8_51 hs_51 hex_51 H locs hP hS ls hl
                    refine lv_iload hx hb dX11_ask_51 (lv_at hl 8 rfl) ?_
                    refine lv_bipush (v := 10) hx hb dX11_ask_53 (by decide) ?_
                    refine lv_icmp_ge (tgt := 129) hx hb dX11_ask_55 (by decide) (fun c_9 => ?_) (fun c_9 => ?_)
                    · have he_10 : f_X11_ask_L51 (n + 1) S x1_51 x2_51 x3_51 x4_51 x5_51 x6_51 x7_51 x8_51 = x7_51 := ((ip c_9 rfl))
                      exact hex_51 _ he_10.symm _ _ hP hS ls (lv_sub hl [0, 1, 2, 3, 4, 5, 6, 7] rfl)
                    · refine lv_iload hx hb dX11_ask_58 (lv_at hl 7 rfl) ?_
                      refine lv_aload_n hx hb dX11_ask_60 rfl (lv_at hl 0 rfl) ?_
                      refine lv_iload hx hb dX11_ask_61 (lv_at hl 6 rfl) ?_
                      have hn_11 : s_X11_isSo S x6_51 := (nl (sn hs_51 c_9))
                      refine xcV_iR (b := 127) (As := [.int x6_51]) (rest := [.int x7_51]) hC hP hS (k_X11_isSo l X S x6_51 hn_11) (cwV 1 hts gX11_ask_X11_isSo rfl rfl rfl hd_X11_isSo ⟨Nat.le_of_ble_eq_true rfl, Nat.le_of_ble_eq_true rfl⟩) xo_X11 rfl rfl rfl hl.1 (Nat.le_of_ble_eq_true rfl) dX11_ask_63 (fun r_12 hp_r_12 H locs hP hS => ?_)
                      obtain ⟨hr_12, hzr_12⟩ := hp_r_12
                      refine lv_if_eq (tgt := 119) hx hb dX11_ask_66 (by decide) (fun c_13 => ?_) (fun c_13 => ?_)
                      · refine lv_iconst (v := 0) hx hb dX11_ask_119 (by decide) ?_
                        refine lv_iadd hx hb dX11_ask_120 ?_
                        refine lv_istore (lv' := [(7, .int (x7_51 + 0)), (0, .ref (X.2.1 127)), (1, .int x1_51), (2, .int x2_51), (3, .int x3_51), (4, .int x4_51), (5, .int x5_51), (6, .int x6_51), (8, .int x8_51)]) hx hb dX11_ask_121 hl (by decide) rfl (fun ls hl => ?_)
                        refine lv_iinc (v := (x8_51 + 1)) (lv' := [(8, .int (x8_51 + 1)), (7, .int (x7_51 + 0)), (0, .ref (X.2.1 127)), (1, .int x1_51), (2, .int x2_51), (3, .int x3_51), (4, .int x4_51), (5, .int x5_51), (6, .int x6_51)]) hx hb dX11_ask_123 hl (k := 8) rfl rfl (by decide) rfl (fun ls hl => ?_)
                        refine lv_goto (tgt := 51) hx hb dX11_ask_126 (by decide) ?_
                        have he_14 : f_X11_ask_L51 (n + 1) S x1_51 x2_51 x3_51 x4_51 x5_51 x6_51 x7_51 x8_51 = f_X11_ask_L51 n S x1_51 x2_51 x3_51 x4_51 x5_51 x6_51 (x7_51 + 0) (x8_51 + 1) := (by have hr_12 := hr_12.symm; subst hr_12; exact (iN c_9 (ip c_13 rfl)))
                        exact ih_51 x1_51 x2_51 x3_51 x4_51 x5_51 x6_51 (x7_51 + 0) (x8_51 + 1) (by have hr_12 := hr_12.symm; subst hr_12; exact (sp (nr (sn hs_51 c_9)) c_13)) (fun q hq => hex_51 q (hq.trans he_14.symm)) _ _ hP hS ls (lv_sub hl [2, 3, 4, 5, 6, 7, 8, 1, 0] rfl)
                      · refine lv_aload_n hx hb dX11_ask_69 rfl (lv_at hl 0 rfl) ?_
                        refine lv_iload hx hb dX11_ask_70 (lv_at hl 8 rfl) ?_
                        have hn_15 : s_X11_isSo S x8_51 := (by have hr_12 := hr_12.symm; subst hr_12; exact nl (sn (nr (sn hs_51 c_9)) c_13))
                        refine xcV_iR (b := 127) (As := [.int x8_51]) (rest := [.int x7_51]) hC hP hS (k_X11_isSo l X S x8_51 hn_15) (cwV 1 hts gX11_ask_X11_isSo rfl rfl rfl hd_X11_isSo ⟨Nat.le_of_ble_eq_true rfl, Nat.le_of_ble_eq_true rfl⟩) xo_X11 rfl rfl rfl hl.1 (Nat.le_of_ble_eq_true rfl) dX11_ask_72 (fun r_16 hp_r_16 H locs hP hS => ?_)
                        obtain ⟨hr_16, hzr_16⟩ := hp_r_16
                        refine lv_if_eq (tgt := 119) hx hb dX11_ask_75 (by decide) (fun c_17 => ?_) (fun c_17 => ?_)
                        · refine lv_iconst (v := 0) hx hb dX11_ask_119 (by decide) ?_
                          refine lv_iadd hx hb dX11_ask_120 ?_
                          refine lv_istore (lv' := [(7, .int (x7_51 + 0)), (0, .ref (X.2.1 127)), (1, .int x1_51), (2, .int x2_51), (3, .int x3_51), (4, .int x4_51), (5, .int x5_51), (6, .int x6_51), (8, .int x8_51)]) hx hb dX11_ask_121 hl (by decide) rfl (fun ls hl => ?_)
                          refine lv_iinc (v := (x8_51 + 1)) (lv' := [(8, .int (x8_51 + 1)), (7, .int (x7_51 + 0)), (0, .ref (X.2.1 127)), (1, .int x1_51), (2, .int x2_51), (3, .int x3_51), (4, .int x4_51), (5, .int x5_51), (6, .int x6_51)]) hx hb dX11_ask_123 hl (k := 8) rfl rfl (by decide) rfl (fun ls hl => ?_)
                          refine lv_goto (tgt := 51) hx hb dX11_ask_126 (by decide) ?_
                          have he_18 : f_X11_ask_L51 (n + 1) S x1_51 x2_51 x3_51 x4_51 x5_51 x6_51 x7_51 x8_51 = f_X11_ask_L51 n S x1_51 x2_51 x3_51 x4_51 x5_51 x6_51 (x7_51 + 0) (x8_51 + 1) := (by have hr_12 := hr_12.symm; have hr_16 := hr_16.symm; subst hr_12 hr_16; exact (iN c_9 (iN c_13 (ip c_17 rfl))))
                          exact ih_51 x1_51 x2_51 x3_51 x4_51 x5_51 x6_51 (x7_51 + 0) (x8_51 + 1) (by have hr_12 := hr_12.symm; have hr_16 := hr_16.symm; subst hr_12 hr_16; exact (sp (nr (sn (nr (sn hs_51 c_9)) c_13)) c_17)) (fun q hq => hex_51 q (hq.trans he_18.symm)) _ _ hP hS ls (lv_sub hl [2, 3, 4, 5, 6, 7, 8, 1, 0] rfl)
                        · refine lv_iload_n hx hb dX11_ask_78 rfl (lv_at hl 1 rfl) ?_
                          refine lv_iload hx hb dX11_ask_79 (lv_at hl 6 rfl) ?_
                          refine lv_iload hx hb dX11_ask_81 (lv_at hl 4 rfl) ?_
                          refine lv_iconst (v := 1) hx hb dX11_ask_83 (by decide) ?_
                          refine lv_icmp_ne (tgt := 91) hx hb dX11_ask_84 (by decide) (fun c_19 => ?_) (fun c_19 => ?_)
                          · refine lv_iconst (v := 0) hx hb dX11_ask_91 (by decide) ?_
                            refine xcS_iR (As := [.int x1_51, .int x6_51, .int 0]) (rest := [.int x7_51]) hC hP hS (k_X11_sayBy l X S x1_51 x6_51 0) (va_cwS 3 hts gX11_ask_X11_sayBy rfl rfl rfl hs_X11_sayBy ⟨Nat.le_of_ble_eq_true rfl, Nat.le_of_ble_eq_true rfl⟩) rfl rfl hl.1 (Nat.le_of_ble_eq_true rfl) dX11_ask_92 (fun r_20 hr_20 H locs hP hS => ?_)
                            refine lv_iload_n hx hb dX11_ask_95 rfl (lv_at hl 1 rfl) ?_
                            refine lv_iload hx hb dX11_ask_96 (lv_at hl 8 rfl) ?_
                            refine lv_iload hx hb dX11_ask_98 (lv_at hl 4 rfl) ?_
                            refine lv_iconst (v := 1) hx hb dX11_ask_100 (by decide) ?_
                            refine lv_icmp_ne (tgt := 108) hx hb dX11_ask_101 (by decide) (fun _ => ?_) (fun c => absurd c c_19)
                            refine lv_iconst (v := 0) hx hb dX11_ask_108 (by decide) ?_
                            refine xcS_iR (As := [.int x1_51, .int x8_51, .int 0]) (rest := [.int r_20, .int x7_51]) hC hP hS (k_X11_sayBy l X S x1_51 x8_51 0) (va_cwS 3 hts gX11_ask_X11_sayBy rfl rfl rfl hs_X11_sayBy ⟨Nat.le_of_ble_eq_true rfl, Nat.le_of_ble_eq_true rfl⟩) rfl rfl hl.1 (Nat.le_of_ble_eq_true rfl) dX11_ask_109 (fun r_21 hr_21 H locs hP hS => ?_)
                            refine lv_icmp_ne (tgt := 119) hx hb dX11_ask_112 (by decide) (fun c_22 => ?_) (fun c_22 => ?_)
                            · refine lv_iconst (v := 0) hx hb dX11_ask_119 (by decide) ?_
                              refine lv_iadd hx hb dX11_ask_120 ?_
                              refine lv_istore (lv' := [(7, .int (x7_51 + 0)), (0, .ref (X.2.1 127)), (1, .int x1_51), (2, .int x2_51), (3, .int x3_51), (4, .int x4_51), (5, .int x5_51), (6, .int x6_51), (8, .int x8_51)]) hx hb dX11_ask_121 hl (by decide) rfl (fun ls hl => ?_)
                              refine lv_iinc (v := (x8_51 + 1)) (lv' := [(8, .int (x8_51 + 1)), (7, .int (x7_51 + 0)), (0, .ref (X.2.1 127)), (1, .int x1_51), (2, .int x2_51), (3, .int x3_51), (4, .int x4_51), (5, .int x5_51), (6, .int x6_51)]) hx hb dX11_ask_123 hl (k := 8) rfl rfl (by decide) rfl (fun ls hl => ?_)
                              refine lv_goto (tgt := 51) hx hb dX11_ask_126 (by decide) ?_
                              have he_23 : f_X11_ask_L51 (n + 1) S x1_51 x2_51 x3_51 x4_51 x5_51 x6_51 x7_51 x8_51 = f_X11_ask_L51 n S x1_51 x2_51 x3_51 x4_51 x5_51 x6_51 (x7_51 + 0) (x8_51 + 1) := (by have hr_12 := hr_12.symm; have hr_16 := hr_16.symm; have hr_20 := hr_20.symm; have hr_21 := hr_21.symm; subst hr_12 hr_16 hr_20 hr_21; exact (iN c_9 (iN c_13 (iN c_17 (iN c_19 (iN c_22 rfl))))))
                              exact ih_51 x1_51 x2_51 x3_51 x4_51 x5_51 x6_51 (x7_51 + 0) (x8_51 + 1) (by have hr_12 := hr_12.symm; have hr_16 := hr_16.symm; have hr_20 := hr_20.symm; have hr_21 := hr_21.symm; subst hr_12 hr_16 hr_20 hr_21; exact (sn (sn (sn (nr (sn (nr (sn hs_51 c_9)) c_13)) c_17) c_19) c_22)) (fun q hq => hex_51 q (hq.trans he_23.symm)) _ _ hP hS ls (lv_sub hl [2, 3, 4, 5, 6, 7, 8, 1, 0] rfl)
                            · refine lv_iconst (v := 1) hx hb dX11_ask_115 (by decide) ?_
                              refine lv_goto (tgt := 120) hx hb dX11_ask_116 (by decide) ?_
                              refine lv_iadd hx hb dX11_ask_120 ?_
                              refine lv_istore (lv' := [(7, .int (x7_51 + 1)), (0, .ref (X.2.1 127)), (1, .int x1_51), (2, .int x2_51), (3, .int x3_51), (4, .int x4_51), (5, .int x5_51), (6, .int x6_51), (8, .int x8_51)]) hx hb dX11_ask_121 hl (by decide) rfl (fun ls hl => ?_)
                              refine lv_iinc (v := (x8_51 + 1)) (lv' := [(8, .int (x8_51 + 1)), (7, .int (x7_51 + 1)), (0, .ref (X.2.1 127)), (1, .int x1_51), (2, .int x2_51), (3, .int x3_51), (4, .int x4_51), (5, .int x5_51), (6, .int x6_51)]) hx hb dX11_ask_123 hl (k := 8) rfl rfl (by decide) rfl (fun ls hl => ?_)
                              refine lv_goto (tgt := 51) hx hb dX11_ask_126 (by decide) ?_
                              have he_24 : f_X11_ask_L51 (n + 1) S x1_51 x2_51 x3_51 x4_51 x5_51 x6_51 x7_51 x8_51 = f_X11_ask_L51 n S x1_51 x2_51 x3_51 x4_51 x5_51 x6_51 (x7_51 + 1) (x8_51 + 1) := (by have hr_12 := hr_12.symm; have hr_16 := hr_16.symm; have hr_20 := hr_20.symm; have hr_21 := hr_21.symm; subst hr_12 hr_16 hr_20 hr_21; exact (iN c_9 (iN c_13 (iN c_17 (iN c_19 (ip c_22 rfl))))))
                              exact ih_51 x1_51 x2_51 x3_51 x4_51 x5_51 x6_51 (x7_51 + 1) (x8_51 + 1) (by have hr_12 := hr_12.symm; have hr_16 := hr_16.symm; have hr_20 := hr_20.symm; have hr_21 := hr_21.symm; subst hr_12 hr_16 hr_20 hr_21; exact (sp (sn (sn (nr (sn (nr (sn hs_51 c_9)) c_13)) c_17) c_19) c_22)) (fun q hq => hex_51 q (hq.trans he_24.symm)) _ _ hP hS ls (lv_sub hl [2, 3, 4, 5, 6, 7, 8, 1, 0] rfl)
                          · refine lv_iconst (v := 1) hx hb dX11_ask_87 (by decide) ?_
                            refine lv_goto (tgt := 92) hx hb dX11_ask_88 (by decide) ?_
                            refine xcS_iR (As := [.int x1_51, .int x6_51, .int 1]) (rest := [.int x7_51]) hC hP hS (k_X11_sayBy l X S x1_51 x6_51 1) (va_cwS 3 hts gX11_ask_X11_sayBy rfl rfl rfl hs_X11_sayBy ⟨Nat.le_of_ble_eq_true rfl, Nat.le_of_ble_eq_true rfl⟩) rfl rfl hl.1 (Nat.le_of_ble_eq_true rfl) dX11_ask_92 (fun r_25 hr_25 H locs hP hS => ?_)
                            refine lv_iload_n hx hb dX11_ask_95 rfl (lv_at hl 1 rfl) ?_
                            refine lv_iload hx hb dX11_ask_96 (lv_at hl 8 rfl) ?_
                            refine lv_iload hx hb dX11_ask_98 (lv_at hl 4 rfl) ?_
                            refine lv_iconst (v := 1) hx hb dX11_ask_100 (by decide) ?_
                            refine lv_icmp_ne (tgt := 108) hx hb dX11_ask_101 (by decide) (fun c => absurd c_19 c) (fun _ => ?_)
                            refine lv_iconst (v := 1) hx hb dX11_ask_104 (by decide) ?_
                            refine lv_goto (tgt := 109) hx hb dX11_ask_105 (by decide) ?_
                            refine xcS_iR (As := [.int x1_51, .int x8_51, .int 1]) (rest := [.int r_25, .int x7_51]) hC hP hS (k_X11_sayBy l X S x1_51 x8_51 1) (va_cwS 3 hts gX11_ask_X11_sayBy rfl rfl rfl hs_X11_sayBy ⟨Nat.le_of_ble_eq_true rfl, Nat.le_of_ble_eq_true rfl⟩) rfl rfl hl.1 (Nat.le_of_ble_eq_true rfl) dX11_ask_109 (fun r_26 hr_26 H locs hP hS => ?_)
                            refine lv_icmp_ne (tgt := 119) hx hb dX11_ask_112 (by decide) (fun c_27 => ?_) (fun c_27 => ?_)
                            · refine lv_iconst (v := 0) hx hb dX11_ask_119 (by decide) ?_
                              refine lv_iadd hx hb dX11_ask_120 ?_
                              refine lv_istore (lv' := [(7, .int (x7_51 + 0)), (0, .ref (X.2.1 127)), (1, .int x1_51), (2, .int x2_51), (3, .int x3_51), (4, .int x4_51), (5, .int x5_51), (6, .int x6_51), (8, .int x8_51)]) hx hb dX11_ask_121 hl (by decide) rfl (fun ls hl => ?_)
                              refine lv_iinc (v := (x8_51 + 1)) (lv' := [(8, .int (x8_51 + 1)), (7, .int (x7_51 + 0)), (0, .ref (X.2.1 127)), (1, .int x1_51), (2, .int x2_51), (3, .int x3_51), (4, .int x4_51), (5, .int x5_51), (6, .int x6_51)]) hx hb dX11_ask_123 hl (k := 8) rfl rfl (by decide) rfl (fun ls hl => ?_)
                              refine lv_goto (tgt := 51) hx hb dX11_ask_126 (by decide) ?_
                              have he_28 : f_X11_ask_L51 (n + 1) S x1_51 x2_51 x3_51 x4_51 x5_51 x6_51 x7_51 x8_51 = f_X11_ask_L51 n S x1_51 x2_51 x3_51 x4_51 x5_51 x6_51 (x7_51 + 0) (x8_51 + 1) := (by have hr_12 := hr_12.symm; have hr_16 := hr_16.symm; have hr_25 := hr_25.symm; have hr_26 := hr_26.symm; subst hr_12 hr_16 hr_25 hr_26; exact (iN c_9 (iN c_13 (iN c_17 (ip c_19 (iN c_27 rfl))))))
                              exact ih_51 x1_51 x2_51 x3_51 x4_51 x5_51 x6_51 (x7_51 + 0) (x8_51 + 1) (by have hr_12 := hr_12.symm; have hr_16 := hr_16.symm; have hr_25 := hr_25.symm; have hr_26 := hr_26.symm; subst hr_12 hr_16 hr_25 hr_26; exact (sn (sp (sn (nr (sn (nr (sn hs_51 c_9)) c_13)) c_17) c_19) c_27)) (fun q hq => hex_51 q (hq.trans he_28.symm)) _ _ hP hS ls (lv_sub hl [2, 3, 4, 5, 6, 7, 8, 1, 0] rfl)
                            · refine lv_iconst (v := 1) hx hb dX11_ask_115 (by decide) ?_
                              refine lv_goto (tgt := 120) hx hb dX11_ask_116 (by decide) ?_
                              refine lv_iadd hx hb dX11_ask_120 ?_
                              refine lv_istore (lv' := [(7, .int (x7_51 + 1)), (0, .ref (X.2.1 127)), (1, .int x1_51), (2, .int x2_51), (3, .int x3_51), (4, .int x4_51), (5, .int x5_51), (6, .int x6_51), (8, .int x8_51)]) hx hb dX11_ask_121 hl (by decide) rfl (fun ls hl => ?_)
                              refine lv_iinc (v := (x8_51 + 1)) (lv' := [(8, .int (x8_51 + 1)), (7, .int (x7_51 + 1)), (0, .ref (X.2.1 127)), (1, .int x1_51), (2, .int x2_51), (3, .int x3_51), (4, .int x4_51), (5, .int x5_51), (6, .int x6_51)]) hx hb dX11_ask_123 hl (k := 8) rfl rfl (by decide) rfl (fun ls hl => ?_)
                              refine lv_goto (tgt := 51) hx hb dX11_ask_126 (by decide) ?_
                              have he_29 : f_X11_ask_L51 (n + 1) S x1_51 x2_51 x3_51 x4_51 x5_51 x6_51 x7_51 x8_51 = f_X11_ask_L51 n S x1_51 x2_51 x3_51 x4_51 x5_51 x6_51 (x7_51 + 1) (x8_51 + 1) := (by have hr_12 := hr_12.symm; have hr_16 := hr_16.symm; have hr_25 := hr_25.symm; have hr_26 := hr_26.symm; subst hr_12 hr_16 hr_25 hr_26; exact (iN c_9 (iN c_13 (iN c_17 (ip c_19 (ip c_27 rfl))))))
                              exact ih_51 x1_51 x2_51 x3_51 x4_51 x5_51 x6_51 (x7_51 + 1) (x8_51 + 1) (by have hr_12 := hr_12.symm; have hr_16 := hr_16.symm; have hr_25 := hr_25.symm; have hr_26 := hr_26.symm; subst hr_12 hr_16 hr_25 hr_26; exact (sp (sp (sn (nr (sn (nr (sn hs_51 c_9)) c_13)) c_17) c_19) c_27)) (fun q hq => hex_51 q (hq.trans he_29.symm)) _ _ hP hS ls (lv_sub hl [2, 3, 4, 5, 6, 7, 8, 1, 0] rfl)
                refine hLp_51 ((fu 0 10)) x1_38 x2_38 x3_38 x4_38 x5_38 x6_38 0 0 (nl (sn hs_38 c_7)) (fun q_51 hq_51 H locs hP hS ls hl => ?_) _ _ hP hS ls (lv_sub hl [2, 3, 4, 5, 6, 7, 8, 1, 0] rfl)
                refine lv_iload hx hb dX11_ask_129 (lv_at hl 7 rfl) ?_
                refine lv_iload hx hb dX11_ask_131 (lv_at hl 5 rfl) ?_
                refine lv_icmp_le (tgt := 141) hx hb dX11_ask_133 (by decide) (fun c_30 => ?_) (fun c_30 => ?_)
                · refine lv_iload hx hb dX11_ask_141 (lv_at hl 5 rfl) ?_
                  refine lv_istore (lv' := [(5, .int x5_38), (0, .ref (X.2.1 127)), (1, .int x1_38), (2, .int x2_38), (3, .int x3_38), (4, .int x4_38), (6, .int x6_38), (7, .int q_51)]) hx hb dX11_ask_143 hl (by decide) rfl (fun ls hl => ?_)
                  refine lv_iinc (v := (x6_38 + 1)) (lv' := [(6, .int (x6_38 + 1)), (5, .int x5_38), (0, .ref (X.2.1 127)), (1, .int x1_38), (2, .int x2_38), (3, .int x3_38), (4, .int x4_38), (7, .int q_51)]) hx hb dX11_ask_145 hl (k := 6) rfl rfl (by decide) rfl (fun ls hl => ?_)
                  refine lv_goto (tgt := 38) hx hb dX11_ask_148 (by decide) ?_
                  have he_31 : f_X11_ask_L38 (n + 1) S x1_38 x2_38 x3_38 x4_38 x5_38 x6_38 = f_X11_ask_L38 n S x1_38 x2_38 x3_38 x4_38 x5_38 (x6_38 + 1) := (by have hq_51 := hq_51.symm; subst hq_51; exact (iN c_7 (ip c_30 rfl)))
                  exact ih_38 x1_38 x2_38 x3_38 x4_38 x5_38 (x6_38 + 1) (by have hq_51 := hq_51.symm; subst hq_51; exact (sp (nr (sn hs_38 c_7)) c_30)) (fun q hq => hex_38 q (hq.trans he_31.symm)) _ _ hP hS ls (lv_sub hl [2, 3, 4, 5, 6, 1, 0] rfl)
                · refine lv_iload hx hb dX11_ask_136 (lv_at hl 7 rfl) ?_
                  refine lv_goto (tgt := 143) hx hb dX11_ask_138 (by decide) ?_
                  refine lv_istore (lv' := [(5, .int q_51), (0, .ref (X.2.1 127)), (1, .int x1_38), (2, .int x2_38), (3, .int x3_38), (4, .int x4_38), (6, .int x6_38), (7, .int q_51)]) hx hb dX11_ask_143 hl (by decide) rfl (fun ls hl => ?_)
                  refine lv_iinc (v := (x6_38 + 1)) (lv' := [(6, .int (x6_38 + 1)), (5, .int q_51), (0, .ref (X.2.1 127)), (1, .int x1_38), (2, .int x2_38), (3, .int x3_38), (4, .int x4_38), (7, .int q_51)]) hx hb dX11_ask_145 hl (k := 6) rfl rfl (by decide) rfl (fun ls hl => ?_)
                  refine lv_goto (tgt := 38) hx hb dX11_ask_148 (by decide) ?_
                  have he_32 : f_X11_ask_L38 (n + 1) S x1_38 x2_38 x3_38 x4_38 x5_38 x6_38 = f_X11_ask_L38 n S x1_38 x2_38 x3_38 x4_38 q_51 (x6_38 + 1) := (by have hq_51 := hq_51.symm; subst hq_51; exact (iN c_7 (iN c_30 rfl)))
                  exact ih_38 x1_38 x2_38 x3_38 x4_38 q_51 (x6_38 + 1) (by have hq_51 := hq_51.symm; subst hq_51; exact (sn (nr (sn hs_38 c_7)) c_30)) (fun q hq => hex_38 q (hq.trans he_32.symm)) _ _ hP hS ls (lv_sub hl [2, 3, 4, 5, 6, 1, 0] rfl)
          refine hLp_38 ((fu 0 10)) x1_26 x2_26 x3_26 x4_26 0 0 (nl (sn hs_26 c_5)) (fun q_38 hq_38 H locs hP hS ls hl => ?_) _ _ hP hS ls (lv_sub hl [2, 3, 4, 5, 6, 1, 0] rfl)
          refine lv_iload hx hb dX11_ask_151 (lv_at hl 5 rfl) ?_
          refine lv_iload_n hx hb dX11_ask_153 rfl (lv_at hl 3 rfl) ?_
          refine lv_icmp_ge (tgt := 162) hx hb dX11_ask_154 (by decide) (fun c_33 => ?_) (fun c_33 => ?_)
          · refine lv_iload_n hx hb dX11_ask_162 rfl (lv_at hl 2 rfl) ?_
            refine lv_istore_n (lv' := [(2, .int x2_26), (0, .ref (X.2.1 127)), (1, .int x1_26), (3, .int x3_26), (4, .int x4_26), (5, .int q_38)]) hx hb dX11_ask_163 rfl hl (by decide) rfl (fun ls hl => ?_)
            refine lv_iload hx hb dX11_ask_164 (lv_at hl 5 rfl) ?_
            refine lv_iload_n hx hb dX11_ask_166 rfl (lv_at hl 3 rfl) ?_
            refine lv_icmp_ge (tgt := 175) hx hb dX11_ask_167 (by decide) (fun _ => ?_) (fun c => absurd c_33 c)
            refine lv_iload_n hx hb dX11_ask_175 rfl (lv_at hl 3 rfl) ?_
            refine lv_istore_n (lv' := [(3, .int x3_26), (2, .int x2_26), (0, .ref (X.2.1 127)), (1, .int x1_26), (4, .int x4_26), (5, .int q_38)]) hx hb dX11_ask_176 rfl hl (by decide) rfl (fun ls hl => ?_)
            refine lv_iinc (v := (x4_26 + 1)) (lv' := [(4, .int (x4_26 + 1)), (3, .int x3_26), (2, .int x2_26), (0, .ref (X.2.1 127)), (1, .int x1_26), (5, .int q_38)]) hx hb dX11_ask_177 hl (k := 4) rfl rfl (by decide) rfl (fun ls hl => ?_)
            refine lv_goto (tgt := 26) hx hb dX11_ask_180 (by decide) ?_
            have he_34 : f_X11_ask_L26 (n + 1) S x1_26 x2_26 x3_26 x4_26 = f_X11_ask_L26 n S x1_26 x2_26 x3_26 (x4_26 + 1) := (by have hq_38 := hq_38.symm; subst hq_38; exact (iN c_5 (ip c_33 rfl)))
            exact ih_26 x1_26 x2_26 x3_26 (x4_26 + 1) (by have hq_38 := hq_38.symm; subst hq_38; exact (sp (nr (sn hs_26 c_5)) c_33)) (fun q hq => hex_26 q (hq.trans he_34.symm)) _ _ hP hS ls (lv_sub hl [3, 4, 2, 1, 0] rfl)
          · refine lv_iload hx hb dX11_ask_157 (lv_at hl 4 rfl) ?_
            refine lv_goto (tgt := 163) hx hb dX11_ask_159 (by decide) ?_
            refine lv_istore_n (lv' := [(2, .int x4_26), (0, .ref (X.2.1 127)), (1, .int x1_26), (3, .int x3_26), (4, .int x4_26), (5, .int q_38)]) hx hb dX11_ask_163 rfl hl (by decide) rfl (fun ls hl => ?_)
            refine lv_iload hx hb dX11_ask_164 (lv_at hl 5 rfl) ?_
            refine lv_iload_n hx hb dX11_ask_166 rfl (lv_at hl 3 rfl) ?_
            refine lv_icmp_ge (tgt := 175) hx hb dX11_ask_167 (by decide) (fun c => absurd c c_33) (fun _ => ?_)
            refine lv_iload hx hb dX11_ask_170 (lv_at hl 5 rfl) ?_
            refine lv_goto (tgt := 176) hx hb dX11_ask_172 (by decide) ?_
            refine lv_istore_n (lv' := [(3, .int q_38), (2, .int x4_26), (0, .ref (X.2.1 127)), (1, .int x1_26), (4, .int x4_26), (5, .int q_38)]) hx hb dX11_ask_176 rfl hl (by decide) rfl (fun ls hl => ?_)
            refine lv_iinc (v := (x4_26 + 1)) (lv' := [(4, .int (x4_26 + 1)), (3, .int q_38), (2, .int x4_26), (0, .ref (X.2.1 127)), (1, .int x1_26), (5, .int q_38)]) hx hb dX11_ask_177 hl (k := 4) rfl rfl (by decide) rfl (fun ls hl => ?_)
            refine lv_goto (tgt := 26) hx hb dX11_ask_180 (by decide) ?_
            have he_35 : f_X11_ask_L26 (n + 1) S x1_26 x2_26 x3_26 x4_26 = f_X11_ask_L26 n S x1_26 x4_26 q_38 (x4_26 + 1) := (by have hq_38 := hq_38.symm; subst hq_38; exact (iN c_5 (iN c_33 rfl)))
            exact ih_26 x1_26 x4_26 q_38 (x4_26 + 1) (by have hq_38 := hq_38.symm; subst hq_38; exact (sn (nr (sn hs_26 c_5)) c_33)) (fun q hq => hex_26 q (hq.trans he_35.symm)) _ _ hP hS ls (lv_sub hl [3, 4, 2, 1, 0] rfl)
    refine hLp_26 ((fu 0 2)) p0 (-1) r_4 0 (by have hr_1 := hr_1.symm; have hr_4 := hr_4.symm; subst hr_1 hr_4; exact nl (nr (sn hs c_2))) (fun q_26 hq_26 H locs hP hS ls hl => ?_) _ _ hP hS ls (lv_sub hl [3, 4, 2, 1, 0] rfl)
    refine lv_iload_n hx hb dX11_ask_183 rfl (lv_at hl 0 rfl) ?_
    exact xret_iR hC hP hS hb hr ((by have hr_1 := hr_1.symm; have hr_4 := hr_4.symm; have hq_26 := hq_26.symm; subst hr_1 hr_4 hq_26; exact (iN c_2 rfl))) dX11_ask_184 hlocks
  · refine lv_ldc (v := (-1000000002)) hx hb hown (hts (.constant RX11 91 (-1000000002)) (List.mem_of_getElem? (i := 2) rfl)) dX11_ask_12 ?_
    exact xret_iR hC hP hS hb hr ((by have hr_1 := hr_1.symm; subst hr_1; exact (ip c_2 rfl))) dX11_ask_14 hlocks
theorem hd_X11_listens : yX11_listens.cls = RX11 ∧ yX11_listens.cls ≠ "java/lang/invoke/MethodHandle" ∧ yX11_listens.cls ≠ "java/lang/invoke/VarHandle" ∧ (parseMethodDescriptor yX11_listens.desc).map (fun d => d.parameters.length) = some 3 := by decide +kernel
set_option maxHeartbeats 4000000 in
set_option maxRecDepth 100000 in
theorem k_X11_listens (l : Launch) (X : xX) (S : xS) (p0 : Int32) (p1 : Int32) (p2 : Int32) (hs : s_X11_listens S p0 p1 p2) : Met l yX11_listens wsX11_listens ({ frames := 3, cells := 0, slots := 0, locals := 68 } : Room) (va_Pc [.ref (X.2.1 127), .int p0, .int p1, .int p2] (xI X S)) (va_Qi (fun (r : Int32) (u : xS) => r = (f_X11_listens S p0 p1 p2).1 ∧ u = (f_X11_listens S p0 p1 p2).2) (xI X) (xA X)) 0 0 (xA X) := by
  refine Met.ofW (cc := cX11_listens) (maxL := 6) (ret := (some .int)) (by decide +kernel) rfl ?_
  intro p e s m args below meth c s₁ B hml hv
  obtain ⟨rfl, hP, hK, hN, hJ⟩ := hv
  have hx := B.exec
  have hb := B.bytes
  have hr := B.returns
  have hts := atoms_spec (ws := wsX11_listens) B.pre
  have hown : s.vm.findClass RX11 = some m.cls := findClass_of_methodNamed B.named
  have hlocks := B.notSynchronized
  have hC : xC X p m c cX11_listens 6 s _ wsX11_listens RX11 := ⟨⟨hx, hb, hml, hown, hts⟩, hK, hN, hJ⟩
  have hS : va_S (xA X) s.heap s.heap [] := va_S.rf
  have hin_X11 : ∀ w ∈ u_ws RX11 TX11 41, w ∈ wsX11_listens := by decide +kernel
  have hl := lv_entry ([.ref (X.2.1 127), .int p0, .int p1, .int p2]) (n := 6) (Nat.le_of_ble_eq_true rfl)
  rw [lg_entry_eq]
  generalize (lg_sl ([.ref (X.2.1 127), .int p0, .int p1, .int p2]) ++ List.replicate (6 - (lg_sl ([.ref (X.2.1 127), .int p0, .int p1, .int p2])).length) Slot.unset).toArray = ls at hl ⊢
  have hl : lv_has ls 6 [(0, .ref (X.2.1 127)), (1, .int p0), (2, .int p1), (3, .int p2)] := hl
  refine lv_aload_n hx hb dX11_listens_0 rfl (lv_at hl 0 rfl) ?_
  refine lv_iload_n hx hb dX11_listens_1 rfl (lv_at hl 1 rfl) ?_
  refine lv_iload_n hx hb dX11_listens_2 rfl (lv_at hl 2 rfl) ?_
  refine xcV_iR (b := 127) (As := [.int p0, .int p1]) (rest := []) hC hP hS (k_X11_areTwo l X S p0 p1) (cwV 2 hts gX11_listens_X11_areTwo rfl rfl rfl hd_X11_areTwo ⟨Nat.le_of_ble_eq_true rfl, Nat.le_of_ble_eq_true rfl⟩) xo_X11 rfl rfl rfl hl.1 (Nat.le_of_ble_eq_true rfl) dX11_listens_3 (fun r_1 hp_r_1 H locs hP hS => ?_)
  obtain ⟨hr_1, hzr_1⟩ := hp_r_1
  refine lv_if_ne (tgt := 12) hx hb dX11_listens_6 (by decide) (fun c_2 => ?_) (fun c_2 => ?_)
  · refine lv_iload_n hx hb dX11_listens_12 rfl (lv_at hl 3 rfl) ?_
    refine lv_i2l (v := (p2 : Int32).toInt64) hx hb dX11_listens_13 rfl ?_
    refine lv_ldc2 (v := (-9)) hx hb hown (hts (.constantLong RX11 295 (-9)) (List.mem_of_getElem? (i := 2) rfl)) dX11_listens_14 ?_
    refine lv_ldc2 (v := 9) hx hb hown (hts (.constantLong RX11 250 (9)) (List.mem_of_getElem? (i := 3) rfl)) dX11_listens_17 ?_
    refine xcS_iR (As := [.long (p2 : Int32).toInt64, .long (-9), .long 9]) (rest := []) hC hP hS (k_X11_in l X S (p2 : Int32).toInt64 (-9) 9) (va_cwS 3 hts gX11_listens_X11_in rfl rfl rfl hs_X11_in ⟨Nat.le_of_ble_eq_true rfl, Nat.le_of_ble_eq_true rfl⟩) rfl rfl hl.1 (Nat.le_of_ble_eq_true rfl) dX11_listens_20 (fun r_3 hp_r_3 H locs hP hS => ?_)
    obtain ⟨hr_3, hzr_3⟩ := hp_r_3
    refine lv_if_ne (tgt := 29) hx hb dX11_listens_23 (by decide) (fun c_4 => ?_) (fun c_4 => ?_)
    · refine lv_iconst (v := 0) hx hb dX11_listens_29 (by decide) ?_
      refine lv_istore (lv' := [(4, .int 0), (0, .ref (X.2.1 127)), (1, .int p0), (2, .int p1), (3, .int p2)]) hx hb dX11_listens_30 hl (by decide) rfl (fun ls hl => ?_)
      refine lv_aload_n hx hb dX11_listens_32 rfl (lv_at hl 1 rfl) ?_
      have hn_5 : s_X11_tries S := (by have hr_1 := hr_1.symm; have hr_3 := hr_3.symm; subst hr_1 hr_3; exact nl (sn (sn hs c_2) c_4))
      refine xcV_vW (b := 127) (As := []) (rest := []) hC hP hS (k_X11_tries l X S hn_5) (cwV 0 hts gX11_listens_X11_tries rfl rfl rfl hd_X11_tries ⟨Nat.le_of_ble_eq_true rfl, Nat.le_of_ble_eq_true rfl⟩) xo_X11 rfl rfl rfl hl.1 (Nat.le_of_ble_eq_true rfl) dX11_listens_33 (fun S_6 hS_6 H locs hP hS => ?_)
      refine lv_iconst (v := 0) hx hb dX11_listens_36 (by decide) ?_
      refine lv_istore (lv' := [(5, .int 0), (4, .int 0), (0, .ref (X.2.1 127)), (1, .int p0), (2, .int p1), (3, .int p2)]) hx hb dX11_listens_37 hl (by decide) rfl (fun ls hl => ?_)
      have hLp_39 : ∀ (n : Nat) (T_39 : xS) (x1_39 : Int32) (x2_39 : Int32) (x3_39 : Int32) (x4_39 : Int32) (x5_39 : Int32), s_X11_listens_L39 n T_39 x1_39 x2_39 x3_39 x4_39 x5_39 → (∀ q : Int32 × xS, q = f_X11_listens_L39 n T_39 x1_39 x2_39 x3_39 x4_39 x5_39 → (∀ (H : Heap) (locs : List Loc), va_P X.1 vwCl (xW X q.2) H → va_S (xA X) s.heap H locs → ∀ (ls : Array Slot), lv_has ls 6 [(4, .int q.1)] → W p l e ({ frames := 3, cells := 0, slots := 0, locals := 68 } : Room) s m ([.ref (X.2.1 127), .int p0, .int p1, .int p2] : List Value).toArray below meth c H locs 0 0 (MQ below (va_Qi (fun (r : Int32) (u : xS) => r = (f_X11_listens S p0 p1 p2).1 ∧ u = (f_X11_listens S p0 p1 p2).2) (xI X) (xA X)) ([.ref (X.2.1 127), .int p0, .int p1, .int p2] : List Value).toArray s 0 0 (xA X)) (F0 m 91 ls []))) → ∀ (H : Heap) (locs : List Loc), va_P X.1 vwCl (xW X T_39) H → va_S (xA X) s.heap H locs → ∀ (ls : Array Slot), lv_has ls 6 [(0, .ref (X.2.1 127)), (1, .int x1_39), (2, .int x2_39), (3, .int x3_39), (4, .int x4_39), (5, .int x5_39)] → W p l e ({ frames := 3, cells := 0, slots := 0, locals := 68 } : Room) s m ([.ref (X.2.1 127), .int p0, .int p1, .int p2] : List Value).toArray below meth c H locs 0 0 (MQ below (va_Qi (fun (r : Int32) (u : xS) => r = (f_X11_listens S p0 p1 p2).1 ∧ u = (f_X11_listens S p0 p1 p2).2) (xI X) (xA X)) ([.ref (X.2.1 127), .int p0, .int p1, .int p2] : List Value).toArray s 0 0 (xA X)) (F0 m 39 ls []) := by
        intro n
        induction n with
        | zero => intro T_39 x1_39 x2_39 x3_39 x4_39 x5_39 hs; exact hs.elim
        | succ n ih_39 =>
          intro T_39 x1_39 x2_39 x3_39 x4_39 x5_39 hs_39 hex_39 H locs hP hS ls hl
          refine lv_iload hx hb dX11_listens_39 (lv_at hl 5 rfl) ?_
          refine lv_aload_n hx hb dX11_listens_41 rfl (lv_at hl 0 rfl) ?_
          refine xget (ref := "AbsentPraiseModel") (T := TX11) (v := .int (T_39 127 0)) hC hP hin_X11 xo_X11 rfl 0 (by decide) (List.mem_of_getElem? (i := 5) rfl) rfl rfl dX11_listens_42 ?_
          refine lv_icmp_ge (tgt := 91) hx hb dX11_listens_45 (by decide) (fun c_7 => ?_) (fun c_7 => ?_)
          · have he_8 : f_X11_listens_L39 (n + 1) T_39 x1_39 x2_39 x3_39 x4_39 x5_39 = (x4_39, T_39) := ((ip c_7 rfl))
            exact hex_39 _ he_8.symm _ _ hP hS ls (lv_sub hl [4] rfl)
          · refine lv_aload_n hx hb dX11_listens_48 rfl (lv_at hl 0 rfl) ?_
            refine xget (ref := "AbsentPraiseModel") (T := TX11) (v := .ref (X.2.1 132)) hC hP hin_X11 xo_X11 rfl 9 (by decide) (List.mem_of_getElem? (i := 6) rfl) rfl rfl dX11_listens_49 ?_
            refine lv_iconst (v := 2) hx hb dX11_listens_52 (by decide) ?_
            refine lv_iload_n hx hb dX11_listens_53 rfl (lv_at hl 2 rfl) ?_
            refine lv_iadd hx hb dX11_listens_54 ?_
            refine lv_iload hx hb dX11_listens_55 (lv_at hl 5 rfl) ?_
            have hn_9 : vp_in (2 + x2_39) 72 := (nl (sn hs_39 c_7))
            refine xiast hC hP hS rfl hn_9 dX11_listens_57 (fun S_10 hS_10 H locs hP hS => ?_)
            refine lv_iload hx hb dX11_listens_58 (lv_at hl 4 rfl) ?_
            refine lv_aload_n hx hb dX11_listens_60 rfl (lv_at hl 0 rfl) ?_
            refine lv_aload_n hx hb dX11_listens_61 rfl (lv_at hl 0 rfl) ?_
            refine xget (ref := "AbsentPraiseModel") (T := TX11) (v := .ref (X.2.1 132)) hC hP hin_X11 xo_X11 rfl 9 (by decide) (List.mem_of_getElem? (i := 6) rfl) rfl rfl dX11_listens_62 ?_
            refine lv_iload_n hx hb dX11_listens_65 rfl (lv_at hl 1 rfl) ?_
            refine lv_iload_n hx hb dX11_listens_66 rfl (lv_at hl 2 rfl) ?_
            have hn_11 : s_X11_says S_10 132 x1_39 x2_39 := (by have hS_10 := hS_10.symm; subst hS_10; exact nl (nr (sn hs_39 c_7)))
            refine xcV_iR (b := 127) (As := [.ref (X.2.1 132), .int x1_39, .int x2_39]) (rest := [.int x4_39]) hC hP hS (k_X11_says l X S_10 132 x1_39 x2_39 rfl hn_11) (cwV 3 hts gX11_listens_X11_says rfl rfl rfl hd_X11_says ⟨Nat.le_of_ble_eq_true rfl, Nat.le_of_ble_eq_true rfl⟩) xo_X11 rfl rfl rfl hl.1 (Nat.le_of_ble_eq_true rfl) dX11_listens_67 (fun r_12 hr_12 H locs hP hS => ?_)
            refine lv_iload_n hx hb dX11_listens_70 rfl (lv_at hl 3 rfl) ?_
            refine lv_icmp_ne (tgt := 81) hx hb dX11_listens_71 (by decide) (fun c_13 => ?_) (fun c_13 => ?_)
            · refine lv_iconst (v := 0) hx hb dX11_listens_81 (by decide) ?_
              refine lv_ior hx hb dX11_listens_82 ?_
              refine lv_istore (lv' := [(4, .int (x4_39 ||| 0)), (0, .ref (X.2.1 127)), (1, .int x1_39), (2, .int x2_39), (3, .int x3_39), (5, .int x5_39)]) hx hb dX11_listens_83 hl (by decide) rfl (fun ls hl => ?_)
              refine lv_iinc (v := (x5_39 + 1)) (lv' := [(5, .int (x5_39 + 1)), (4, .int (x4_39 ||| 0)), (0, .ref (X.2.1 127)), (1, .int x1_39), (2, .int x2_39), (3, .int x3_39)]) hx hb dX11_listens_85 hl (k := 5) rfl rfl (by decide) rfl (fun ls hl => ?_)
              refine lv_goto (tgt := 39) hx hb dX11_listens_88 (by decide) ?_
              have he_14 : f_X11_listens_L39 (n + 1) T_39 x1_39 x2_39 x3_39 x4_39 x5_39 = f_X11_listens_L39 n S_10 x1_39 x2_39 x3_39 (x4_39 ||| 0) (x5_39 + 1) := (by have hS_10 := hS_10.symm; have hr_12 := hr_12.symm; subst hS_10 hr_12; exact (iN c_7 (iN c_13 rfl)))
              exact ih_39 S_10 x1_39 x2_39 x3_39 (x4_39 ||| 0) (x5_39 + 1) (by have hS_10 := hS_10.symm; have hr_12 := hr_12.symm; subst hS_10 hr_12; exact (sn (nr (nr (sn hs_39 c_7))) c_13)) (fun q hq => hex_39 q (hq.trans he_14.symm)) _ _ hP hS ls (lv_sub hl [2, 3, 4, 5, 1, 0] rfl)
            · refine lv_iconst (v := 1) hx hb dX11_listens_74 (by decide) ?_
              refine lv_iload hx hb dX11_listens_75 (lv_at hl 5 rfl) ?_
              refine lv_ishl hx hb dX11_listens_77 ?_
              refine lv_goto (tgt := 82) hx hb dX11_listens_78 (by decide) ?_
              refine lv_ior hx hb dX11_listens_82 ?_
              refine lv_istore (lv' := [(4, .int (x4_39 ||| (1 <<< (x5_39 &&& 31)))), (0, .ref (X.2.1 127)), (1, .int x1_39), (2, .int x2_39), (3, .int x3_39), (5, .int x5_39)]) hx hb dX11_listens_83 hl (by decide) rfl (fun ls hl => ?_)
              refine lv_iinc (v := (x5_39 + 1)) (lv' := [(5, .int (x5_39 + 1)), (4, .int (x4_39 ||| (1 <<< (x5_39 &&& 31)))), (0, .ref (X.2.1 127)), (1, .int x1_39), (2, .int x2_39), (3, .int x3_39)]) hx hb dX11_listens_85 hl (k := 5) rfl rfl (by decide) rfl (fun ls hl => ?_)
              refine lv_goto (tgt := 39) hx hb dX11_listens_88 (by decide) ?_
              have he_15 : f_X11_listens_L39 (n + 1) T_39 x1_39 x2_39 x3_39 x4_39 x5_39 = f_X11_listens_L39 n S_10 x1_39 x2_39 x3_39 (x4_39 ||| (1 <<< (x5_39 &&& 31))) (x5_39 + 1) := (by have hS_10 := hS_10.symm; have hr_12 := hr_12.symm; subst hS_10 hr_12; exact (iN c_7 (ip c_13 rfl)))
              exact ih_39 S_10 x1_39 x2_39 x3_39 (x4_39 ||| (1 <<< (x5_39 &&& 31))) (x5_39 + 1) (by have hS_10 := hS_10.symm; have hr_12 := hr_12.symm; subst hS_10 hr_12; exact (sp (nr (nr (sn hs_39 c_7))) c_13)) (fun q hq => hex_39 q (hq.trans he_15.symm)) _ _ hP hS ls (lv_sub hl [2, 3, 4, 5, 1, 0] rfl)
      refine hLp_39 ((fu 0 (S_6 127 0))) S_6 p0 p1 p2 0 0 (by have hr_1 := hr_1.symm; have hr_3 := hr_3.symm; have hS_6 := hS_6.symm; subst hr_1 hr_3 hS_6; exact nl (nr (sn (sn hs c_2) c_4))) (fun q_39 hq_39 H locs hP hS ls hl => ?_) _ _ hP hS ls (lv_sub hl [2, 3, 4, 5, 1, 0] rfl)
      refine lv_iload hx hb dX11_listens_91 (lv_at hl 0 rfl) ?_
      exact xret_iW hC hP hS hb hr (by simp only [f_X11_listens, ← hr_1, ← hr_3, ← hS_6, ← hq_39, if_neg c_2, if_neg c_4]) dX11_listens_93 hlocks
    · refine lv_ldc (v := (-1000000002)) hx hb hown (hts (.constant RX11 91 (-1000000002)) (List.mem_of_getElem? (i := 4) rfl)) dX11_listens_26 ?_
      exact xret_iW hC hP hS hb hr (by simp only [f_X11_listens, ← hr_1, ← hr_3, if_neg c_2, if_pos c_4]) dX11_listens_28 hlocks
  · refine lv_ldc (v := (-1000000001)) hx hb hown (hts (.constant RX11 230 (-1000000001)) (List.mem_of_getElem? (i := 1) rfl)) dX11_listens_9 ?_
    exact xret_iW hC hP hS hb hr (by simp only [f_X11_listens, ← hr_1, if_pos c_2]) dX11_listens_11 hlocks
theorem hd_X11_write : yX11_write.cls = RX11 ∧ yX11_write.cls ≠ "java/lang/invoke/MethodHandle" ∧ yX11_write.cls ≠ "java/lang/invoke/VarHandle" ∧ (parseMethodDescriptor yX11_write.desc).map (fun d => d.parameters.length) = some 2 := by decide +kernel
set_option maxHeartbeats 4000000 in
set_option maxRecDepth 100000 in
theorem k_X11_write (l : Launch) (X : xX) (S : xS) (p0 : Int32) (p1 : Int32) (hs : s_X11_write S p0 p1) : Met l yX11_write wsX11_write ({ frames := 2, cells := 0, slots := 0, locals := 46 } : Room) (va_Pc [.ref (X.2.1 127), .int p0, .int p1] (xI X S)) (va_Qi (fun (r : Int32) (u : xS) => r = (f_X11_write S p0 p1).1 ∧ u = (f_X11_write S p0 p1).2) (xI X) (xA X)) 0 0 (xA X) := by
  refine Met.ofW (cc := cX11_write) (maxL := 3) (ret := (some .int)) (by decide +kernel) rfl ?_
  intro p e s m args below meth c s₁ B hml hv
  obtain ⟨rfl, hP, hK, hN, hJ⟩ := hv
  have hx := B.exec
  have hb := B.bytes
  have hr := B.returns
  have hts := atoms_spec (ws := wsX11_write) B.pre
  have hown : s.vm.findClass RX11 = some m.cls := findClass_of_methodNamed B.named
  have hlocks := B.notSynchronized
  have hC : xC X p m c cX11_write 3 s _ wsX11_write RX11 := ⟨⟨hx, hb, hml, hown, hts⟩, hK, hN, hJ⟩
  have hS : va_S (xA X) s.heap s.heap [] := va_S.rf
  have hin_X11 : ∀ w ∈ u_ws RX11 TX11 41, w ∈ wsX11_write := by decide +kernel
  have hl := lv_entry ([.ref (X.2.1 127), .int p0, .int p1]) (n := 3) (Nat.le_of_ble_eq_true rfl)
  rw [lg_entry_eq]
  generalize (lg_sl ([.ref (X.2.1 127), .int p0, .int p1]) ++ List.replicate (3 - (lg_sl ([.ref (X.2.1 127), .int p0, .int p1])).length) Slot.unset).toArray = ls at hl ⊢
  have hl : lv_has ls 3 [(0, .ref (X.2.1 127)), (1, .int p0), (2, .int p1)] := hl
  refine lv_aload_n hx hb dX11_write_0 rfl (lv_at hl 0 rfl) ?_
  refine lv_iload_n hx hb dX11_write_1 rfl (lv_at hl 1 rfl) ?_
  refine xcV_iR (b := 127) (As := [.int p0]) (rest := []) hC hP hS (k_X11_isPerson l X S p0) (cwV 1 hts gX11_write_X11_isPerson rfl rfl rfl hd_X11_isPerson ⟨Nat.le_of_ble_eq_true rfl, Nat.le_of_ble_eq_true rfl⟩) xo_X11 rfl rfl rfl hl.1 (Nat.le_of_ble_eq_true rfl) dX11_write_2 (fun r_1 hp_r_1 H locs hP hS => ?_)
  obtain ⟨hr_1, hzr_1⟩ := hp_r_1
  refine lv_if_ne (tgt := 11) hx hb dX11_write_5 (by decide) (fun c_2 => ?_) (fun c_2 => ?_)
  · refine lv_iload_n hx hb dX11_write_11 rfl (lv_at hl 2 rfl) ?_
    refine lv_i2l (v := (p1 : Int32).toInt64) hx hb dX11_write_12 rfl ?_
    refine lv_ldc2 (v := (-9999)) hx hb hown (hts (.constantLong RX11 303 (-9999)) (List.mem_of_getElem? (i := 2) rfl)) dX11_write_13 ?_
    refine lv_ldc2 (v := 9999) hx hb hown (hts (.constantLong RX11 305 (9999)) (List.mem_of_getElem? (i := 3) rfl)) dX11_write_16 ?_
    refine xcS_iR (As := [.long (p1 : Int32).toInt64, .long (-9999), .long 9999]) (rest := []) hC hP hS (k_X11_in l X S (p1 : Int32).toInt64 (-9999) 9999) (va_cwS 3 hts gX11_write_X11_in rfl rfl rfl hs_X11_in ⟨Nat.le_of_ble_eq_true rfl, Nat.le_of_ble_eq_true rfl⟩) rfl rfl hl.1 (Nat.le_of_ble_eq_true rfl) dX11_write_19 (fun r_3 hp_r_3 H locs hP hS => ?_)
    obtain ⟨hr_3, hzr_3⟩ := hp_r_3
    refine lv_if_ne (tgt := 28) hx hb dX11_write_22 (by decide) (fun c_4 => ?_) (fun c_4 => ?_)
    · refine lv_aload_n hx hb dX11_write_28 rfl (lv_at hl 0 rfl) ?_
      refine xget (ref := "AbsentPraiseModel") (T := TX11) (v := .int (S 127 15)) hC hP hin_X11 xo_X11 rfl 15 (by decide) (List.mem_of_getElem? (i := 5) rfl) rfl rfl dX11_write_29 ?_
      refine lv_bipush (v := 15) hx hb dX11_write_32 (by decide) ?_
      refine lv_icmp_ne (tgt := 40) hx hb dX11_write_34 (by decide) (fun c_5 => ?_) (fun c_5 => ?_)
      · refine lv_aload_n hx hb dX11_write_40 rfl (lv_at hl 0 rfl) ?_
        refine xget (ref := "AbsentPraiseModel") (T := TX11) (v := .ref (X.2.1 136)) hC hP hin_X11 xo_X11 rfl 16 (by decide) (List.mem_of_getElem? (i := 7) rfl) rfl rfl dX11_write_41 ?_
        refine lv_aload_n hx hb dX11_write_44 rfl (lv_at hl 0 rfl) ?_
        refine xget (ref := "AbsentPraiseModel") (T := TX11) (v := .int (S 127 15)) hC hP hin_X11 xo_X11 rfl 15 (by decide) (List.mem_of_getElem? (i := 5) rfl) rfl rfl dX11_write_45 ?_
        refine lv_iload_n hx hb dX11_write_48 rfl (lv_at hl 1 rfl) ?_
        have hn_6 : vp_in (S 127 15) 15 := (by have hr_1 := hr_1.symm; have hr_3 := hr_3.symm; subst hr_1 hr_3; exact nl (sn (sn (sn hs c_2) c_4) c_5))
        refine xiast hC hP hS rfl hn_6 dX11_write_49 (fun S_7 hS_7 H locs hP hS => ?_)
        refine lv_aload_n hx hb dX11_write_50 rfl (lv_at hl 0 rfl) ?_
        refine xget (ref := "AbsentPraiseModel") (T := TX11) (v := .ref (X.2.1 137)) hC hP hin_X11 xo_X11 rfl 17 (by decide) (List.mem_of_getElem? (i := 8) rfl) rfl rfl dX11_write_51 ?_
        refine lv_aload_n hx hb dX11_write_54 rfl (lv_at hl 0 rfl) ?_
        refine xget (ref := "AbsentPraiseModel") (T := TX11) (v := .int (S_7 127 15)) hC hP hin_X11 xo_X11 rfl 15 (by decide) (List.mem_of_getElem? (i := 5) rfl) rfl rfl dX11_write_55 ?_
        refine lv_iload_n hx hb dX11_write_58 rfl (lv_at hl 2 rfl) ?_
        have hn_8 : vp_in (S_7 127 15) 15 := (by have hr_1 := hr_1.symm; have hr_3 := hr_3.symm; have hS_7 := hS_7.symm; subst hr_1 hr_3 hS_7; exact nl (nr (sn (sn (sn hs c_2) c_4) c_5)))
        refine xiast hC hP hS rfl hn_8 dX11_write_59 (fun S_9 hS_9 H locs hP hS => ?_)
        refine lv_aload_n hx hb dX11_write_60 rfl (lv_at hl 0 rfl) ?_
        refine lv_dup hx hb dX11_write_61 rfl ?_
        refine xget (ref := "AbsentPraiseModel") (T := TX11) (v := .int (S_9 127 15)) hC hP hin_X11 xo_X11 rfl 15 (by decide) (List.mem_of_getElem? (i := 5) rfl) rfl rfl dX11_write_62 ?_
        refine lv_iconst (v := 1) hx hb dX11_write_65 (by decide) ?_
        refine lv_iadd hx hb dX11_write_66 ?_
        refine xput (ref := "AbsentPraiseModel") (T := TX11) (ty := .int) hC hP hS (by decide) hin_X11 tyX11 tyX11_ok nmX11 xo_X11 rfl 15 (by decide) (List.mem_of_getElem? (i := 5) rfl) rfl rfl rfl rfl rfl (Nat.le_of_ble_eq_true rfl) dX11_write_67 rfl (fun S_10 hS_10 H locs hP hS => ?_)
        refine lv_aload_n hx hb dX11_write_70 rfl (lv_at hl 0 rfl) ?_
        refine xget (ref := "AbsentPraiseModel") (T := TX11) (v := .int (S_10 127 15)) hC hP hin_X11 xo_X11 rfl 15 (by decide) (List.mem_of_getElem? (i := 5) rfl) rfl rfl dX11_write_71 ?_
        exact xret_iW hC hP hS hb hr (by simp only [f_X11_write, ← hr_1, ← hr_3, ← hS_7, ← hS_9, ← hS_10, if_neg c_2, if_neg c_4, if_neg c_5]) dX11_write_74 hlocks
      · refine lv_ldc (v := (-1000000004)) hx hb hown (hts (.constant RX11 95 (-1000000004)) (List.mem_of_getElem? (i := 6) rfl)) dX11_write_37 ?_
        exact xret_iW hC hP hS hb hr (by simp only [f_X11_write, ← hr_1, ← hr_3, if_neg c_2, if_neg c_4, if_pos c_5]) dX11_write_39 hlocks
    · refine lv_ldc (v := (-1000000002)) hx hb hown (hts (.constant RX11 91 (-1000000002)) (List.mem_of_getElem? (i := 4) rfl)) dX11_write_25 ?_
      exact xret_iW hC hP hS hb hr (by simp only [f_X11_write, ← hr_1, ← hr_3, if_neg c_2, if_pos c_4]) dX11_write_27 hlocks
  · refine lv_ldc (v := (-1000000001)) hx hb hown (hts (.constant RX11 230 (-1000000001)) (List.mem_of_getElem? (i := 1) rfl)) dX11_write_8 ?_
    exact xret_iW hC hP hS hb hr (by simp only [f_X11_write, ← hr_1, if_pos c_2]) dX11_write_10 hlocks
theorem hd_X11_tear : yX11_tear.cls = RX11 ∧ yX11_tear.cls ≠ "java/lang/invoke/MethodHandle" ∧ yX11_tear.cls ≠ "java/lang/invoke/VarHandle" ∧ (parseMethodDescriptor yX11_tear.desc).map (fun d => d.parameters.length) = some 0 := by decide +kernel
set_option maxHeartbeats 4000000 in
set_option maxRecDepth 100000 in
theorem k_X11_tear (l : Launch) (X : xX) (S : xS) : Met l yX11_tear wsX11_tear ({ frames := 0, cells := 0, slots := 0, locals := 0 } : Room) (va_Pc [.ref (X.2.1 127)] (xI X S)) (va_Qi (fun (r : Int32) (u : xS) => r = (f_X11_tear S).1 ∧ u = (f_X11_tear S).2) (xI X) (xA X)) 0 0 (xA X) := by
  refine Met.ofW (cc := cX11_tear) (maxL := 2) (ret := (some .int)) (by decide +kernel) rfl ?_
  intro p e s m args below meth c s₁ B hml hv
  obtain ⟨rfl, hP, hK, hN, hJ⟩ := hv
  have hx := B.exec
  have hb := B.bytes
  have hr := B.returns
  have hts := atoms_spec (ws := wsX11_tear) B.pre
  have hown : s.vm.findClass RX11 = some m.cls := findClass_of_methodNamed B.named
  have hlocks := B.notSynchronized
  have hC : xC X p m c cX11_tear 2 s _ wsX11_tear RX11 := ⟨⟨hx, hb, hml, hown, hts⟩, hK, hN, hJ⟩
  have hS : va_S (xA X) s.heap s.heap [] := va_S.rf
  have hin_X11 : ∀ w ∈ u_ws RX11 TX11 41, w ∈ wsX11_tear := by decide +kernel
  have hl := lv_entry ([.ref (X.2.1 127)]) (n := 2) (Nat.le_of_ble_eq_true rfl)
  rw [lg_entry_eq]
  generalize (lg_sl ([.ref (X.2.1 127)]) ++ List.replicate (2 - (lg_sl ([.ref (X.2.1 127)])).length) Slot.unset).toArray = ls at hl ⊢
  have hl : lv_has ls 2 [(0, .ref (X.2.1 127))] := hl
  refine lv_aload_n hx hb dX11_tear_0 rfl (lv_at hl 0 rfl) ?_
  refine xget (ref := "AbsentPraiseModel") (T := TX11) (v := .int (S 127 11)) hC hP hin_X11 xo_X11 rfl 11 (by decide) (List.mem_of_getElem? (i := 1) rfl) rfl rfl dX11_tear_1 ?_
  refine lv_aload_n hx hb dX11_tear_4 rfl (lv_at hl 0 rfl) ?_
  refine xget (ref := "AbsentPraiseModel") (T := TX11) (v := .int (S 127 15)) hC hP hin_X11 xo_X11 rfl 15 (by decide) (List.mem_of_getElem? (i := 2) rfl) rfl rfl dX11_tear_5 ?_
  refine lv_iadd hx hb dX11_tear_8 ?_
  refine lv_istore_n (lv' := [(1, .int ((S 127 11) + (S 127 15))), (0, .ref (X.2.1 127))]) hx hb dX11_tear_9 rfl hl (by decide) rfl (fun ls hl => ?_)
  refine lv_aload_n hx hb dX11_tear_10 rfl (lv_at hl 1 rfl) ?_
  refine lv_iconst (v := 0) hx hb dX11_tear_11 (by decide) ?_
  refine xput (ref := "AbsentPraiseModel") (T := TX11) (ty := .int) hC hP hS (by decide) hin_X11 tyX11 tyX11_ok nmX11 xo_X11 rfl 11 (by decide) (List.mem_of_getElem? (i := 1) rfl) rfl rfl rfl rfl rfl (Nat.le_of_ble_eq_true rfl) dX11_tear_12 rfl (fun S_1 hS_1 H locs hP hS => ?_)
  refine lv_aload_n hx hb dX11_tear_15 rfl (lv_at hl 1 rfl) ?_
  refine lv_iconst (v := 0) hx hb dX11_tear_16 (by decide) ?_
  refine xput (ref := "AbsentPraiseModel") (T := TX11) (ty := .int) hC hP hS (by decide) hin_X11 tyX11 tyX11_ok nmX11 xo_X11 rfl 15 (by decide) (List.mem_of_getElem? (i := 2) rfl) rfl rfl rfl rfl rfl (Nat.le_of_ble_eq_true rfl) dX11_tear_17 rfl (fun S_2 hS_2 H locs hP hS => ?_)
  refine lv_iload_n hx hb dX11_tear_20 rfl (lv_at hl 0 rfl) ?_
  exact xret_iW hC hP hS hb hr (by simp only [f_X11_tear, ← hS_1, ← hS_2]) dX11_tear_21 hlocks
