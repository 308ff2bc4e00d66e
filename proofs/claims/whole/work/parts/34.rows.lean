set_option linter.all false
/-! contracts: X11_cover, X11_told, X11_whoIsIn, X11_room, X11_person -/
theorem hd_X11_cover : yX11_cover.cls = RX11 ∧ yX11_cover.cls ≠ "java/lang/invoke/MethodHandle" ∧ yX11_cover.cls ≠ "java/lang/invoke/VarHandle" ∧ (parseMethodDescriptor yX11_cover.desc).map (fun d => d.parameters.length) = some 0 := by decide +kernel
set_option maxHeartbeats 4000000 in
set_option maxRecDepth 100000 in
theorem k_X11_cover (l : Launch) (X : xX) (S : xS) (hs : s_X11_cover S) : Met l yX11_cover wsX11_cover ({ frames := 1, cells := 0, slots := 0, locals := 22 } : Room) (va_Pc [.ref (X.2.1 127)] (xI X S)) (va_Qi (fun (r : Int32) (u : xS) => r = (f_X11_cover S) ∧ u = S) (xI X) (xA X)) 0 0 (xA X) := by
  refine Met.ofW (cc := cX11_cover) (maxL := 5) (ret := (some .int)) (by decide +kernel) rfl ?_
  intro p e s m args below meth c s₁ B hml hv
  obtain ⟨rfl, hP, hK, hN, hJ⟩ := hv
  have hx := B.exec
  have hb := B.bytes
  have hr := B.returns
  have hts := atoms_spec (ws := wsX11_cover) B.pre
  have hown : s.vm.findClass RX11 = some m.cls := findClass_of_methodNamed B.named
  have hlocks := B.notSynchronized
  have hC : xC X p m c cX11_cover 5 s _ wsX11_cover RX11 := ⟨⟨hx, hb, hml, hown, hts⟩, hK, hN, hJ⟩
  have hS : va_S (xA X) s.heap s.heap [] := va_S.rf
  have hin_X11 : ∀ w ∈ u_ws RX11 TX11 41, w ∈ wsX11_cover := by decide +kernel
  have hl := lv_entry ([.ref (X.2.1 127)]) (n := 5) (Nat.le_of_ble_eq_true rfl)
  rw [lg_entry_eq]
  generalize (lg_sl ([.ref (X.2.1 127)]) ++ List.replicate (5 - (lg_sl ([.ref (X.2.1 127)])).length) Slot.unset).toArray = ls at hl ⊢
  have hl : lv_has ls 5 [(0, .ref (X.2.1 127))] := hl
  refine lv_iconst (v := 1) hx hb dX11_cover_0 (by decide) ?_
  refine lv_aload_n hx hb dX11_cover_1 rfl (lv_at hl 0 rfl) ?_
  refine xget (ref := "AbsentPraiseModel") (T := TX11) (v := .int (S 127 0)) hC hP hin_X11 xo_X11 rfl 0 (by decide) (List.mem_of_getElem? (i := 1) rfl) rfl rfl dX11_cover_2 ?_
  refine lv_ishl hx hb dX11_cover_5 ?_
  refine lv_iconst (v := 1) hx hb dX11_cover_6 (by decide) ?_
  refine lv_isub hx hb dX11_cover_7 ?_
  refine lv_istore_n (lv' := [(1, .int ((1 <<< ((S 127 0) &&& 31)) - 1)), (0, .ref (X.2.1 127))]) hx hb dX11_cover_8 rfl hl (by decide) rfl (fun ls hl => ?_)
  refine lv_iconst (v := 1) hx hb dX11_cover_9 (by decide) ?_
  refine lv_aload_n hx hb dX11_cover_10 rfl (lv_at hl 1 rfl) ?_
  refine xget (ref := "AbsentPraiseModel") (T := TX11) (v := .int (S 127 0)) hC hP hin_X11 xo_X11 rfl 0 (by decide) (List.mem_of_getElem? (i := 1) rfl) rfl rfl dX11_cover_11 ?_
  refine lv_ishl hx hb dX11_cover_14 ?_
  refine lv_iconst (v := 1) hx hb dX11_cover_15 (by decide) ?_
  refine lv_isub hx hb dX11_cover_16 ?_
  refine lv_istore_n (lv' := [(2, .int ((1 <<< ((S 127 0) &&& 31)) - 1)), (1, .int ((1 <<< ((S 127 0) &&& 31)) - 1)), (0, .ref (X.2.1 127))]) hx hb dX11_cover_17 rfl hl (by decide) rfl (fun ls hl => ?_)
  have hLp_18 : ∀ (n : Nat) (x1_18 : Int32) (x2_18 : Int32), s_X11_cover_L18 n S x1_18 x2_18 → (∀ q : Int32, q = f_X11_cover_L18 n S x1_18 x2_18 → (∀ (H : Heap) (locs : List Loc), va_P X.1 vwCl (xW X S) H → va_S (xA X) s.heap H locs → ∀ (ls : Array Slot), lv_has ls 5 [(1, .int q)] → W p l e ({ frames := 1, cells := 0, slots := 0, locals := 22 } : Room) s m ([.ref (X.2.1 127)] : List Value).toArray below meth c H locs 0 0 (MQ below (va_Qi (fun (r : Int32) (u : xS) => r = (f_X11_cover S) ∧ u = S) (xI X) (xA X)) ([.ref (X.2.1 127)] : List Value).toArray s 0 0 (xA X)) (F0 m 96 ls []))) → ∀ (H : Heap) (locs : List Loc), va_P X.1 vwCl (xW X S) H → va_S (xA X) s.heap H locs → ∀ (ls : Array Slot), lv_has ls 5 [(0, .ref (X.2.1 127)), (1, .int x1_18), (2, .int x2_18)] → W p l e ({ frames := 1, cells := 0, slots := 0, locals := 22 } : Room) s m ([.ref (X.2.1 127)] : List Value).toArray below meth c H locs 0 0 (MQ below (va_Qi (fun (r : Int32) (u : xS) => r = (f_X11_cover S) ∧ u = S) (xI X) (xA X)) ([.ref (X.2.1 127)] : List Value).toArray s 0 0 (xA X)) (F0 m 18 ls []) := by
    intro n
    induction n with
    | zero => intro x1_18 x2_18 hs; exact hs.elim
    | succ n ih_18 =>
      intro x1_18 x2_18 hs_18 hex_18 H locs hP hS ls hl
      refine lv_iload_n hx hb dX11_cover_18 rfl (lv_at hl 2 rfl) ?_
      refine lv_if_lt (tgt := 96) hx hb dX11_cover_19 (by decide) (fun c_1 => ?_) (fun c_1 => ?_)
      · have he_2 : f_X11_cover_L18 (n + 1) S x1_18 x2_18 = x1_18 := ((ip c_1 rfl))
        exact hex_18 _ he_2.symm _ _ hP hS ls (lv_sub hl [1] rfl)
      · refine lv_iconst (v := 1) hx hb dX11_cover_22 (by decide) ?_
        refine lv_istore_n (lv' := [(3, .int 1), (0, .ref (X.2.1 127)), (1, .int x1_18), (2, .int x2_18)]) hx hb dX11_cover_23 rfl hl (by decide) rfl (fun ls hl => ?_)
        refine lv_iconst (v := 0) hx hb dX11_cover_24 (by decide) ?_
        refine lv_istore (lv' := [(4, .int 0), (3, .int 1), (0, .ref (X.2.1 127)), (1, .int x1_18), (2, .int x2_18)]) hx hb dX11_cover_25 hl (by decide) rfl (fun ls hl => ?_)
        have hLp_27 : ∀ (n : Nat) (x1_27 : Int32) (x2_27 : Int32) (x3_27 : Int32) (x4_27 : Int32), s_X11_cover_L27 n S x1_27 x2_27 x3_27 x4_27 → (∀ q : Int32, q = f_X11_cover_L27 n S x1_27 x2_27 x3_27 x4_27 → (∀ (H : Heap) (locs : List Loc), va_P X.1 vwCl (xW X S) H → va_S (xA X) s.heap H locs → ∀ (ls : Array Slot), lv_has ls 5 [(0, .ref (X.2.1 127)), (1, .int x1_27), (2, .int x2_27), (3, .int q)] → W p l e ({ frames := 1, cells := 0, slots := 0, locals := 22 } : Room) s m ([.ref (X.2.1 127)] : List Value).toArray below meth c H locs 0 0 (MQ below (va_Qi (fun (r : Int32) (u : xS) => r = (f_X11_cover S) ∧ u = S) (xI X) (xA X)) ([.ref (X.2.1 127)] : List Value).toArray s 0 0 (xA X)) (F0 m 69 ls []))) → ∀ (H : Heap) (locs : List Loc), va_P X.1 vwCl (xW X S) H → va_S (xA X) s.heap H locs → ∀ (ls : Array Slot), lv_has ls 5 [(0, .ref (X.2.1 127)), (1, .int x1_27), (2, .int x2_27), (3, .int x3_27), (4, .int x4_27)] → W p l e ({ frames := 1, cells := 0, slots := 0, locals := 22 } : Room) s m ([.ref (X.2.1 127)] : List Value).toArray below meth c H locs 0 0 (MQ below (va_Qi (fun (r : Int32) (u : xS) => r = (f_X11_cover S) ∧ u = S) (xI X) (xA X)) ([.ref (X.2.1 127)] : List Value).toArray s 0 0 (xA X)) (F0 m 27 ls []) := by
          intro n
          induction n with
          | zero => intro x1_27 x2_27 x3_27 x4_27 hs; exact hs.elim
          | succ n ih_27 =>
            intro x1_27 x2_27 x3_27 x4_27 hs_27 hex_27 H locs hP hS ls hl
            refine lv_iload hx hb dX11_cover_27 (lv_at hl 4 rfl) ?_
            refine lv_aload_n hx hb dX11_cover_29 rfl (lv_at hl 0 rfl) ?_
            refine xget (ref := "AbsentPraiseModel") (T := TX11) (v := .int (S 127 0)) hC hP hin_X11 xo_X11 rfl 0 (by decide) (List.mem_of_getElem? (i := 1) rfl) rfl rfl dX11_cover_30 ?_
            refine lv_icmp_ge (tgt := 69) hx hb dX11_cover_33 (by decide) (fun c_3 => ?_) (fun c_3 => ?_)
            · have he_4 : f_X11_cover_L27 (n + 1) S x1_27 x2_27 x3_27 x4_27 = x3_27 := ((ip c_3 rfl))
              exact hex_27 _ he_4.symm _ _ hP hS ls (lv_sub hl [0, 1, 2, 3] rfl)
            · refine lv_iload_n hx hb dX11_cover_36 rfl (lv_at hl 3 rfl) ?_
              refine lv_if_eq (tgt := 61) hx hb dX11_cover_37 (by decide) (fun c_5 => ?_) (fun c_5 => ?_)
              · refine lv_iconst (v := 0) hx hb dX11_cover_61 (by decide) ?_
                refine lv_istore_n (lv' := [(3, .int 0), (0, .ref (X.2.1 127)), (1, .int x1_27), (2, .int x2_27), (4, .int x4_27)]) hx hb dX11_cover_62 rfl hl (by decide) rfl (fun ls hl => ?_)
                refine lv_iinc (v := (x4_27 + 1)) (lv' := [(4, .int (x4_27 + 1)), (3, .int 0), (0, .ref (X.2.1 127)), (1, .int x1_27), (2, .int x2_27)]) hx hb dX11_cover_63 hl (k := 4) rfl rfl (by decide) rfl (fun ls hl => ?_)
                refine lv_goto (tgt := 27) hx hb dX11_cover_66 (by decide) ?_
                have he_6 : f_X11_cover_L27 (n + 1) S x1_27 x2_27 x3_27 x4_27 = f_X11_cover_L27 n S x1_27 x2_27 0 (x4_27 + 1) := ((iN c_3 (ip c_5 rfl)))
                exact ih_27 x1_27 x2_27 0 (x4_27 + 1) ((sp (sn hs_27 c_3) c_5)) (fun q hq => hex_27 q (hq.trans he_6.symm)) _ _ hP hS ls (lv_sub hl [2, 3, 4, 1, 0] rfl)
              · refine lv_aload_n hx hb dX11_cover_40 rfl (lv_at hl 0 rfl) ?_
                refine xget (ref := "AbsentPraiseModel") (T := TX11) (v := .ref (X.2.1 128)) hC hP hin_X11 xo_X11 rfl 4 (by decide) (List.mem_of_getElem? (i := 2) rfl) rfl rfl dX11_cover_41 ?_
                refine lv_iload hx hb dX11_cover_44 (lv_at hl 4 rfl) ?_
                have hn_7 : vp_in x4_27 6 := (nl (sn (sn hs_27 c_3) c_5))
                refine xiald hC hP rfl hn_7 dX11_cover_46 ?_
                refine lv_iconst (v := 1) hx hb dX11_cover_47 (by decide) ?_
                refine lv_iload hx hb dX11_cover_48 (lv_at hl 4 rfl) ?_
                refine lv_ishl hx hb dX11_cover_50 ?_
                refine lv_ior hx hb dX11_cover_51 ?_
                refine lv_iload_n hx hb dX11_cover_52 rfl (lv_at hl 2 rfl) ?_
                refine lv_iand hx hb dX11_cover_53 ?_
                refine lv_if_eq (tgt := 61) hx hb dX11_cover_54 (by decide) (fun c_8 => ?_) (fun c_8 => ?_)
                · refine lv_iconst (v := 0) hx hb dX11_cover_61 (by decide) ?_
                  refine lv_istore_n (lv' := [(3, .int 0), (0, .ref (X.2.1 127)), (1, .int x1_27), (2, .int x2_27), (4, .int x4_27)]) hx hb dX11_cover_62 rfl hl (by decide) rfl (fun ls hl => ?_)
                  refine lv_iinc (v := (x4_27 + 1)) (lv' := [(4, .int (x4_27 + 1)), (3, .int 0), (0, .ref (X.2.1 127)), (1, .int x1_27), (2, .int x2_27)]) hx hb dX11_cover_63 hl (k := 4) rfl rfl (by decide) rfl (fun ls hl => ?_)
                  refine lv_goto (tgt := 27) hx hb dX11_cover_66 (by decide) ?_
                  have he_9 : f_X11_cover_L27 (n + 1) S x1_27 x2_27 x3_27 x4_27 = f_X11_cover_L27 n S x1_27 x2_27 0 (x4_27 + 1) := ((iN c_3 (iN c_5 (ip c_8 rfl))))
                  exact ih_27 x1_27 x2_27 0 (x4_27 + 1) ((sp (nr (sn (sn hs_27 c_3) c_5)) c_8)) (fun q hq => hex_27 q (hq.trans he_9.symm)) _ _ hP hS ls (lv_sub hl [2, 3, 4, 1, 0] rfl)
                · refine lv_iconst (v := 1) hx hb dX11_cover_57 (by decide) ?_
                  refine lv_goto (tgt := 62) hx hb dX11_cover_58 (by decide) ?_
                  refine lv_istore_n (lv' := [(3, .int 1), (0, .ref (X.2.1 127)), (1, .int x1_27), (2, .int x2_27), (4, .int x4_27)]) hx hb dX11_cover_62 rfl hl (by decide) rfl (fun ls hl => ?_)
                  refine lv_iinc (v := (x4_27 + 1)) (lv' := [(4, .int (x4_27 + 1)), (3, .int 1), (0, .ref (X.2.1 127)), (1, .int x1_27), (2, .int x2_27)]) hx hb dX11_cover_63 hl (k := 4) rfl rfl (by decide) rfl (fun ls hl => ?_)
                  refine lv_goto (tgt := 27) hx hb dX11_cover_66 (by decide) ?_
                  have he_10 : f_X11_cover_L27 (n + 1) S x1_27 x2_27 x3_27 x4_27 = f_X11_cover_L27 n S x1_27 x2_27 1 (x4_27 + 1) := ((iN c_3 (iN c_5 (iN c_8 rfl))))
                  exact ih_27 x1_27 x2_27 1 (x4_27 + 1) ((sn (nr (sn (sn hs_27 c_3) c_5)) c_8)) (fun q hq => hex_27 q (hq.trans he_10.symm)) _ _ hP hS ls (lv_sub hl [2, 3, 4, 1, 0] rfl)
        refine hLp_27 ((fu 0 (S 127 0))) x1_18 x2_18 1 0 (nl (sn hs_18 c_1)) (fun q_27 hq_27 H locs hP hS ls hl => ?_) _ _ hP hS ls (lv_sub hl [2, 3, 4, 1, 0] rfl)
        refine lv_iload_n hx hb dX11_cover_69 rfl (lv_at hl 3 rfl) ?_
        refine lv_if_eq (tgt := 88) hx hb dX11_cover_70 (by decide) (fun c_11 => ?_) (fun c_11 => ?_)
        · refine lv_iload_n hx hb dX11_cover_88 rfl (lv_at hl 1 rfl) ?_
          refine lv_istore_n (lv' := [(1, .int x1_18), (0, .ref (X.2.1 127)), (2, .int x2_18), (3, .int q_27)]) hx hb dX11_cover_89 rfl hl (by decide) rfl (fun ls hl => ?_)
          refine lv_iinc (v := (x2_18 + (-1))) (lv' := [(2, .int (x2_18 + (-1))), (1, .int x1_18), (0, .ref (X.2.1 127)), (3, .int q_27)]) hx hb dX11_cover_90 hl (k := 2) rfl rfl (by decide) rfl (fun ls hl => ?_)
          refine lv_goto (tgt := 18) hx hb dX11_cover_93 (by decide) ?_
          have he_12 : f_X11_cover_L18 (n + 1) S x1_18 x2_18 = f_X11_cover_L18 n S x1_18 (x2_18 + (-1)) := (by have hq_27 := hq_27.symm; subst hq_27; exact (iN c_1 (ip c_11 rfl)))
          exact ih_18 x1_18 (x2_18 + (-1)) (by have hq_27 := hq_27.symm; subst hq_27; exact (sp (nr (sn hs_18 c_1)) c_11)) (fun q hq => hex_18 q (hq.trans he_12.symm)) _ _ hP hS ls (lv_sub hl [2, 1, 0] rfl)
        · refine lv_iload_n hx hb dX11_cover_73 rfl (lv_at hl 2 rfl) ?_
          have hn_13 : s_X11_ones S x2_18 := (by have hq_27 := hq_27.symm; subst hq_27; exact nl (sn (nr (sn hs_18 c_1)) c_11))
          refine xcS_iR (As := [.int x2_18]) (rest := []) hC hP hS (k_X11_ones l X S x2_18 hn_13) (va_cwS 1 hts gX11_cover_X11_ones rfl rfl rfl hs_X11_ones ⟨Nat.le_of_ble_eq_true rfl, Nat.le_of_ble_eq_true rfl⟩) rfl rfl hl.1 (Nat.le_of_ble_eq_true rfl) dX11_cover_74 (fun r_14 hr_14 H locs hP hS => ?_)
          refine lv_iload_n hx hb dX11_cover_77 rfl (lv_at hl 1 rfl) ?_
          have hn_15 : s_X11_ones S x1_18 := (by have hq_27 := hq_27.symm; have hr_14 := hr_14.symm; subst hq_27 hr_14; exact nl (nr (sn (nr (sn hs_18 c_1)) c_11)))
          refine xcS_iR (As := [.int x1_18]) (rest := [.int r_14]) hC hP hS (k_X11_ones l X S x1_18 hn_15) (va_cwS 1 hts gX11_cover_X11_ones rfl rfl rfl hs_X11_ones ⟨Nat.le_of_ble_eq_true rfl, Nat.le_of_ble_eq_true rfl⟩) rfl rfl hl.1 (Nat.le_of_ble_eq_true rfl) dX11_cover_78 (fun r_16 hr_16 H locs hP hS => ?_)
          refine lv_icmp_gt (tgt := 88) hx hb dX11_cover_81 (by decide) (fun c_17 => ?_) (fun c_17 => ?_)
          · refine lv_iload_n hx hb dX11_cover_88 rfl (lv_at hl 1 rfl) ?_
            refine lv_istore_n (lv' := [(1, .int x1_18), (0, .ref (X.2.1 127)), (2, .int x2_18), (3, .int q_27)]) hx hb dX11_cover_89 rfl hl (by decide) rfl (fun ls hl => ?_)
            refine lv_iinc (v := (x2_18 + (-1))) (lv' := [(2, .int (x2_18 + (-1))), (1, .int x1_18), (0, .ref (X.2.1 127)), (3, .int q_27)]) hx hb dX11_cover_90 hl (k := 2) rfl rfl (by decide) rfl (fun ls hl => ?_)
            refine lv_goto (tgt := 18) hx hb dX11_cover_93 (by decide) ?_
            have he_18 : f_X11_cover_L18 (n + 1) S x1_18 x2_18 = f_X11_cover_L18 n S x1_18 (x2_18 + (-1)) := (by have hq_27 := hq_27.symm; have hr_14 := hr_14.symm; have hr_16 := hr_16.symm; subst hq_27 hr_14 hr_16; exact (iN c_1 (iN c_11 (ip c_17 rfl))))
            exact ih_18 x1_18 (x2_18 + (-1)) (by have hq_27 := hq_27.symm; have hr_14 := hr_14.symm; have hr_16 := hr_16.symm; subst hq_27 hr_14 hr_16; exact (sp (nr (nr (sn (nr (sn hs_18 c_1)) c_11))) c_17)) (fun q hq => hex_18 q (hq.trans he_18.symm)) _ _ hP hS ls (lv_sub hl [2, 1, 0] rfl)
          · refine lv_iload_n hx hb dX11_cover_84 rfl (lv_at hl 2 rfl) ?_
            refine lv_goto (tgt := 89) hx hb dX11_cover_85 (by decide) ?_
            refine lv_istore_n (lv' := [(1, .int x2_18), (0, .ref (X.2.1 127)), (2, .int x2_18), (3, .int q_27)]) hx hb dX11_cover_89 rfl hl (by decide) rfl (fun ls hl => ?_)
            refine lv_iinc (v := (x2_18 + (-1))) (lv' := [(2, .int (x2_18 + (-1))), (1, .int x2_18), (0, .ref (X.2.1 127)), (3, .int q_27)]) hx hb dX11_cover_90 hl (k := 2) rfl rfl (by decide) rfl (fun ls hl => ?_)
            refine lv_goto (tgt := 18) hx hb dX11_cover_93 (by decide) ?_
            have he_19 : f_X11_cover_L18 (n + 1) S x1_18 x2_18 = f_X11_cover_L18 n S x2_18 (x2_18 + (-1)) := (by have hq_27 := hq_27.symm; have hr_14 := hr_14.symm; have hr_16 := hr_16.symm; subst hq_27 hr_14 hr_16; exact (iN c_1 (iN c_11 (iN c_17 rfl))))
            exact ih_18 x2_18 (x2_18 + (-1)) (by have hq_27 := hq_27.symm; have hr_14 := hr_14.symm; have hr_16 := hr_16.symm; subst hq_27 hr_14 hr_16; exact (sn (nr (nr (sn (nr (sn hs_18 c_1)) c_11))) c_17)) (fun q hq => hex_18 q (hq.trans he_19.symm)) _ _ hP hS ls (lv_sub hl [2, 1, 0] rfl)
  refine hLp_18 ((fd ((1 <<< ((S 127 0) &&& 31)) - 1))) ((1 <<< ((S 127 0) &&& 31)) - 1) ((1 <<< ((S 127 0) &&& 31)) - 1) (nl hs) (fun q_18 hq_18 H locs hP hS ls hl => ?_) _ _ hP hS ls (lv_sub hl [2, 1, 0] rfl)
  refine lv_iload_n hx hb dX11_cover_96 rfl (lv_at hl 0 rfl) ?_
  exact xret_iR hC hP hS hb hr ((by have hq_18 := hq_18.symm; subst hq_18; exact rfl)) dX11_cover_97 hlocks
theorem hd_X11_told : yX11_told.cls = RX11 ∧ yX11_told.cls ≠ "java/lang/invoke/MethodHandle" ∧ yX11_told.cls ≠ "java/lang/invoke/VarHandle" ∧ (parseMethodDescriptor yX11_told.desc).map (fun d => d.parameters.length) = some 1 := by decide +kernel
set_option maxHeartbeats 4000000 in
set_option maxRecDepth 100000 in
theorem k_X11_told (l : Launch) (X : xX) (S : xS) (p0 : Int32) (hs : s_X11_told S p0) : Met l yX11_told wsX11_told ({ frames := 4, cells := 0, slots := 0, locals := 93 } : Room) (va_Pc [.ref (X.2.1 127), .int p0] (xI X S)) (va_Qi (fun (r : Int32) (u : xS) => r = (f_X11_told S p0) ∧ u = S) (xI X) (xA X)) 0 0 (xA X) := by
  refine Met.ofW (cc := cX11_told) (maxL := 2) (ret := (some .int)) (by decide +kernel) rfl ?_
  intro p e s m args below meth c s₁ B hml hv
  obtain ⟨rfl, hP, hK, hN, hJ⟩ := hv
  have hx := B.exec
  have hb := B.bytes
  have hr := B.returns
  have hts := atoms_spec (ws := wsX11_told) B.pre
  have hown : s.vm.findClass RX11 = some m.cls := findClass_of_methodNamed B.named
  have hlocks := B.notSynchronized
  have hC : xC X p m c cX11_told 2 s _ wsX11_told RX11 := ⟨⟨hx, hb, hml, hown, hts⟩, hK, hN, hJ⟩
  have hS : va_S (xA X) s.heap s.heap [] := va_S.rf
  have hin_X11 : ∀ w ∈ u_ws RX11 TX11 41, w ∈ wsX11_told := by decide +kernel
  have hl := lv_entry ([.ref (X.2.1 127), .int p0]) (n := 2) (Nat.le_of_ble_eq_true rfl)
  rw [lg_entry_eq]
  generalize (lg_sl ([.ref (X.2.1 127), .int p0]) ++ List.replicate (2 - (lg_sl ([.ref (X.2.1 127), .int p0])).length) Slot.unset).toArray = ls at hl ⊢
  have hl : lv_has ls 2 [(0, .ref (X.2.1 127)), (1, .int p0)] := hl
  refine lv_iload_n hx hb dX11_told_0 rfl (lv_at hl 1 rfl) ?_
  by_cases c_1 : p0 = 0
  · refine lv_tableIn (off := 71) (tgt := 72) hx hb dX11_told_1 (by rw [c_1]; decide) (by rw [c_1]; decide) (by rw [c_1]; rfl) (by decide) ?_
    refine lv_aload_n hx hb dX11_told_72 rfl (lv_at hl 0 rfl) ?_
    refine xget (ref := "AbsentPraiseModel") (T := TX11) (v := .int (S 127 0)) hC hP hin_X11 xo_X11 rfl 0 (by decide) (List.mem_of_getElem? (i := 1) rfl) rfl rfl dX11_told_73 ?_
    exact xret_iR hC hP hS hb hr (((ip c_1 rfl))) dX11_told_76 hlocks
  · by_cases c_2 : p0 = 1
    · refine lv_tableIn (off := 76) (tgt := 77) hx hb dX11_told_1 (by rw [c_2]; decide) (by rw [c_2]; decide) (by rw [c_2]; rfl) (by decide) ?_
      refine lv_aload_n hx hb dX11_told_77 rfl (lv_at hl 0 rfl) ?_
      refine xget (ref := "AbsentPraiseModel") (T := TX11) (v := .int (S 127 1)) hC hP hin_X11 xo_X11 rfl 1 (by decide) (List.mem_of_getElem? (i := 2) rfl) rfl rfl dX11_told_78 ?_
      exact xret_iR hC hP hS hb hr (((iN c_1 (ip c_2 rfl)))) dX11_told_81 hlocks
    · by_cases c_3 : p0 = 2
      · refine lv_tableIn (off := 81) (tgt := 82) hx hb dX11_told_1 (by rw [c_3]; decide) (by rw [c_3]; decide) (by rw [c_3]; rfl) (by decide) ?_
        refine lv_aload_n hx hb dX11_told_82 rfl (lv_at hl 0 rfl) ?_
        refine xget (ref := "AbsentPraiseModel") (T := TX11) (v := .int (S 127 2)) hC hP hin_X11 xo_X11 rfl 2 (by decide) (List.mem_of_getElem? (i := 3) rfl) rfl rfl dX11_told_83 ?_
        exact xret_iR hC hP hS hb hr (((iN c_1 (iN c_2 (ip c_3 rfl))))) dX11_told_86 hlocks
      · by_cases c_4 : p0 = 3
        · refine lv_tableIn (off := 86) (tgt := 87) hx hb dX11_told_1 (by rw [c_4]; decide) (by rw [c_4]; decide) (by rw [c_4]; rfl) (by decide) ?_
          refine lv_aload_n hx hb dX11_told_87 rfl (lv_at hl 0 rfl) ?_
          refine xget (ref := "AbsentPraiseModel") (T := TX11) (v := .int (S 127 3)) hC hP hin_X11 xo_X11 rfl 3 (by decide) (List.mem_of_getElem? (i := 4) rfl) rfl rfl dX11_told_88 ?_
          exact xret_iR hC hP hS hb hr (((iN c_1 (iN c_2 (iN c_3 (ip c_4 rfl)))))) dX11_told_91 hlocks
        · by_cases c_5 : p0 = 4
          · refine lv_tableIn (off := 91) (tgt := 92) hx hb dX11_told_1 (by rw [c_5]; decide) (by rw [c_5]; decide) (by rw [c_5]; rfl) (by decide) ?_
            refine lv_aload_n hx hb dX11_told_92 rfl (lv_at hl 0 rfl) ?_
            refine xget (ref := "AbsentPraiseModel") (T := TX11) (v := .int (S 127 6)) hC hP hin_X11 xo_X11 rfl 6 (by decide) (List.mem_of_getElem? (i := 5) rfl) rfl rfl dX11_told_93 ?_
            exact xret_iR hC hP hS hb hr (((iN c_1 (iN c_2 (iN c_3 (iN c_4 (ip c_5 rfl))))))) dX11_told_96 hlocks
          · by_cases c_6 : p0 = 5
            · refine lv_tableIn (off := 96) (tgt := 97) hx hb dX11_told_1 (by rw [c_6]; decide) (by rw [c_6]; decide) (by rw [c_6]; rfl) (by decide) ?_
              refine lv_aload_n hx hb dX11_told_97 rfl (lv_at hl 0 rfl) ?_
              refine xget (ref := "AbsentPraiseModel") (T := TX11) (v := .int (S 127 19)) hC hP hin_X11 xo_X11 rfl 19 (by decide) (List.mem_of_getElem? (i := 6) rfl) rfl rfl dX11_told_98 ?_
              exact xret_iR hC hP hS hb hr (((iN c_1 (iN c_2 (iN c_3 (iN c_4 (iN c_5 (ip c_6 rfl)))))))) dX11_told_101 hlocks
            · by_cases c_7 : p0 = 6
              · refine lv_tableIn (off := 101) (tgt := 102) hx hb dX11_told_1 (by rw [c_7]; decide) (by rw [c_7]; decide) (by rw [c_7]; rfl) (by decide) ?_
                refine lv_aload_n hx hb dX11_told_102 rfl (lv_at hl 0 rfl) ?_
                refine xget (ref := "AbsentPraiseModel") (T := TX11) (v := .ref (X.2.1 131)) hC hP hin_X11 xo_X11 rfl 8 (by decide) (List.mem_of_getElem? (i := 7) rfl) rfl rfl dX11_told_103 ?_
                refine lv_iconst (v := 0) hx hb dX11_told_106 (by decide) ?_
                refine xiald hC hP rfl (vp_lit (by decide)) dX11_told_107 ?_
                exact xret_iR hC hP hS hb hr (((iN c_1 (iN c_2 (iN c_3 (iN c_4 (iN c_5 (iN c_6 (ip c_7 rfl))))))))) dX11_told_108 hlocks
              · by_cases c_8 : p0 = 7
                · refine lv_tableIn (off := 108) (tgt := 109) hx hb dX11_told_1 (by rw [c_8]; decide) (by rw [c_8]; decide) (by rw [c_8]; rfl) (by decide) ?_
                  refine lv_aload_n hx hb dX11_told_109 rfl (lv_at hl 0 rfl) ?_
                  refine xget (ref := "AbsentPraiseModel") (T := TX11) (v := .ref (X.2.1 131)) hC hP hin_X11 xo_X11 rfl 8 (by decide) (List.mem_of_getElem? (i := 7) rfl) rfl rfl dX11_told_110 ?_
                  refine lv_iconst (v := 1) hx hb dX11_told_113 (by decide) ?_
                  refine xiald hC hP rfl (vp_lit (by decide)) dX11_told_114 ?_
                  exact xret_iR hC hP hS hb hr (((iN c_1 (iN c_2 (iN c_3 (iN c_4 (iN c_5 (iN c_6 (iN c_7 (ip c_8 rfl)))))))))) dX11_told_115 hlocks
                · by_cases c_9 : p0 = 8
                  · refine lv_tableIn (off := 115) (tgt := 116) hx hb dX11_told_1 (by rw [c_9]; decide) (by rw [c_9]; decide) (by rw [c_9]; rfl) (by decide) ?_
                    refine lv_aload_n hx hb dX11_told_116 rfl (lv_at hl 0 rfl) ?_
                    have hn_10 : s_X11_praised S := (nl (sp (sn (sn (sn (sn (sn (sn (sn (sn hs c_1) c_2) c_3) c_4) c_5) c_6) c_7) c_8) c_9))
                    refine xcV_iR (b := 127) (As := []) (rest := []) hC hP hS (k_X11_praised l X S hn_10) (cwV 0 hts gX11_told_X11_praised rfl rfl rfl hd_X11_praised ⟨Nat.le_of_ble_eq_true rfl, Nat.le_of_ble_eq_true rfl⟩) xo_X11 rfl rfl rfl hl.1 (Nat.le_of_ble_eq_true rfl) dX11_told_117 (fun r_11 hr_11 H locs hP hS => ?_)
                    exact xret_iR hC hP hS hb hr ((by have hr_11 := hr_11.symm; subst hr_11; exact (iN c_1 (iN c_2 (iN c_3 (iN c_4 (iN c_5 (iN c_6 (iN c_7 (iN c_8 (ip c_9 rfl))))))))))) dX11_told_120 hlocks
                  · by_cases c_12 : p0 = 9
                    · refine lv_tableIn (off := 120) (tgt := 121) hx hb dX11_told_1 (by rw [c_12]; decide) (by rw [c_12]; decide) (by rw [c_12]; rfl) (by decide) ?_
                      refine lv_aload_n hx hb dX11_told_121 rfl (lv_at hl 0 rfl) ?_
                      refine lv_iconst (v := (-1)) hx hb dX11_told_122 (by decide) ?_
                      have hn_13 : s_X11_silentBy S (-1) := (nl (sp (sn (sn (sn (sn (sn (sn (sn (sn (sn hs c_1) c_2) c_3) c_4) c_5) c_6) c_7) c_8) c_9) c_12))
                      refine xcV_iR (b := 127) (As := [.int (-1)]) (rest := []) hC hP hS (k_X11_silentBy l X S (-1) hn_13) (cwV 1 hts gX11_told_X11_silentBy rfl rfl rfl hd_X11_silentBy ⟨Nat.le_of_ble_eq_true rfl, Nat.le_of_ble_eq_true rfl⟩) xo_X11 rfl rfl rfl hl.1 (Nat.le_of_ble_eq_true rfl) dX11_told_123 (fun r_14 hr_14 H locs hP hS => ?_)
                      exact xret_iR hC hP hS hb hr ((by have hr_14 := hr_14.symm; subst hr_14; exact (iN c_1 (iN c_2 (iN c_3 (iN c_4 (iN c_5 (iN c_6 (iN c_7 (iN c_8 (iN c_9 (ip c_12 rfl)))))))))))) dX11_told_126 hlocks
                    · by_cases c_15 : p0 = 10
                      · refine lv_tableIn (off := 126) (tgt := 127) hx hb dX11_told_1 (by rw [c_15]; decide) (by rw [c_15]; decide) (by rw [c_15]; rfl) (by decide) ?_
                        refine lv_aload_n hx hb dX11_told_127 rfl (lv_at hl 0 rfl) ?_
                        have hn_16 : s_X11_cover S := (nl (sp (sn (sn (sn (sn (sn (sn (sn (sn (sn (sn hs c_1) c_2) c_3) c_4) c_5) c_6) c_7) c_8) c_9) c_12) c_15))
                        refine xcV_iR (b := 127) (As := []) (rest := []) hC hP hS (k_X11_cover l X S hn_16) (cwV 0 hts gX11_told_X11_cover rfl rfl rfl hd_X11_cover ⟨Nat.le_of_ble_eq_true rfl, Nat.le_of_ble_eq_true rfl⟩) xo_X11 rfl rfl rfl hl.1 (Nat.le_of_ble_eq_true rfl) dX11_told_128 (fun r_17 hr_17 H locs hP hS => ?_)
                        exact xret_iR hC hP hS hb hr ((by have hr_17 := hr_17.symm; subst hr_17; exact (iN c_1 (iN c_2 (iN c_3 (iN c_4 (iN c_5 (iN c_6 (iN c_7 (iN c_8 (iN c_9 (iN c_12 (ip c_15 rfl))))))))))))) dX11_told_131 hlocks
                      · by_cases c_18 : p0 = 11
                        · refine lv_tableIn (off := 131) (tgt := 132) hx hb dX11_told_1 (by rw [c_18]; decide) (by rw [c_18]; decide) (by rw [c_18]; rfl) (by decide) ?_
                          refine lv_aload_n hx hb dX11_told_132 rfl (lv_at hl 0 rfl) ?_
                          refine xget (ref := "AbsentPraiseModel") (T := TX11) (v := .int (S 127 11)) hC hP hin_X11 xo_X11 rfl 11 (by decide) (List.mem_of_getElem? (i := 8) rfl) rfl rfl dX11_told_133 ?_
                          exact xret_iR hC hP hS hb hr (((iN c_1 (iN c_2 (iN c_3 (iN c_4 (iN c_5 (iN c_6 (iN c_7 (iN c_8 (iN c_9 (iN c_12 (iN c_15 (ip c_18 rfl)))))))))))))) dX11_told_136 hlocks
                        · by_cases c_19 : p0 = 12
                          · refine lv_tableIn (off := 136) (tgt := 137) hx hb dX11_told_1 (by rw [c_19]; decide) (by rw [c_19]; decide) (by rw [c_19]; rfl) (by decide) ?_
                            refine lv_aload_n hx hb dX11_told_137 rfl (lv_at hl 0 rfl) ?_
                            refine xget (ref := "AbsentPraiseModel") (T := TX11) (v := .int (S 127 15)) hC hP hin_X11 xo_X11 rfl 15 (by decide) (List.mem_of_getElem? (i := 9) rfl) rfl rfl dX11_told_138 ?_
                            exact xret_iR hC hP hS hb hr (((iN c_1 (iN c_2 (iN c_3 (iN c_4 (iN c_5 (iN c_6 (iN c_7 (iN c_8 (iN c_9 (iN c_12 (iN c_15 (iN c_18 (ip c_19 rfl))))))))))))))) dX11_told_141 hlocks
                          · by_cases c_20 : p0 = 13
                            · refine lv_tableIn (off := 141) (tgt := 142) hx hb dX11_told_1 (by rw [c_20]; decide) (by rw [c_20]; decide) (by rw [c_20]; rfl) (by decide) ?_
                              refine lv_aload_n hx hb dX11_told_142 rfl (lv_at hl 0 rfl) ?_
                              refine xget (ref := "AbsentPraiseModel") (T := TX11) (v := .int (S 127 36)) hC hP hin_X11 xo_X11 rfl 36 (by decide) (List.mem_of_getElem? (i := 10) rfl) rfl rfl dX11_told_143 ?_
                              exact xret_iR hC hP hS hb hr (((iN c_1 (iN c_2 (iN c_3 (iN c_4 (iN c_5 (iN c_6 (iN c_7 (iN c_8 (iN c_9 (iN c_12 (iN c_15 (iN c_18 (iN c_19 (ip c_20 rfl)))))))))))))))) dX11_told_146 hlocks
                            · refine lv_tableOut (tgt := 147) hx hb dX11_told_1 (sw_out14 c_1 c_2 c_3 c_4 c_5 c_6 c_7 c_8 c_9 c_12 c_15 c_18 c_19 c_20) (by decide) ?_
                              refine lv_ldc (v := (-1000000002)) hx hb hown (hts (.constant RX11 91 (-1000000002)) (List.mem_of_getElem? (i := 11) rfl)) dX11_told_147 ?_
                              exact xret_iR hC hP hS hb hr (((iN c_1 (iN c_2 (iN c_3 (iN c_4 (iN c_5 (iN c_6 (iN c_7 (iN c_8 (iN c_9 (iN c_12 (iN c_15 (iN c_18 (iN c_19 (iN c_20 rfl)))))))))))))))) dX11_told_149 hlocks
theorem hd_X11_whoIsIn : yX11_whoIsIn.cls = RX11 ∧ yX11_whoIsIn.cls ≠ "java/lang/invoke/MethodHandle" ∧ yX11_whoIsIn.cls ≠ "java/lang/invoke/VarHandle" ∧ (parseMethodDescriptor yX11_whoIsIn.desc).map (fun d => d.parameters.length) = some 1 := by decide +kernel
set_option maxHeartbeats 4000000 in
set_option maxRecDepth 100000 in
theorem k_X11_whoIsIn (l : Launch) (X : xX) (S : xS) (p0 : Int32) (hs : s_X11_whoIsIn S p0) : Met l yX11_whoIsIn wsX11_whoIsIn ({ frames := 0, cells := 0, slots := 0, locals := 0 } : Room) (va_Pc [.ref (X.2.1 127), .int p0] (xI X S)) (va_Qi (fun (r : Int32) (u : xS) => r = (f_X11_whoIsIn S p0) ∧ u = S) (xI X) (xA X)) 0 0 (xA X) := by
  refine Met.ofW (cc := cX11_whoIsIn) (maxL := 4) (ret := (some .int)) (by decide +kernel) rfl ?_
  intro p e s m args below meth c s₁ B hml hv
  obtain ⟨rfl, hP, hK, hN, hJ⟩ := hv
  have hx := B.exec
  have hb := B.bytes
  have hr := B.returns
  have hts := atoms_spec (ws := wsX11_whoIsIn) B.pre
  have hown : s.vm.findClass RX11 = some m.cls := findClass_of_methodNamed B.named
  have hlocks := B.notSynchronized
  have hC : xC X p m c cX11_whoIsIn 4 s _ wsX11_whoIsIn RX11 := ⟨⟨hx, hb, hml, hown, hts⟩, hK, hN, hJ⟩
  have hS : va_S (xA X) s.heap s.heap [] := va_S.rf
  have hin_X11 : ∀ w ∈ u_ws RX11 TX11 41, w ∈ wsX11_whoIsIn := by decide +kernel
  have hl := lv_entry ([.ref (X.2.1 127), .int p0]) (n := 4) (Nat.le_of_ble_eq_true rfl)
  rw [lg_entry_eq]
  generalize (lg_sl ([.ref (X.2.1 127), .int p0]) ++ List.replicate (4 - (lg_sl ([.ref (X.2.1 127), .int p0])).length) Slot.unset).toArray = ls at hl ⊢
  have hl : lv_has ls 4 [(0, .ref (X.2.1 127)), (1, .int p0)] := hl
  refine lv_iconst (v := 0) hx hb dX11_whoIsIn_0 (by decide) ?_
  refine lv_istore_n (lv' := [(2, .int 0), (0, .ref (X.2.1 127)), (1, .int p0)]) hx hb dX11_whoIsIn_1 rfl hl (by decide) rfl (fun ls hl => ?_)
  refine lv_iconst (v := 0) hx hb dX11_whoIsIn_2 (by decide) ?_
  refine lv_istore_n (lv' := [(3, .int 0), (2, .int 0), (0, .ref (X.2.1 127)), (1, .int p0)]) hx hb dX11_whoIsIn_3 rfl hl (by decide) rfl (fun ls hl => ?_)
  have hLp_4 : ∀ (n : Nat) (x1_4 : Int32) (x2_4 : Int32) (x3_4 : Int32), s_X11_whoIsIn_L4 n S x1_4 x2_4 x3_4 → (∀ q : Int32, q = f_X11_whoIsIn_L4 n S x1_4 x2_4 x3_4 → (∀ (H : Heap) (locs : List Loc), va_P X.1 vwCl (xW X S) H → va_S (xA X) s.heap H locs → ∀ (ls : Array Slot), lv_has ls 4 [(2, .int q)] → W p l e ({ frames := 0, cells := 0, slots := 0, locals := 0 } : Room) s m ([.ref (X.2.1 127), .int p0] : List Value).toArray below meth c H locs 0 0 (MQ below (va_Qi (fun (r : Int32) (u : xS) => r = (f_X11_whoIsIn S p0) ∧ u = S) (xI X) (xA X)) ([.ref (X.2.1 127), .int p0] : List Value).toArray s 0 0 (xA X)) (F0 m 40 ls []))) → ∀ (H : Heap) (locs : List Loc), va_P X.1 vwCl (xW X S) H → va_S (xA X) s.heap H locs → ∀ (ls : Array Slot), lv_has ls 4 [(0, .ref (X.2.1 127)), (1, .int x1_4), (2, .int x2_4), (3, .int x3_4)] → W p l e ({ frames := 0, cells := 0, slots := 0, locals := 0 } : Room) s m ([.ref (X.2.1 127), .int p0] : List Value).toArray below meth c H locs 0 0 (MQ below (va_Qi (fun (r : Int32) (u : xS) => r = (f_X11_whoIsIn S p0) ∧ u = S) (xI X) (xA X)) ([.ref (X.2.1 127), .int p0] : List Value).toArray s 0 0 (xA X)) (F0 m 4 ls []) := by
    intro n
    induction n with
    | zero => intro x1_4 x2_4 x3_4 hs; exact hs.elim
    | succ n ih_4 =>
      intro x1_4 x2_4 x3_4 hs_4 hex_4 H locs hP hS ls hl
      refine lv_iload_n hx hb dX11_whoIsIn_4 rfl (lv_at hl 3 rfl) ?_
      refine lv_aload_n hx hb dX11_whoIsIn_5 rfl (lv_at hl 0 rfl) ?_
      refine xget (ref := "AbsentPraiseModel") (T := TX11) (v := .int (S 127 6)) hC hP hin_X11 xo_X11 rfl 6 (by decide) (List.mem_of_getElem? (i := 1) rfl) rfl rfl dX11_whoIsIn_6 ?_
      refine lv_icmp_ge (tgt := 40) hx hb dX11_whoIsIn_9 (by decide) (fun c_1 => ?_) (fun c_1 => ?_)
      · have he_2 : f_X11_whoIsIn_L4 (n + 1) S x1_4 x2_4 x3_4 = x2_4 := ((ip c_1 rfl))
        exact hex_4 _ he_2.symm _ _ hP hS ls (lv_sub hl [2] rfl)
      · refine lv_iload_n hx hb dX11_whoIsIn_12 rfl (lv_at hl 2 rfl) ?_
        refine lv_aload_n hx hb dX11_whoIsIn_13 rfl (lv_at hl 0 rfl) ?_
        refine xget (ref := "AbsentPraiseModel") (T := TX11) (v := .ref (X.2.1 131)) hC hP hin_X11 xo_X11 rfl 8 (by decide) (List.mem_of_getElem? (i := 2) rfl) rfl rfl dX11_whoIsIn_14 ?_
        refine lv_iconst (v := 2) hx hb dX11_whoIsIn_17 (by decide) ?_
        refine lv_iload_n hx hb dX11_whoIsIn_18 rfl (lv_at hl 3 rfl) ?_
        refine lv_iadd hx hb dX11_whoIsIn_19 ?_
        have hn_3 : vp_in (2 + x3_4) 72 := (nl (sn hs_4 c_1))
        refine xiald hC hP rfl hn_3 dX11_whoIsIn_20 ?_
        refine lv_iload_n hx hb dX11_whoIsIn_21 rfl (lv_at hl 1 rfl) ?_
        refine lv_icmp_ne (tgt := 31) hx hb dX11_whoIsIn_22 (by decide) (fun c_4 => ?_) (fun c_4 => ?_)
        · refine lv_iconst (v := 0) hx hb dX11_whoIsIn_31 (by decide) ?_
          refine lv_ior hx hb dX11_whoIsIn_32 ?_
          refine lv_istore_n (lv' := [(2, .int (x2_4 ||| 0)), (0, .ref (X.2.1 127)), (1, .int x1_4), (3, .int x3_4)]) hx hb dX11_whoIsIn_33 rfl hl (by decide) rfl (fun ls hl => ?_)
          refine lv_iinc (v := (x3_4 + 1)) (lv' := [(3, .int (x3_4 + 1)), (2, .int (x2_4 ||| 0)), (0, .ref (X.2.1 127)), (1, .int x1_4)]) hx hb dX11_whoIsIn_34 hl (k := 3) rfl rfl (by decide) rfl (fun ls hl => ?_)
          refine lv_goto (tgt := 4) hx hb dX11_whoIsIn_37 (by decide) ?_
          have he_5 : f_X11_whoIsIn_L4 (n + 1) S x1_4 x2_4 x3_4 = f_X11_whoIsIn_L4 n S x1_4 (x2_4 ||| 0) (x3_4 + 1) := ((iN c_1 (iN c_4 rfl)))
          exact ih_4 x1_4 (x2_4 ||| 0) (x3_4 + 1) ((sn (nr (sn hs_4 c_1)) c_4)) (fun q hq => hex_4 q (hq.trans he_5.symm)) _ _ hP hS ls (lv_sub hl [2, 3, 1, 0] rfl)
        · refine lv_iconst (v := 1) hx hb dX11_whoIsIn_25 (by decide) ?_
          refine lv_iload_n hx hb dX11_whoIsIn_26 rfl (lv_at hl 3 rfl) ?_
          refine lv_ishl hx hb dX11_whoIsIn_27 ?_
          refine lv_goto (tgt := 32) hx hb dX11_whoIsIn_28 (by decide) ?_
          refine lv_ior hx hb dX11_whoIsIn_32 ?_
          refine lv_istore_n (lv' := [(2, .int (x2_4 ||| (1 <<< (x3_4 &&& 31)))), (0, .ref (X.2.1 127)), (1, .int x1_4), (3, .int x3_4)]) hx hb dX11_whoIsIn_33 rfl hl (by decide) rfl (fun ls hl => ?_)
          refine lv_iinc (v := (x3_4 + 1)) (lv' := [(3, .int (x3_4 + 1)), (2, .int (x2_4 ||| (1 <<< (x3_4 &&& 31)))), (0, .ref (X.2.1 127)), (1, .int x1_4)]) hx hb dX11_whoIsIn_34 hl (k := 3) rfl rfl (by decide) rfl (fun ls hl => ?_)
          refine lv_goto (tgt := 4) hx hb dX11_whoIsIn_37 (by decide) ?_
          have he_6 : f_X11_whoIsIn_L4 (n + 1) S x1_4 x2_4 x3_4 = f_X11_whoIsIn_L4 n S x1_4 (x2_4 ||| (1 <<< (x3_4 &&& 31))) (x3_4 + 1) := ((iN c_1 (ip c_4 rfl)))
          exact ih_4 x1_4 (x2_4 ||| (1 <<< (x3_4 &&& 31))) (x3_4 + 1) ((sp (nr (sn hs_4 c_1)) c_4)) (fun q hq => hex_4 q (hq.trans he_6.symm)) _ _ hP hS ls (lv_sub hl [2, 3, 1, 0] rfl)
  refine hLp_4 ((fu 0 (S 127 6))) p0 0 0 (nl hs) (fun q_4 hq_4 H locs hP hS ls hl => ?_) _ _ hP hS ls (lv_sub hl [2, 3, 1, 0] rfl)
  refine lv_iload_n hx hb dX11_whoIsIn_40 rfl (lv_at hl 0 rfl) ?_
  exact xret_iR hC hP hS hb hr ((by have hq_4 := hq_4.symm; subst hq_4; exact rfl)) dX11_whoIsIn_41 hlocks
theorem hd_X11_room : yX11_room.cls = RX11 ∧ yX11_room.cls ≠ "java/lang/invoke/MethodHandle" ∧ yX11_room.cls ≠ "java/lang/invoke/VarHandle" ∧ (parseMethodDescriptor yX11_room.desc).map (fun d => d.parameters.length) = some 2 := by decide +kernel
set_option maxHeartbeats 4000000 in
set_option maxRecDepth 100000 in
theorem k_X11_room (l : Launch) (X : xX) (S : xS) (p0 : Int32) (p1 : Int32) (hs : s_X11_room S p0 p1) : Met l yX11_room wsX11_room ({ frames := 2, cells := 0, slots := 0, locals := 46 } : Room) (va_Pc [.ref (X.2.1 127), .int p0, .int p1] (xI X S)) (va_Qi (fun (r : Int32) (u : xS) => r = (f_X11_room S p0 p1) ∧ u = S) (xI X) (xA X)) 0 0 (xA X) := by
  refine Met.ofW (cc := cX11_room) (maxL := 3) (ret := (some .int)) (by decide +kernel) rfl ?_
  intro p e s m args below meth c s₁ B hml hv
  obtain ⟨rfl, hP, hK, hN, hJ⟩ := hv
  have hx := B.exec
  have hb := B.bytes
  have hr := B.returns
  have hts := atoms_spec (ws := wsX11_room) B.pre
  have hown : s.vm.findClass RX11 = some m.cls := findClass_of_methodNamed B.named
  have hlocks := B.notSynchronized
  have hC : xC X p m c cX11_room 3 s _ wsX11_room RX11 := ⟨⟨hx, hb, hml, hown, hts⟩, hK, hN, hJ⟩
  have hS : va_S (xA X) s.heap s.heap [] := va_S.rf
  have hin_X11 : ∀ w ∈ u_ws RX11 TX11 41, w ∈ wsX11_room := by decide +kernel
  have hl := lv_entry ([.ref (X.2.1 127), .int p0, .int p1]) (n := 3) (Nat.le_of_ble_eq_true rfl)
  rw [lg_entry_eq]
  generalize (lg_sl ([.ref (X.2.1 127), .int p0, .int p1]) ++ List.replicate (3 - (lg_sl ([.ref (X.2.1 127), .int p0, .int p1])).length) Slot.unset).toArray = ls at hl ⊢
  have hl : lv_has ls 3 [(0, .ref (X.2.1 127)), (1, .int p0), (2, .int p1)] := hl
  refine lv_aload_n hx hb dX11_room_0 rfl (lv_at hl 0 rfl) ?_
  refine lv_iload_n hx hb dX11_room_1 rfl (lv_at hl 1 rfl) ?_
  refine xcV_iR (b := 127) (As := [.int p0]) (rest := []) hC hP hS (k_X11_isRoom l X S p0) (cwV 1 hts gX11_room_X11_isRoom rfl rfl rfl hd_X11_isRoom ⟨Nat.le_of_ble_eq_true rfl, Nat.le_of_ble_eq_true rfl⟩) xo_X11 rfl rfl rfl hl.1 (Nat.le_of_ble_eq_true rfl) dX11_room_2 (fun r_1 hp_r_1 H locs hP hS => ?_)
  obtain ⟨hr_1, hzr_1⟩ := hp_r_1
  refine lv_if_ne (tgt := 11) hx hb dX11_room_5 (by decide) (fun c_2 => ?_) (fun c_2 => ?_)
  · refine lv_iload_n hx hb dX11_room_11 rfl (lv_at hl 2 rfl) ?_
    refine lv_if_ne (tgt := 23) hx hb dX11_room_12 (by decide) (fun c_3 => ?_) (fun c_3 => ?_)
    · refine lv_iload_n hx hb dX11_room_23 rfl (lv_at hl 2 rfl) ?_
      refine lv_iconst (v := 1) hx hb dX11_room_24 (by decide) ?_
      refine lv_icmp_ne (tgt := 37) hx hb dX11_room_25 (by decide) (fun c_4 => ?_) (fun c_4 => ?_)
      · refine lv_iload_n hx hb dX11_room_37 rfl (lv_at hl 2 rfl) ?_
        refine lv_iconst (v := 2) hx hb dX11_room_38 (by decide) ?_
        refine lv_icmp_ne (tgt := 51) hx hb dX11_room_39 (by decide) (fun c_5 => ?_) (fun c_5 => ?_)
        · refine lv_ldc (v := (-1000000002)) hx hb hown (hts (.constant RX11 91 (-1000000002)) (List.mem_of_getElem? (i := 4) rfl)) dX11_room_51 ?_
          exact xret_iR hC hP hS hb hr ((by have hr_1 := hr_1.symm; subst hr_1; exact (iN c_2 (iN c_3 (iN c_4 (iN c_5 rfl)))))) dX11_room_53 hlocks
        · refine lv_aload_n hx hb dX11_room_42 rfl (lv_at hl 0 rfl) ?_
          refine xget (ref := "AbsentPraiseModel") (T := TX11) (v := .ref (X.2.1 129)) hC hP hin_X11 xo_X11 rfl 5 (by decide) (List.mem_of_getElem? (i := 3) rfl) rfl rfl dX11_room_43 ?_
          refine lv_iload_n hx hb dX11_room_46 rfl (lv_at hl 1 rfl) ?_
          have hn_6 : vp_in p0 6 := (by have hr_1 := hr_1.symm; subst hr_1; exact nl (sp (sn (sn (sn hs c_2) c_3) c_4) c_5))
          refine xiald hC hP rfl hn_6 dX11_room_47 ?_
          refine lv_goto (tgt := 53) hx hb dX11_room_48 (by decide) ?_
          exact xret_iR hC hP hS hb hr ((by have hr_1 := hr_1.symm; subst hr_1; exact (iN c_2 (iN c_3 (iN c_4 (ip c_5 rfl)))))) dX11_room_53 hlocks
      · refine lv_aload_n hx hb dX11_room_28 rfl (lv_at hl 0 rfl) ?_
        refine xget (ref := "AbsentPraiseModel") (T := TX11) (v := .ref (X.2.1 128)) hC hP hin_X11 xo_X11 rfl 4 (by decide) (List.mem_of_getElem? (i := 2) rfl) rfl rfl dX11_room_29 ?_
        refine lv_iload_n hx hb dX11_room_32 rfl (lv_at hl 1 rfl) ?_
        have hn_7 : vp_in p0 6 := (by have hr_1 := hr_1.symm; subst hr_1; exact nl (sp (sn (sn hs c_2) c_3) c_4))
        refine xiald hC hP rfl hn_7 dX11_room_33 ?_
        refine lv_goto (tgt := 53) hx hb dX11_room_34 (by decide) ?_
        exact xret_iR hC hP hS hb hr ((by have hr_1 := hr_1.symm; subst hr_1; exact (iN c_2 (iN c_3 (ip c_4 rfl))))) dX11_room_53 hlocks
    · refine lv_aload_n hx hb dX11_room_15 rfl (lv_at hl 0 rfl) ?_
      refine lv_iload_n hx hb dX11_room_16 rfl (lv_at hl 1 rfl) ?_
      have hn_8 : s_X11_whoIsIn S p0 := (by have hr_1 := hr_1.symm; subst hr_1; exact nl (sp (sn hs c_2) c_3))
      refine xcV_iR (b := 127) (As := [.int p0]) (rest := []) hC hP hS (k_X11_whoIsIn l X S p0 hn_8) (cwV 1 hts gX11_room_X11_whoIsIn rfl rfl rfl hd_X11_whoIsIn ⟨Nat.le_of_ble_eq_true rfl, Nat.le_of_ble_eq_true rfl⟩) xo_X11 rfl rfl rfl hl.1 (Nat.le_of_ble_eq_true rfl) dX11_room_17 (fun r_9 hr_9 H locs hP hS => ?_)
      refine lv_goto (tgt := 53) hx hb dX11_room_20 (by decide) ?_
      exact xret_iR hC hP hS hb hr ((by have hr_1 := hr_1.symm; have hr_9 := hr_9.symm; subst hr_1 hr_9; exact (iN c_2 (ip c_3 rfl)))) dX11_room_53 hlocks
  · refine lv_ldc (v := (-1000000001)) hx hb hown (hts (.constant RX11 230 (-1000000001)) (List.mem_of_getElem? (i := 1) rfl)) dX11_room_8 ?_
    exact xret_iR hC hP hS hb hr ((by have hr_1 := hr_1.symm; subst hr_1; exact (ip c_2 rfl))) dX11_room_10 hlocks
theorem hd_X11_person : yX11_person.cls = RX11 ∧ yX11_person.cls ≠ "java/lang/invoke/MethodHandle" ∧ yX11_person.cls ≠ "java/lang/invoke/VarHandle" ∧ (parseMethodDescriptor yX11_person.desc).map (fun d => d.parameters.length) = some 2 := by decide +kernel
set_option maxHeartbeats 4000000 in
set_option maxRecDepth 100000 in
theorem k_X11_person (l : Launch) (X : xX) (S : xS) (p0 : Int32) (p1 : Int32) (hs : s_X11_person S p0 p1) : Met l yX11_person wsX11_person ({ frames := 2, cells := 0, slots := 0, locals := 46 } : Room) (va_Pc [.ref (X.2.1 127), .int p0, .int p1] (xI X S)) (va_Qi (fun (r : Int32) (u : xS) => r = (f_X11_person S p0 p1) ∧ u = S) (xI X) (xA X)) 0 0 (xA X) := by
  refine Met.ofW (cc := cX11_person) (maxL := 3) (ret := (some .int)) (by decide +kernel) rfl ?_
  intro p e s m args below meth c s₁ B hml hv
  obtain ⟨rfl, hP, hK, hN, hJ⟩ := hv
  have hx := B.exec
  have hb := B.bytes
  have hr := B.returns
  have hts := atoms_spec (ws := wsX11_person) B.pre
  have hown : s.vm.findClass RX11 = some m.cls := findClass_of_methodNamed B.named
  have hlocks := B.notSynchronized
  have hC : xC X p m c cX11_person 3 s _ wsX11_person RX11 := ⟨⟨hx, hb, hml, hown, hts⟩, hK, hN, hJ⟩
  have hS : va_S (xA X) s.heap s.heap [] := va_S.rf
  have hin_X11 : ∀ w ∈ u_ws RX11 TX11 41, w ∈ wsX11_person := by decide +kernel
  have hl := lv_entry ([.ref (X.2.1 127), .int p0, .int p1]) (n := 3) (Nat.le_of_ble_eq_true rfl)
  rw [lg_entry_eq]
  generalize (lg_sl ([.ref (X.2.1 127), .int p0, .int p1]) ++ List.replicate (3 - (lg_sl ([.ref (X.2.1 127), .int p0, .int p1])).length) Slot.unset).toArray = ls at hl ⊢
  have hl : lv_has ls 3 [(0, .ref (X.2.1 127)), (1, .int p0), (2, .int p1)] := hl
  refine lv_aload_n hx hb dX11_person_0 rfl (lv_at hl 0 rfl) ?_
  refine lv_iload_n hx hb dX11_person_1 rfl (lv_at hl 1 rfl) ?_
  refine xcV_iR (b := 127) (As := [.int p0]) (rest := []) hC hP hS (k_X11_isPerson l X S p0) (cwV 1 hts gX11_person_X11_isPerson rfl rfl rfl hd_X11_isPerson ⟨Nat.le_of_ble_eq_true rfl, Nat.le_of_ble_eq_true rfl⟩) xo_X11 rfl rfl rfl hl.1 (Nat.le_of_ble_eq_true rfl) dX11_person_2 (fun r_1 hp_r_1 H locs hP hS => ?_)
  obtain ⟨hr_1, hzr_1⟩ := hp_r_1
  refine lv_if_ne (tgt := 11) hx hb dX11_person_5 (by decide) (fun c_2 => ?_) (fun c_2 => ?_)
  · refine lv_iload_n hx hb dX11_person_11 rfl (lv_at hl 2 rfl) ?_
    by_cases c_3 : p1 = 0
    · refine lv_tableIn (off := 36) (tgt := 48) hx hb dX11_person_12 (by rw [c_3]; decide) (by rw [c_3]; decide) (by rw [c_3]; rfl) (by decide) ?_
      refine lv_aload_n hx hb dX11_person_48 rfl (lv_at hl 0 rfl) ?_
      refine xget (ref := "AbsentPraiseModel") (T := TX11) (v := .ref (X.2.1 130)) hC hP hin_X11 xo_X11 rfl 7 (by decide) (List.mem_of_getElem? (i := 2) rfl) rfl rfl dX11_person_49 ?_
      refine lv_iload_n hx hb dX11_person_52 rfl (lv_at hl 1 rfl) ?_
      have hn_4 : vp_in p0 7 := (by have hr_1 := hr_1.symm; subst hr_1; exact nl (sp (sn hs c_2) c_3))
      refine xiald hC hP rfl hn_4 dX11_person_53 ?_
      exact xret_iR hC hP hS hb hr ((by have hr_1 := hr_1.symm; subst hr_1; exact (iN c_2 (ip c_3 rfl)))) dX11_person_54 hlocks
    · by_cases c_5 : p1 = 1
      · refine lv_tableIn (off := 43) (tgt := 55) hx hb dX11_person_12 (by rw [c_5]; decide) (by rw [c_5]; decide) (by rw [c_5]; rfl) (by decide) ?_
        refine lv_aload_n hx hb dX11_person_55 rfl (lv_at hl 0 rfl) ?_
        refine xget (ref := "AbsentPraiseModel") (T := TX11) (v := .ref (X.2.1 131)) hC hP hin_X11 xo_X11 rfl 8 (by decide) (List.mem_of_getElem? (i := 3) rfl) rfl rfl dX11_person_56 ?_
        refine lv_iconst (v := 2) hx hb dX11_person_59 (by decide) ?_
        refine lv_iload_n hx hb dX11_person_60 rfl (lv_at hl 1 rfl) ?_
        refine lv_iadd hx hb dX11_person_61 ?_
        have hn_6 : vp_in (2 + p0) 72 := (by have hr_1 := hr_1.symm; subst hr_1; exact nl (sp (sn (sn hs c_2) c_3) c_5))
        refine xiald hC hP rfl hn_6 dX11_person_62 ?_
        exact xret_iR hC hP hS hb hr ((by have hr_1 := hr_1.symm; subst hr_1; exact (iN c_2 (iN c_3 (ip c_5 rfl))))) dX11_person_63 hlocks
      · by_cases c_7 : p1 = 2
        · refine lv_tableIn (off := 52) (tgt := 64) hx hb dX11_person_12 (by rw [c_7]; decide) (by rw [c_7]; decide) (by rw [c_7]; rfl) (by decide) ?_
          refine lv_aload_n hx hb dX11_person_64 rfl (lv_at hl 0 rfl) ?_
          refine xget (ref := "AbsentPraiseModel") (T := TX11) (v := .ref (X.2.1 131)) hC hP hin_X11 xo_X11 rfl 8 (by decide) (List.mem_of_getElem? (i := 3) rfl) rfl rfl dX11_person_65 ?_
          refine lv_bipush (v := 9) hx hb dX11_person_68 (by decide) ?_
          refine lv_iload_n hx hb dX11_person_70 rfl (lv_at hl 1 rfl) ?_
          refine lv_iadd hx hb dX11_person_71 ?_
          have hn_8 : vp_in (9 + p0) 72 := (by have hr_1 := hr_1.symm; subst hr_1; exact nl (sp (sn (sn (sn hs c_2) c_3) c_5) c_7))
          refine xiald hC hP rfl hn_8 dX11_person_72 ?_
          refine lv_sipush (v := 10000) hx hb dX11_person_73 (by decide) ?_
          refine lv_iadd hx hb dX11_person_76 ?_
          exact xret_iR hC hP hS hb hr ((by have hr_1 := hr_1.symm; subst hr_1; exact (iN c_2 (iN c_3 (iN c_5 (ip c_7 rfl)))))) dX11_person_77 hlocks
        · by_cases c_9 : p1 = 3
          · refine lv_tableIn (off := 66) (tgt := 78) hx hb dX11_person_12 (by rw [c_9]; decide) (by rw [c_9]; decide) (by rw [c_9]; rfl) (by decide) ?_
            refine lv_aload_n hx hb dX11_person_78 rfl (lv_at hl 0 rfl) ?_
            refine xget (ref := "AbsentPraiseModel") (T := TX11) (v := .ref (X.2.1 131)) hC hP hin_X11 xo_X11 rfl 8 (by decide) (List.mem_of_getElem? (i := 3) rfl) rfl rfl dX11_person_79 ?_
            refine lv_bipush (v := 16) hx hb dX11_person_82 (by decide) ?_
            refine lv_iload_n hx hb dX11_person_84 rfl (lv_at hl 1 rfl) ?_
            refine lv_iadd hx hb dX11_person_85 ?_
            have hn_10 : vp_in (16 + p0) 72 := (by have hr_1 := hr_1.symm; subst hr_1; exact nl (sp (sn (sn (sn (sn hs c_2) c_3) c_5) c_7) c_9))
            refine xiald hC hP rfl hn_10 dX11_person_86 ?_
            exact xret_iR hC hP hS hb hr ((by have hr_1 := hr_1.symm; subst hr_1; exact (iN c_2 (iN c_3 (iN c_5 (iN c_7 (ip c_9 rfl))))))) dX11_person_87 hlocks
          · by_cases c_11 : p1 = 4
            · refine lv_tableIn (off := 76) (tgt := 88) hx hb dX11_person_12 (by rw [c_11]; decide) (by rw [c_11]; decide) (by rw [c_11]; rfl) (by decide) ?_
              refine lv_aload_n hx hb dX11_person_88 rfl (lv_at hl 0 rfl) ?_
              refine xget (ref := "AbsentPraiseModel") (T := TX11) (v := .ref (X.2.1 131)) hC hP hin_X11 xo_X11 rfl 8 (by decide) (List.mem_of_getElem? (i := 3) rfl) rfl rfl dX11_person_89 ?_
              refine lv_iconst (v := 1) hx hb dX11_person_92 (by decide) ?_
              refine xiald hC hP rfl (vp_lit (by decide)) dX11_person_93 ?_
              refine lv_iload_n hx hb dX11_person_94 rfl (lv_at hl 1 rfl) ?_
              refine lv_ishr hx hb dX11_person_95 ?_
              refine lv_iconst (v := 1) hx hb dX11_person_96 (by decide) ?_
              refine lv_iand hx hb dX11_person_97 ?_
              exact xret_iR hC hP hS hb hr ((by have hr_1 := hr_1.symm; subst hr_1; exact (iN c_2 (iN c_3 (iN c_5 (iN c_7 (iN c_9 (ip c_11 rfl)))))))) dX11_person_98 hlocks
            · refine lv_tableOut (tgt := 99) hx hb dX11_person_12 (sw_out5 c_3 c_5 c_7 c_9 c_11) (by decide) ?_
              refine lv_ldc (v := (-1000000002)) hx hb hown (hts (.constant RX11 91 (-1000000002)) (List.mem_of_getElem? (i := 4) rfl)) dX11_person_99 ?_
              exact xret_iR hC hP hS hb hr ((by have hr_1 := hr_1.symm; subst hr_1; exact (iN c_2 (iN c_3 (iN c_5 (iN c_7 (iN c_9 (iN c_11 rfl)))))))) dX11_person_101 hlocks
  · refine lv_ldc (v := (-1000000001)) hx hb hown (hts (.constant RX11 230 (-1000000001)) (List.mem_of_getElem? (i := 1) rfl)) dX11_person_8 ?_
    exact xret_iR hC hP hS hb hr ((by have hr_1 := hr_1.symm; subst hr_1; exact (ip c_2 rfl))) dX11_person_10 hlocks
