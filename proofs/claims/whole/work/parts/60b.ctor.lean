set_option linter.all false
def cw_X7 (X : xX) (h : Nat) (u : xU) : va_W := [(h, .inr (7, [.ref (u [0, 0]), .ref (u [0, 1]), .ref (u [0, 2]), .ref (u [0, 3]), .int 0, .int 0]))] ++ [((u [0, 0]), .inl (X.2.2.1, 7, .inl (fun _ => 0)))] ++ [((u [0, 1]), .inl (X.2.2.1, 7, .inl (fun _ => 0)))] ++ [((u [0, 2]), .inl (X.2.2.1, 7, .inl (fun _ => 0)))] ++ [((u [0, 3]), .inl (X.2.2.1, 49, .inl (fun _ => 0)))]
theorem hs_X7_init : yX7_init.cls ≠ "java/lang/invoke/MethodHandle" ∧ yX7_init.cls ≠ "java/lang/invoke/VarHandle" ∧ (parseMethodDescriptor yX7_init.desc).map (fun d => d.parameters.length) = some 0 := by decide +kernel
set_option maxHeartbeats 8000000 in
set_option maxRecDepth 100000 in
theorem k_X7_init (l : Launch) (X : xX) (h : Nat) (sz : Nat) : Met l yX7_init wsX7_init ({ frames := 1, cells := 4, slots := 70, locals := 12 } : Room) (va_Pc [.ref h] (fun U => U.heap.size = sz ∧ xB X [(h, .inr (7, [.null, .null, .null, .null, .int 0, .int 0]))] U)) (xMade X sz h (.inr (7, [.null, .null, .null, .null, .int 0, .int 0])) (cw_X7 X h)) 4 70 (va_A [(h, .inr (7, [.null, .null, .null, .null, .int 0, .int 0]))] sz) := by
  refine Met.ofW (cc := cX7_init) (maxL := 1) (ret := none) (by decide) rfl ?_
  intro p e s m args below meth c s₁ B hml hv
  obtain ⟨rfl, hsz, hP, hK, hNC⟩ := hv
  have hx := B.exec
  have hb := B.bytes
  have hr := B.returns
  have hts := atoms_spec (ws := wsX7_init) B.pre
  have hown : s.vm.findClass RX7 = some m.cls := findClass_of_methodNamed B.named
  have hlocks := B.notSynchronized
  have hin : meth.name = "<init>" := (name_of_methodNamed B.named B.method).1
  subst hsz
  have hD0 : va_D (fun _ => True) [(h, (.inr (7, [.null, .null, .null, .null, .int 0, .int 0]) : va_E))] := vaD1
  have hD := hD0.self (sz := s.heap.size)
  generalize hAe : va_A [(h, (.inr (7, [.null, .null, .null, .null, .int 0, .int 0]) : va_E))] s.heap.size = A at hD
  have hA : ∀ q : Nat, s.heap.size ≤ q → A q := fun q h => by rw [← hAe]; exact Or.inr h
  have hS : va_S A s.heap s.heap [] := va_S.rf
  have hin_X7 : ∀ w ∈ u_ws RX7 TX7 6, w ∈ wsX7_init := by decide +kernel
  have hl := lv_entry ([.ref h]) (n := 1) (Nat.le_of_ble_eq_true rfl)
  rw [lg_entry_eq]
  generalize (lg_sl ([.ref h]) ++ List.replicate (1 - (lg_sl ([.ref h])).length) Slot.unset).toArray = ls at hl ⊢
  have hl : lv_has ls 1 [(0, .ref h)] := hl
  refine lv_aload_n hx hb dX7_init_0 rfl (lv_at hl 0 rfl) ?_
  refine W.objInit hx hb hown (hts (.methodLink RX7 3 objectInit) (List.mem_of_getElem? (i := 1) rfl)) (hts (.instanceMethod objectInit) (List.mem_of_getElem? (i := 2) rfl)) (hts (.code objectInit ⟨#[0xb1]⟩ 1 none) (List.mem_of_getElem? (i := 3) rfl)) rfl (by rw [hml]; exact hl.1) rfl dX7_init_1 (Nat.le_of_ble_eq_true rfl) (Nat.le_of_ble_eq_true rfl) ?_
  refine W.eq (g2 := F0 m 4 ls []) rfl ?_
  refine lv_aload_n hx hb dX7_init_4 rfl (lv_at hl 0 rfl) ?_
  refine lv_bipush (v := 7) hx hb dX7_init_5 (by decide) ?_
  refine xmkI hx hb (hts (.arrayClass .int) (List.mem_of_getElem? (i := 4) rfl)) hK hP hD hS hA 7 (by decide) (by decide) (by decide) (Nat.le_of_ble_eq_true rfl) (Nat.le_of_ble_eq_true rfl) dX7_init_7 (fun q1 H hP hD hS => ?_)
  refine va_putF (D := X.1) (ci := 7) (v := .ref q1) (ty := tyX7 0) (ref := "AbsentPraise$Talk") (C := RX7) (T := TX7) (N := 6) hx hb hts hin_X7 tyX7 tyX7_ok nmX7 hown hK hP hD hS 0 rfl rfl 0 (by decide) (hts _ (List.mem_of_getElem? (i := 5) rfl)) (fun _ h => h) rfl hin rfl rfl rfl rfl (Nat.le_of_ble_eq_true rfl) dX7_init_9 (fun H locs hP hD hS => ?_)
  have hP : va_P X.1 vwCl ([(h, .inr (7, [.ref q1, .null, .null, .null, .int 0, .int 0]))] ++ [(q1, .inl (X.2.2.1, 7, .inl (fun _ => 0)))]) H := hP
  have hD : va_D A ([(h, .inr (7, [.ref q1, .null, .null, .null, .int 0, .int 0]))] ++ [(q1, .inl (X.2.2.1, 7, .inl (fun _ => 0)))]) := hD
  refine lv_aload_n hx hb dX7_init_12 rfl (lv_at hl 0 rfl) ?_
  refine lv_bipush (v := 7) hx hb dX7_init_13 (by decide) ?_
  refine xmkI hx hb (hts (.arrayClass .int) (List.mem_of_getElem? (i := 4) rfl)) hK hP hD hS hA 7 (by decide) (by decide) (by decide) (Nat.le_of_ble_eq_true rfl) (Nat.le_of_ble_eq_true rfl) dX7_init_15 (fun q2 H hP hD hS => ?_)
  refine va_putF (D := X.1) (ci := 7) (v := .ref q2) (ty := tyX7 1) (ref := "AbsentPraise$Talk") (C := RX7) (T := TX7) (N := 6) hx hb hts hin_X7 tyX7 tyX7_ok nmX7 hown hK hP hD hS 0 rfl rfl 1 (by decide) (hts _ (List.mem_of_getElem? (i := 6) rfl)) (fun _ h => h) rfl hin rfl rfl rfl rfl (Nat.le_of_ble_eq_true rfl) dX7_init_17 (fun H locs hP hD hS => ?_)
  have hP : va_P X.1 vwCl ([(h, .inr (7, [.ref q1, .ref q2, .null, .null, .int 0, .int 0]))] ++ [(q1, .inl (X.2.2.1, 7, .inl (fun _ => 0)))] ++ [(q2, .inl (X.2.2.1, 7, .inl (fun _ => 0)))]) H := hP
  have hD : va_D A ([(h, .inr (7, [.ref q1, .ref q2, .null, .null, .int 0, .int 0]))] ++ [(q1, .inl (X.2.2.1, 7, .inl (fun _ => 0)))] ++ [(q2, .inl (X.2.2.1, 7, .inl (fun _ => 0)))]) := hD
  refine lv_aload_n hx hb dX7_init_20 rfl (lv_at hl 0 rfl) ?_
  refine lv_bipush (v := 7) hx hb dX7_init_21 (by decide) ?_
  refine xmkI hx hb (hts (.arrayClass .int) (List.mem_of_getElem? (i := 4) rfl)) hK hP hD hS hA 7 (by decide) (by decide) (by decide) (Nat.le_of_ble_eq_true rfl) (Nat.le_of_ble_eq_true rfl) dX7_init_23 (fun q3 H hP hD hS => ?_)
  refine va_putF (D := X.1) (ci := 7) (v := .ref q3) (ty := tyX7 2) (ref := "AbsentPraise$Talk") (C := RX7) (T := TX7) (N := 6) hx hb hts hin_X7 tyX7 tyX7_ok nmX7 hown hK hP hD hS 0 rfl rfl 2 (by decide) (hts _ (List.mem_of_getElem? (i := 7) rfl)) (fun _ h => h) rfl hin rfl rfl rfl rfl (Nat.le_of_ble_eq_true rfl) dX7_init_25 (fun H locs hP hD hS => ?_)
  have hP : va_P X.1 vwCl ([(h, .inr (7, [.ref q1, .ref q2, .ref q3, .null, .int 0, .int 0]))] ++ [(q1, .inl (X.2.2.1, 7, .inl (fun _ => 0)))] ++ [(q2, .inl (X.2.2.1, 7, .inl (fun _ => 0)))] ++ [(q3, .inl (X.2.2.1, 7, .inl (fun _ => 0)))]) H := hP
  have hD : va_D A ([(h, .inr (7, [.ref q1, .ref q2, .ref q3, .null, .int 0, .int 0]))] ++ [(q1, .inl (X.2.2.1, 7, .inl (fun _ => 0)))] ++ [(q2, .inl (X.2.2.1, 7, .inl (fun _ => 0)))] ++ [(q3, .inl (X.2.2.1, 7, .inl (fun _ => 0)))]) := hD
  refine lv_aload_n hx hb dX7_init_28 rfl (lv_at hl 0 rfl) ?_
  refine lv_bipush (v := 49) hx hb dX7_init_29 (by decide) ?_
  refine xmkI hx hb (hts (.arrayClass .int) (List.mem_of_getElem? (i := 4) rfl)) hK hP hD hS hA 49 (by decide) (by decide) (by decide) (Nat.le_of_ble_eq_true rfl) (Nat.le_of_ble_eq_true rfl) dX7_init_31 (fun q4 H hP hD hS => ?_)
  refine va_putF (D := X.1) (ci := 7) (v := .ref q4) (ty := tyX7 3) (ref := "AbsentPraise$Talk") (C := RX7) (T := TX7) (N := 6) hx hb hts hin_X7 tyX7 tyX7_ok nmX7 hown hK hP hD hS 0 rfl rfl 3 (by decide) (hts _ (List.mem_of_getElem? (i := 8) rfl)) (fun _ h => h) rfl hin rfl rfl rfl rfl (Nat.le_of_ble_eq_true rfl) dX7_init_33 (fun H locs hP hD hS => ?_)
  have hP : va_P X.1 vwCl ([(h, .inr (7, [.ref q1, .ref q2, .ref q3, .ref q4, .int 0, .int 0]))] ++ [(q1, .inl (X.2.2.1, 7, .inl (fun _ => 0)))] ++ [(q2, .inl (X.2.2.1, 7, .inl (fun _ => 0)))] ++ [(q3, .inl (X.2.2.1, 7, .inl (fun _ => 0)))] ++ [(q4, .inl (X.2.2.1, 49, .inl (fun _ => 0)))]) H := hP
  have hD : va_D A ([(h, .inr (7, [.ref q1, .ref q2, .ref q3, .ref q4, .int 0, .int 0]))] ++ [(q1, .inl (X.2.2.1, 7, .inl (fun _ => 0)))] ++ [(q2, .inl (X.2.2.1, 7, .inl (fun _ => 0)))] ++ [(q3, .inl (X.2.2.1, 7, .inl (fun _ => 0)))] ++ [(q4, .inl (X.2.2.1, 49, .inl (fun _ => 0)))]) := hD
  subst hAe
  exact xcend (mkU [q1, q2, q3, q4] []) hx hb hr hP hD hS rfl (Nat.le_of_ble_eq_true rfl) (Nat.le_of_ble_eq_true rfl) dX7_init_36 hlocks
def cw_X2 (X : xX) (h : Nat) (u : xU) : va_W := [(h, .inr (2, [.ref (u [0, 0]), .ref (u [0, 1]), .ref (u [0, 2]), .ref (u [0, 3]), .ref (u [0, 4]), .int 0, .int 0, .int 0, .int 0, .int 0]))] ++ [((u [0, 0]), .inl (X.2.2.1, 6, .inl (fun _ => 0)))] ++ [((u [0, 1]), .inl (X.2.2.1, 6, .inl (fun _ => 0)))] ++ [((u [0, 2]), .inl (X.2.2.1, 7, .inl (fun _ => 0)))] ++ [((u [0, 3]), .inl (X.2.2.1, 7, .inl (fun _ => 0)))] ++ [((u [0, 4]), .inl (X.2.2.1, 49, .inl (fun _ => 0)))]
theorem hs_X2_init : yX2_init.cls ≠ "java/lang/invoke/MethodHandle" ∧ yX2_init.cls ≠ "java/lang/invoke/VarHandle" ∧ (parseMethodDescriptor yX2_init.desc).map (fun d => d.parameters.length) = some 0 := by decide +kernel
set_option maxHeartbeats 8000000 in
set_option maxRecDepth 100000 in
theorem k_X2_init (l : Launch) (X : xX) (h : Nat) (sz : Nat) : Met l yX2_init wsX2_init ({ frames := 1, cells := 5, slots := 75, locals := 12 } : Room) (va_Pc [.ref h] (fun U => U.heap.size = sz ∧ xB X [(h, .inr (2, [.null, .null, .null, .null, .null, .int 0, .int 0, .int 0, .int 0, .int 0]))] U)) (xMade X sz h (.inr (2, [.null, .null, .null, .null, .null, .int 0, .int 0, .int 0, .int 0, .int 0])) (cw_X2 X h)) 5 75 (va_A [(h, .inr (2, [.null, .null, .null, .null, .null, .int 0, .int 0, .int 0, .int 0, .int 0]))] sz) := by
  refine Met.ofW (cc := cX2_init) (maxL := 1) (ret := none) (by decide) rfl ?_
  intro p e s m args below meth c s₁ B hml hv
  obtain ⟨rfl, hsz, hP, hK, hNC⟩ := hv
  have hx := B.exec
  have hb := B.bytes
  have hr := B.returns
  have hts := atoms_spec (ws := wsX2_init) B.pre
  have hown : s.vm.findClass RX2 = some m.cls := findClass_of_methodNamed B.named
  have hlocks := B.notSynchronized
  have hin : meth.name = "<init>" := (name_of_methodNamed B.named B.method).1
  subst hsz
  have hD0 : va_D (fun _ => True) [(h, (.inr (2, [.null, .null, .null, .null, .null, .int 0, .int 0, .int 0, .int 0, .int 0]) : va_E))] := vaD1
  have hD := hD0.self (sz := s.heap.size)
  generalize hAe : va_A [(h, (.inr (2, [.null, .null, .null, .null, .null, .int 0, .int 0, .int 0, .int 0, .int 0]) : va_E))] s.heap.size = A at hD
  have hA : ∀ q : Nat, s.heap.size ≤ q → A q := fun q h => by rw [← hAe]; exact Or.inr h
  have hS : va_S A s.heap s.heap [] := va_S.rf
  have hin_X2 : ∀ w ∈ u_ws RX2 TX2 10, w ∈ wsX2_init := by decide +kernel
  have hl := lv_entry ([.ref h]) (n := 1) (Nat.le_of_ble_eq_true rfl)
  rw [lg_entry_eq]
  generalize (lg_sl ([.ref h]) ++ List.replicate (1 - (lg_sl ([.ref h])).length) Slot.unset).toArray = ls at hl ⊢
  have hl : lv_has ls 1 [(0, .ref h)] := hl
  refine lv_aload_n hx hb dX2_init_0 rfl (lv_at hl 0 rfl) ?_
  refine W.objInit hx hb hown (hts (.methodLink RX2 3 objectInit) (List.mem_of_getElem? (i := 1) rfl)) (hts (.instanceMethod objectInit) (List.mem_of_getElem? (i := 2) rfl)) (hts (.code objectInit ⟨#[0xb1]⟩ 1 none) (List.mem_of_getElem? (i := 3) rfl)) rfl (by rw [hml]; exact hl.1) rfl dX2_init_1 (Nat.le_of_ble_eq_true rfl) (Nat.le_of_ble_eq_true rfl) ?_
  refine W.eq (g2 := F0 m 4 ls []) rfl ?_
  refine lv_aload_n hx hb dX2_init_4 rfl (lv_at hl 0 rfl) ?_
  refine lv_bipush (v := 6) hx hb dX2_init_5 (by decide) ?_
  refine xmkI hx hb (hts (.arrayClass .int) (List.mem_of_getElem? (i := 4) rfl)) hK hP hD hS hA 6 (by decide) (by decide) (by decide) (Nat.le_of_ble_eq_true rfl) (Nat.le_of_ble_eq_true rfl) dX2_init_7 (fun q1 H hP hD hS => ?_)
  refine va_putF (D := X.1) (ci := 2) (v := .ref q1) (ty := tyX2 0) (ref := "AbsentPraise$Hill") (C := RX2) (T := TX2) (N := 10) hx hb hts hin_X2 tyX2 tyX2_ok nmX2 hown hK hP hD hS 0 rfl rfl 0 (by decide) (hts _ (List.mem_of_getElem? (i := 5) rfl)) (fun _ h => h) rfl hin rfl rfl rfl rfl (Nat.le_of_ble_eq_true rfl) dX2_init_9 (fun H locs hP hD hS => ?_)
  have hP : va_P X.1 vwCl ([(h, .inr (2, [.ref q1, .null, .null, .null, .null, .int 0, .int 0, .int 0, .int 0, .int 0]))] ++ [(q1, .inl (X.2.2.1, 6, .inl (fun _ => 0)))]) H := hP
  have hD : va_D A ([(h, .inr (2, [.ref q1, .null, .null, .null, .null, .int 0, .int 0, .int 0, .int 0, .int 0]))] ++ [(q1, .inl (X.2.2.1, 6, .inl (fun _ => 0)))]) := hD
  refine lv_aload_n hx hb dX2_init_12 rfl (lv_at hl 0 rfl) ?_
  refine lv_bipush (v := 6) hx hb dX2_init_13 (by decide) ?_
  refine xmkI hx hb (hts (.arrayClass .int) (List.mem_of_getElem? (i := 4) rfl)) hK hP hD hS hA 6 (by decide) (by decide) (by decide) (Nat.le_of_ble_eq_true rfl) (Nat.le_of_ble_eq_true rfl) dX2_init_15 (fun q2 H hP hD hS => ?_)
  refine va_putF (D := X.1) (ci := 2) (v := .ref q2) (ty := tyX2 1) (ref := "AbsentPraise$Hill") (C := RX2) (T := TX2) (N := 10) hx hb hts hin_X2 tyX2 tyX2_ok nmX2 hown hK hP hD hS 0 rfl rfl 1 (by decide) (hts _ (List.mem_of_getElem? (i := 6) rfl)) (fun _ h => h) rfl hin rfl rfl rfl rfl (Nat.le_of_ble_eq_true rfl) dX2_init_17 (fun H locs hP hD hS => ?_)
  have hP : va_P X.1 vwCl ([(h, .inr (2, [.ref q1, .ref q2, .null, .null, .null, .int 0, .int 0, .int 0, .int 0, .int 0]))] ++ [(q1, .inl (X.2.2.1, 6, .inl (fun _ => 0)))] ++ [(q2, .inl (X.2.2.1, 6, .inl (fun _ => 0)))]) H := hP
  have hD : va_D A ([(h, .inr (2, [.ref q1, .ref q2, .null, .null, .null, .int 0, .int 0, .int 0, .int 0, .int 0]))] ++ [(q1, .inl (X.2.2.1, 6, .inl (fun _ => 0)))] ++ [(q2, .inl (X.2.2.1, 6, .inl (fun _ => 0)))]) := hD
  refine lv_aload_n hx hb dX2_init_20 rfl (lv_at hl 0 rfl) ?_
  refine lv_bipush (v := 7) hx hb dX2_init_21 (by decide) ?_
  refine xmkI hx hb (hts (.arrayClass .int) (List.mem_of_getElem? (i := 4) rfl)) hK hP hD hS hA 7 (by decide) (by decide) (by decide) (Nat.le_of_ble_eq_true rfl) (Nat.le_of_ble_eq_true rfl) dX2_init_23 (fun q3 H hP hD hS => ?_)
  refine va_putF (D := X.1) (ci := 2) (v := .ref q3) (ty := tyX2 2) (ref := "AbsentPraise$Hill") (C := RX2) (T := TX2) (N := 10) hx hb hts hin_X2 tyX2 tyX2_ok nmX2 hown hK hP hD hS 0 rfl rfl 2 (by decide) (hts _ (List.mem_of_getElem? (i := 7) rfl)) (fun _ h => h) rfl hin rfl rfl rfl rfl (Nat.le_of_ble_eq_true rfl) dX2_init_25 (fun H locs hP hD hS => ?_)
  have hP : va_P X.1 vwCl ([(h, .inr (2, [.ref q1, .ref q2, .ref q3, .null, .null, .int 0, .int 0, .int 0, .int 0, .int 0]))] ++ [(q1, .inl (X.2.2.1, 6, .inl (fun _ => 0)))] ++ [(q2, .inl (X.2.2.1, 6, .inl (fun _ => 0)))] ++ [(q3, .inl (X.2.2.1, 7, .inl (fun _ => 0)))]) H := hP
  have hD : va_D A ([(h, .inr (2, [.ref q1, .ref q2, .ref q3, .null, .null, .int 0, .int 0, .int 0, .int 0, .int 0]))] ++ [(q1, .inl (X.2.2.1, 6, .inl (fun _ => 0)))] ++ [(q2, .inl (X.2.2.1, 6, .inl (fun _ => 0)))] ++ [(q3, .inl (X.2.2.1, 7, .inl (fun _ => 0)))]) := hD
  refine lv_aload_n hx hb dX2_init_28 rfl (lv_at hl 0 rfl) ?_
  refine lv_bipush (v := 7) hx hb dX2_init_29 (by decide) ?_
  refine xmkI hx hb (hts (.arrayClass .int) (List.mem_of_getElem? (i := 4) rfl)) hK hP hD hS hA 7 (by decide) (by decide) (by decide) (Nat.le_of_ble_eq_true rfl) (Nat.le_of_ble_eq_true rfl) dX2_init_31 (fun q4 H hP hD hS => ?_)
  refine va_putF (D := X.1) (ci := 2) (v := .ref q4) (ty := tyX2 3) (ref := "AbsentPraise$Hill") (C := RX2) (T := TX2) (N := 10) hx hb hts hin_X2 tyX2 tyX2_ok nmX2 hown hK hP hD hS 0 rfl rfl 3 (by decide) (hts _ (List.mem_of_getElem? (i := 8) rfl)) (fun _ h => h) rfl hin rfl rfl rfl rfl (Nat.le_of_ble_eq_true rfl) dX2_init_33 (fun H locs hP hD hS => ?_)
  have hP : va_P X.1 vwCl ([(h, .inr (2, [.ref q1, .ref q2, .ref q3, .ref q4, .null, .int 0, .int 0, .int 0, .int 0, .int 0]))] ++ [(q1, .inl (X.2.2.1, 6, .inl (fun _ => 0)))] ++ [(q2, .inl (X.2.2.1, 6, .inl (fun _ => 0)))] ++ [(q3, .inl (X.2.2.1, 7, .inl (fun _ => 0)))] ++ [(q4, .inl (X.2.2.1, 7, .inl (fun _ => 0)))]) H := hP
  have hD : va_D A ([(h, .inr (2, [.ref q1, .ref q2, .ref q3, .ref q4, .null, .int 0, .int 0, .int 0, .int 0, .int 0]))] ++ [(q1, .inl (X.2.2.1, 6, .inl (fun _ => 0)))] ++ [(q2, .inl (X.2.2.1, 6, .inl (fun _ => 0)))] ++ [(q3, .inl (X.2.2.1, 7, .inl (fun _ => 0)))] ++ [(q4, .inl (X.2.2.1, 7, .inl (fun _ => 0)))]) := hD
  refine lv_aload_n hx hb dX2_init_36 rfl (lv_at hl 0 rfl) ?_
  refine lv_bipush (v := 49) hx hb dX2_init_37 (by decide) ?_
  refine xmkI hx hb (hts (.arrayClass .int) (List.mem_of_getElem? (i := 4) rfl)) hK hP hD hS hA 49 (by decide) (by decide) (by decide) (Nat.le_of_ble_eq_true rfl) (Nat.le_of_ble_eq_true rfl) dX2_init_39 (fun q5 H hP hD hS => ?_)
  refine va_putF (D := X.1) (ci := 2) (v := .ref q5) (ty := tyX2 4) (ref := "AbsentPraise$Hill") (C := RX2) (T := TX2) (N := 10) hx hb hts hin_X2 tyX2 tyX2_ok nmX2 hown hK hP hD hS 0 rfl rfl 4 (by decide) (hts _ (List.mem_of_getElem? (i := 9) rfl)) (fun _ h => h) rfl hin rfl rfl rfl rfl (Nat.le_of_ble_eq_true rfl) dX2_init_41 (fun H locs hP hD hS => ?_)
  have hP : va_P X.1 vwCl ([(h, .inr (2, [.ref q1, .ref q2, .ref q3, .ref q4, .ref q5, .int 0, .int 0, .int 0, .int 0, .int 0]))] ++ [(q1, .inl (X.2.2.1, 6, .inl (fun _ => 0)))] ++ [(q2, .inl (X.2.2.1, 6, .inl (fun _ => 0)))] ++ [(q3, .inl (X.2.2.1, 7, .inl (fun _ => 0)))] ++ [(q4, .inl (X.2.2.1, 7, .inl (fun _ => 0)))] ++ [(q5, .inl (X.2.2.1, 49, .inl (fun _ => 0)))]) H := hP
  have hD : va_D A ([(h, .inr (2, [.ref q1, .ref q2, .ref q3, .ref q4, .ref q5, .int 0, .int 0, .int 0, .int 0, .int 0]))] ++ [(q1, .inl (X.2.2.1, 6, .inl (fun _ => 0)))] ++ [(q2, .inl (X.2.2.1, 6, .inl (fun _ => 0)))] ++ [(q3, .inl (X.2.2.1, 7, .inl (fun _ => 0)))] ++ [(q4, .inl (X.2.2.1, 7, .inl (fun _ => 0)))] ++ [(q5, .inl (X.2.2.1, 49, .inl (fun _ => 0)))]) := hD
  subst hAe
  exact xcend (mkU [q1, q2, q3, q4, q5] []) hx hb hr hP hD hS rfl (Nat.le_of_ble_eq_true rfl) (Nat.le_of_ble_eq_true rfl) dX2_init_44 hlocks
def cw_X8 (X : xX) (h : Nat) (u : xU) : va_W := [(h, .inr (8, [.ref (u [0, 0]), .ref (u [0, 1]), .int 0, .int 0, .int (-1), .int 0, .int 0, .int 0]))] ++ [((u [0, 0]), .inl (X.2.2.1, 240, .inl (fun _ => 0)))] ++ cw_X2 X (u [0, 1]) (fun p => u (1 :: p))
theorem hs_X8_init : yX8_init.cls ≠ "java/lang/invoke/MethodHandle" ∧ yX8_init.cls ≠ "java/lang/invoke/VarHandle" ∧ (parseMethodDescriptor yX8_init.desc).map (fun d => d.parameters.length) = some 0 := by decide +kernel
set_option maxHeartbeats 8000000 in
set_option maxRecDepth 100000 in
theorem k_X8_init (l : Launch) (X : xX) (h : Nat) (sz : Nat) : Met l yX8_init wsX8_init ({ frames := 2, cells := 7, slots := 325, locals := 32 } : Room) (va_Pc [.ref h] (fun U => U.heap.size = sz ∧ xB X [(h, .inr (8, [.null, .null, .int 0, .int 0, .int 0, .int 0, .int 0, .int 0]))] U)) (xMade X sz h (.inr (8, [.null, .null, .int 0, .int 0, .int 0, .int 0, .int 0, .int 0])) (cw_X8 X h)) 7 325 (va_A [(h, .inr (8, [.null, .null, .int 0, .int 0, .int 0, .int 0, .int 0, .int 0]))] sz) := by
  refine Met.ofW (cc := cX8_init) (maxL := 1) (ret := none) (by decide) rfl ?_
  intro p e s m args below meth c s₁ B hml hv
  obtain ⟨rfl, hsz, hP, hK, hNC⟩ := hv
  have hx := B.exec
  have hb := B.bytes
  have hr := B.returns
  have hts := atoms_spec (ws := wsX8_init) B.pre
  have hown : s.vm.findClass RX8 = some m.cls := findClass_of_methodNamed B.named
  have hlocks := B.notSynchronized
  have hin : meth.name = "<init>" := (name_of_methodNamed B.named B.method).1
  subst hsz
  have hD0 : va_D (fun _ => True) [(h, (.inr (8, [.null, .null, .int 0, .int 0, .int 0, .int 0, .int 0, .int 0]) : va_E))] := vaD1
  have hD := hD0.self (sz := s.heap.size)
  generalize hAe : va_A [(h, (.inr (8, [.null, .null, .int 0, .int 0, .int 0, .int 0, .int 0, .int 0]) : va_E))] s.heap.size = A at hD
  have hA : ∀ q : Nat, s.heap.size ≤ q → A q := fun q h => by rw [← hAe]; exact Or.inr h
  have hS : va_S A s.heap s.heap [] := va_S.rf
  have hin_X2 : ∀ w ∈ u_ws RX2 TX2 10, w ∈ wsX8_init := by decide +kernel
  have hin_X8 : ∀ w ∈ u_ws RX8 TX8 8, w ∈ wsX8_init := by decide +kernel
  have hl := lv_entry ([.ref h]) (n := 1) (Nat.le_of_ble_eq_true rfl)
  rw [lg_entry_eq]
  generalize (lg_sl ([.ref h]) ++ List.replicate (1 - (lg_sl ([.ref h])).length) Slot.unset).toArray = ls at hl ⊢
  have hl : lv_has ls 1 [(0, .ref h)] := hl
  refine lv_aload_n hx hb dX8_init_0 rfl (lv_at hl 0 rfl) ?_
  refine W.objInit hx hb hown (hts (.methodLink RX8 3 objectInit) (List.mem_of_getElem? (i := 1) rfl)) (hts (.instanceMethod objectInit) (List.mem_of_getElem? (i := 2) rfl)) (hts (.code objectInit ⟨#[0xb1]⟩ 1 none) (List.mem_of_getElem? (i := 3) rfl)) rfl (by rw [hml]; exact hl.1) rfl dX8_init_1 (Nat.le_of_ble_eq_true rfl) (Nat.le_of_ble_eq_true rfl) ?_
  refine W.eq (g2 := F0 m 4 ls []) rfl ?_
  refine lv_aload_n hx hb dX8_init_4 rfl (lv_at hl 0 rfl) ?_
  refine lv_sipush (v := 240) hx hb dX8_init_5 (by decide) ?_
  refine xmkI hx hb (hts (.arrayClass .int) (List.mem_of_getElem? (i := 4) rfl)) hK hP hD hS hA 240 (by decide) (by decide) (by decide) (Nat.le_of_ble_eq_true rfl) (Nat.le_of_ble_eq_true rfl) dX8_init_8 (fun q1 H hP hD hS => ?_)
  refine va_putF (D := X.1) (ci := 8) (v := .ref q1) (ty := tyX8 0) (ref := "AbsentPraise$Telling") (C := RX8) (T := TX8) (N := 8) hx hb hts hin_X8 tyX8 tyX8_ok nmX8 hown hK hP hD hS 0 rfl rfl 0 (by decide) (hts _ (List.mem_of_getElem? (i := 5) rfl)) (fun _ h => h) rfl hin rfl rfl rfl rfl (Nat.le_of_ble_eq_true rfl) dX8_init_10 (fun H locs hP hD hS => ?_)
  have hP : va_P X.1 vwCl ([(h, .inr (8, [.ref q1, .null, .int 0, .int 0, .int 0, .int 0, .int 0, .int 0]))] ++ [(q1, .inl (X.2.2.1, 240, .inl (fun _ => 0)))]) H := hP
  have hD : va_D A ([(h, .inr (8, [.ref q1, .null, .int 0, .int 0, .int 0, .int 0, .int 0, .int 0]))] ++ [(q1, .inl (X.2.2.1, 240, .inl (fun _ => 0)))]) := hD
  refine lv_aload_n hx hb dX8_init_13 rfl (lv_at hl 0 rfl) ?_
  refine va_new (ci := 2) (fs := [.null, .null, .null, .null, .null, .int 0, .int 0, .int 0, .int 0, .int 0]) (C := RX2) (T := TX2) (N := 10) hx hb hts hin_X2 tyX2 tyX2_ok hown (hts (.classLink RX8 15 RX2) (List.mem_of_getElem? (i := 6) rfl)) (hts (.instantiable RX2 10) (List.mem_of_getElem? (i := 7) rfl)) (hts (.initialized RX2) (List.mem_of_getElem? (i := 8) rfl)) hK hP hD hS hA rfl (fun j hj => by rcases (show j = 0 ∨ j = 1 ∨ j = 2 ∨ j = 3 ∨ j = 4 ∨ j = 5 ∨ j = 6 ∨ j = 7 ∨ j = 8 ∨ j = 9 by omega) with rfl | rfl | rfl | rfl | rfl | rfl | rfl | rfl | rfl | rfl <;> rfl) (Nat.le_of_ble_eq_true rfl) (Nat.le_of_ble_eq_true rfl) dX8_init_14 (fun q2 H hP hD hS => ?_)
  refine lv_dup hx hb dX8_init_17 rfl ?_
  refine xciN (ws0 := [(h, .inr (8, [.ref q1, .null, .int 0, .int 0, .int 0, .int 0, .int 0, .int 0]))] ++ [(q1, .inl (X.2.2.1, 240, .inl (fun _ => 0)))]) (As := []) (rest := [.ref q2, .ref h]) ⟨hx, hb, hml, hown, hts⟩ hK hNC hP hD hS hA (k_X2_init l X q2 H.size) (va_cnB (host := "AbsentPraise") 0 hts gX8_init_X2_init_n17 rfl rfl rfl (hNC.1 1 _ rfl) (hts (.initialized RX2) (List.mem_of_getElem? (i := 8) rfl)) hs_X2_init ⟨Nat.le_of_ble_eq_true rfl, Nat.le_of_ble_eq_true rfl⟩) rfl (hts (.instanceMethod yX2_init) (List.mem_of_getElem? (i := 11) rfl)) rfl rfl hl.1 (Nat.le_of_ble_eq_true rfl) dX8_init_18 (Nat.le_of_ble_eq_true rfl) (Nat.le_of_ble_eq_true rfl) (fun u1 H locs hP hD hS => ?_)
  refine va_putF (D := X.1) (ci := 8) (v := .ref q2) (ty := tyX8 1) (ref := "AbsentPraise$Telling") (C := RX8) (T := TX8) (N := 8) hx hb hts hin_X8 tyX8 tyX8_ok nmX8 hown hK hP hD hS 0 rfl rfl 1 (by decide) (hts _ (List.mem_of_getElem? (i := 9) rfl)) (fun _ h => h) rfl hin rfl rfl rfl rfl (Nat.le_of_ble_eq_true rfl) dX8_init_21 (fun H locs hP hD hS => ?_)
  have hP : va_P X.1 vwCl ([(h, .inr (8, [.ref q1, .ref q2, .int 0, .int 0, .int 0, .int 0, .int 0, .int 0]))] ++ [(q1, .inl (X.2.2.1, 240, .inl (fun _ => 0)))] ++ cw_X2 X q2 u1) H := hP
  have hD : va_D A ([(h, .inr (8, [.ref q1, .ref q2, .int 0, .int 0, .int 0, .int 0, .int 0, .int 0]))] ++ [(q1, .inl (X.2.2.1, 240, .inl (fun _ => 0)))] ++ cw_X2 X q2 u1) := hD
  refine lv_aload_n hx hb dX8_init_24 rfl (lv_at hl 0 rfl) ?_
  refine lv_iconst (v := (-1)) hx hb dX8_init_25 (by decide) ?_
  refine va_put (D := X.1) (ci := 8) (v := .int (-1)) (ty := tyX8 4) (ref := "AbsentPraise$Telling") (C := RX8) (T := TX8) (N := 8) hx hb hts hin_X8 tyX8 tyX8_ok nmX8 hown hK hP hD hS 0 rfl rfl 4 (by decide) (hts _ (List.mem_of_getElem? (i := 10) rfl)) (fun _ h => h) rfl rfl rfl rfl (Nat.le_of_ble_eq_true rfl) dX8_init_26 (fun H locs hP hD hS => ?_)
  have hP : va_P X.1 vwCl ([(h, .inr (8, [.ref q1, .ref q2, .int 0, .int 0, .int (-1), .int 0, .int 0, .int 0]))] ++ [(q1, .inl (X.2.2.1, 240, .inl (fun _ => 0)))] ++ cw_X2 X q2 u1) H := hP
  have hD : va_D A ([(h, .inr (8, [.ref q1, .ref q2, .int 0, .int 0, .int (-1), .int 0, .int 0, .int 0]))] ++ [(q1, .inl (X.2.2.1, 240, .inl (fun _ => 0)))] ++ cw_X2 X q2 u1) := hD
  subst hAe
  exact xcend (mkU [q1, q2] [u1]) hx hb hr hP hD hS rfl (Nat.le_of_ble_eq_true rfl) (Nat.le_of_ble_eq_true rfl) dX8_init_29 hlocks
def cw_X4 (X : xX) (h : Nat) (k0 : Nat) (k1 : Nat) (u : xU) : va_W := [(h, .inr (4, [.ref k0, .ref k1]))]
theorem hs_X4_init : yX4_init.cls ≠ "java/lang/invoke/MethodHandle" ∧ yX4_init.cls ≠ "java/lang/invoke/VarHandle" ∧ (parseMethodDescriptor yX4_init.desc).map (fun d => d.parameters.length) = some 2 := by decide +kernel
set_option maxHeartbeats 8000000 in
set_option maxRecDepth 100000 in
theorem k_X4_init (l : Launch) (X : xX) (h : Nat) (k0 : Nat) (k1 : Nat) (sz : Nat) : Met l yX4_init wsX4_init ({ frames := 1, cells := 0, slots := 0, locals := 12 } : Room) (va_Pc [.ref h, .ref k0, .ref k1] (fun U => U.heap.size = sz ∧ xB X [(h, .inr (4, [.null, .null]))] U)) (xMade X sz h (.inr (4, [.null, .null])) (cw_X4 X h k0 k1)) 0 0 (va_A [(h, .inr (4, [.null, .null]))] sz) := by
  refine Met.ofW (cc := cX4_init) (maxL := 3) (ret := none) (by decide) rfl ?_
  intro p e s m args below meth c s₁ B hml hv
  obtain ⟨rfl, hsz, hP, hK, hNC⟩ := hv
  have hx := B.exec
  have hb := B.bytes
  have hr := B.returns
  have hts := atoms_spec (ws := wsX4_init) B.pre
  have hown : s.vm.findClass RX4 = some m.cls := findClass_of_methodNamed B.named
  have hlocks := B.notSynchronized
  have hin : meth.name = "<init>" := (name_of_methodNamed B.named B.method).1
  subst hsz
  have hD0 : va_D (fun _ => True) [(h, (.inr (4, [.null, .null]) : va_E))] := vaD1
  have hD := hD0.self (sz := s.heap.size)
  generalize hAe : va_A [(h, (.inr (4, [.null, .null]) : va_E))] s.heap.size = A at hD
  have hA : ∀ q : Nat, s.heap.size ≤ q → A q := fun q h => by rw [← hAe]; exact Or.inr h
  have hS : va_S A s.heap s.heap [] := va_S.rf
  have hin_X4 : ∀ w ∈ u_ws RX4 TX4 2, w ∈ wsX4_init := by decide +kernel
  have hl := lv_entry ([.ref h, .ref k0, .ref k1]) (n := 3) (Nat.le_of_ble_eq_true rfl)
  rw [lg_entry_eq]
  generalize (lg_sl ([.ref h, .ref k0, .ref k1]) ++ List.replicate (3 - (lg_sl ([.ref h, .ref k0, .ref k1])).length) Slot.unset).toArray = ls at hl ⊢
  have hl : lv_has ls 3 [(0, .ref h), (1, .ref k0), (2, .ref k1)] := hl
  refine lv_aload_n hx hb dX4_init_0 rfl (lv_at hl 0 rfl) ?_
  refine W.objInit hx hb hown (hts (.methodLink RX4 3 objectInit) (List.mem_of_getElem? (i := 1) rfl)) (hts (.instanceMethod objectInit) (List.mem_of_getElem? (i := 2) rfl)) (hts (.code objectInit ⟨#[0xb1]⟩ 1 none) (List.mem_of_getElem? (i := 3) rfl)) rfl (by rw [hml]; exact hl.1) rfl dX4_init_1 (Nat.le_of_ble_eq_true rfl) (Nat.le_of_ble_eq_true rfl) ?_
  refine W.eq (g2 := F0 m 4 ls []) rfl ?_
  refine lv_aload_n hx hb dX4_init_4 rfl (lv_at hl 0 rfl) ?_
  refine lv_aload_n hx hb dX4_init_5 rfl (lv_at hl 1 rfl) ?_
  refine va_putF (D := X.1) (ci := 4) (v := .ref k0) (ty := tyX4 0) (ref := "AbsentPraise$Life") (C := RX4) (T := TX4) (N := 2) hx hb hts hin_X4 tyX4 tyX4_ok nmX4 hown hK hP hD hS 0 rfl rfl 0 (by decide) (hts _ (List.mem_of_getElem? (i := 4) rfl)) (fun _ h => h) rfl hin rfl rfl rfl rfl (Nat.le_of_ble_eq_true rfl) dX4_init_6 (fun H locs hP hD hS => ?_)
  have hP : va_P X.1 vwCl ([(h, .inr (4, [.ref k0, .null]))]) H := hP
  have hD : va_D A ([(h, .inr (4, [.ref k0, .null]))]) := hD
  refine lv_aload_n hx hb dX4_init_9 rfl (lv_at hl 0 rfl) ?_
  refine lv_aload_n hx hb dX4_init_10 rfl (lv_at hl 2 rfl) ?_
  refine va_putF (D := X.1) (ci := 4) (v := .ref k1) (ty := tyX4 1) (ref := "AbsentPraise$Life") (C := RX4) (T := TX4) (N := 2) hx hb hts hin_X4 tyX4 tyX4_ok nmX4 hown hK hP hD hS 0 rfl rfl 1 (by decide) (hts _ (List.mem_of_getElem? (i := 5) rfl)) (fun _ h => h) rfl hin rfl rfl rfl rfl (Nat.le_of_ble_eq_true rfl) dX4_init_11 (fun H locs hP hD hS => ?_)
  have hP : va_P X.1 vwCl ([(h, .inr (4, [.ref k0, .ref k1]))]) H := hP
  have hD : va_D A ([(h, .inr (4, [.ref k0, .ref k1]))]) := hD
  subst hAe
  exact xcend (mkU [] []) hx hb hr hP hD hS rfl (Nat.le_of_ble_eq_true rfl) (Nat.le_of_ble_eq_true rfl) dX4_init_14 hlocks
def cw_X9 (X : xX) (h : Nat) (k0 : Nat) (k1 : Nat) (k2 : Nat) (u : xU) : va_W := [(h, .inr (9, [.ref k0, .ref k1, .ref k2, .ref (u [0, 0]), .ref (u [0, 1])]))] ++ [((u [0, 0]), .inl (X.2.2.1, 6, .inl (fun _ => 0)))] ++ [((u [0, 1]), .inl (X.2.2.1, 6, .inl (fun _ => 0)))]
theorem hs_X9_init : yX9_init.cls ≠ "java/lang/invoke/MethodHandle" ∧ yX9_init.cls ≠ "java/lang/invoke/VarHandle" ∧ (parseMethodDescriptor yX9_init.desc).map (fun d => d.parameters.length) = some 3 := by decide +kernel
set_option maxHeartbeats 8000000 in
set_option maxRecDepth 100000 in
theorem k_X9_init (l : Launch) (X : xX) (h : Nat) (k0 : Nat) (k1 : Nat) (k2 : Nat) (sz : Nat) : Met l yX9_init wsX9_init ({ frames := 1, cells := 2, slots := 12, locals := 12 } : Room) (va_Pc [.ref h, .ref k0, .ref k1, .ref k2] (fun U => U.heap.size = sz ∧ xB X [(h, .inr (9, [.null, .null, .null, .null, .null]))] U)) (xMade X sz h (.inr (9, [.null, .null, .null, .null, .null])) (cw_X9 X h k0 k1 k2)) 2 12 (va_A [(h, .inr (9, [.null, .null, .null, .null, .null]))] sz) := by
  refine Met.ofW (cc := cX9_init) (maxL := 4) (ret := none) (by decide) rfl ?_
  intro p e s m args below meth c s₁ B hml hv
  obtain ⟨rfl, hsz, hP, hK, hNC⟩ := hv
  have hx := B.exec
  have hb := B.bytes
  have hr := B.returns
  have hts := atoms_spec (ws := wsX9_init) B.pre
  have hown : s.vm.findClass RX9 = some m.cls := findClass_of_methodNamed B.named
  have hlocks := B.notSynchronized
  have hin : meth.name = "<init>" := (name_of_methodNamed B.named B.method).1
  subst hsz
  have hD0 : va_D (fun _ => True) [(h, (.inr (9, [.null, .null, .null, .null, .null]) : va_E))] := vaD1
  have hD := hD0.self (sz := s.heap.size)
  generalize hAe : va_A [(h, (.inr (9, [.null, .null, .null, .null, .null]) : va_E))] s.heap.size = A at hD
  have hA : ∀ q : Nat, s.heap.size ≤ q → A q := fun q h => by rw [← hAe]; exact Or.inr h
  have hS : va_S A s.heap s.heap [] := va_S.rf
  have hin_X9 : ∀ w ∈ u_ws RX9 TX9 5, w ∈ wsX9_init := by decide +kernel
  have hl := lv_entry ([.ref h, .ref k0, .ref k1, .ref k2]) (n := 4) (Nat.le_of_ble_eq_true rfl)
  rw [lg_entry_eq]
  generalize (lg_sl ([.ref h, .ref k0, .ref k1, .ref k2]) ++ List.replicate (4 - (lg_sl ([.ref h, .ref k0, .ref k1, .ref k2])).length) Slot.unset).toArray = ls at hl ⊢
  have hl : lv_has ls 4 [(0, .ref h), (1, .ref k0), (2, .ref k1), (3, .ref k2)] := hl
  refine lv_aload_n hx hb dX9_init_0 rfl (lv_at hl 0 rfl) ?_
  refine W.objInit hx hb hown (hts (.methodLink RX9 3 objectInit) (List.mem_of_getElem? (i := 1) rfl)) (hts (.instanceMethod objectInit) (List.mem_of_getElem? (i := 2) rfl)) (hts (.code objectInit ⟨#[0xb1]⟩ 1 none) (List.mem_of_getElem? (i := 3) rfl)) rfl (by rw [hml]; exact hl.1) rfl dX9_init_1 (Nat.le_of_ble_eq_true rfl) (Nat.le_of_ble_eq_true rfl) ?_
  refine W.eq (g2 := F0 m 4 ls []) rfl ?_
  refine lv_aload_n hx hb dX9_init_4 rfl (lv_at hl 0 rfl) ?_
  refine lv_bipush (v := 6) hx hb dX9_init_5 (by decide) ?_
  refine xmkI hx hb (hts (.arrayClass .int) (List.mem_of_getElem? (i := 4) rfl)) hK hP hD hS hA 6 (by decide) (by decide) (by decide) (Nat.le_of_ble_eq_true rfl) (Nat.le_of_ble_eq_true rfl) dX9_init_7 (fun q1 H hP hD hS => ?_)
  refine va_putF (D := X.1) (ci := 9) (v := .ref q1) (ty := tyX9 3) (ref := "AbsentPraise$Trials") (C := RX9) (T := TX9) (N := 5) hx hb hts hin_X9 tyX9 tyX9_ok nmX9 hown hK hP hD hS 0 rfl rfl 3 (by decide) (hts _ (List.mem_of_getElem? (i := 5) rfl)) (fun _ h => h) rfl hin rfl rfl rfl rfl (Nat.le_of_ble_eq_true rfl) dX9_init_9 (fun H locs hP hD hS => ?_)
  have hP : va_P X.1 vwCl ([(h, .inr (9, [.null, .null, .null, .ref q1, .null]))] ++ [(q1, .inl (X.2.2.1, 6, .inl (fun _ => 0)))]) H := hP
  have hD : va_D A ([(h, .inr (9, [.null, .null, .null, .ref q1, .null]))] ++ [(q1, .inl (X.2.2.1, 6, .inl (fun _ => 0)))]) := hD
  refine lv_aload_n hx hb dX9_init_12 rfl (lv_at hl 0 rfl) ?_
  refine lv_bipush (v := 6) hx hb dX9_init_13 (by decide) ?_
  refine xmkI hx hb (hts (.arrayClass .int) (List.mem_of_getElem? (i := 4) rfl)) hK hP hD hS hA 6 (by decide) (by decide) (by decide) (Nat.le_of_ble_eq_true rfl) (Nat.le_of_ble_eq_true rfl) dX9_init_15 (fun q2 H hP hD hS => ?_)
  refine va_putF (D := X.1) (ci := 9) (v := .ref q2) (ty := tyX9 4) (ref := "AbsentPraise$Trials") (C := RX9) (T := TX9) (N := 5) hx hb hts hin_X9 tyX9 tyX9_ok nmX9 hown hK hP hD hS 0 rfl rfl 4 (by decide) (hts _ (List.mem_of_getElem? (i := 6) rfl)) (fun _ h => h) rfl hin rfl rfl rfl rfl (Nat.le_of_ble_eq_true rfl) dX9_init_17 (fun H locs hP hD hS => ?_)
  have hP : va_P X.1 vwCl ([(h, .inr (9, [.null, .null, .null, .ref q1, .ref q2]))] ++ [(q1, .inl (X.2.2.1, 6, .inl (fun _ => 0)))] ++ [(q2, .inl (X.2.2.1, 6, .inl (fun _ => 0)))]) H := hP
  have hD : va_D A ([(h, .inr (9, [.null, .null, .null, .ref q1, .ref q2]))] ++ [(q1, .inl (X.2.2.1, 6, .inl (fun _ => 0)))] ++ [(q2, .inl (X.2.2.1, 6, .inl (fun _ => 0)))]) := hD
  refine lv_aload_n hx hb dX9_init_20 rfl (lv_at hl 0 rfl) ?_
  refine lv_aload_n hx hb dX9_init_21 rfl (lv_at hl 1 rfl) ?_
  refine va_putF (D := X.1) (ci := 9) (v := .ref k0) (ty := tyX9 0) (ref := "AbsentPraise$Trials") (C := RX9) (T := TX9) (N := 5) hx hb hts hin_X9 tyX9 tyX9_ok nmX9 hown hK hP hD hS 0 rfl rfl 0 (by decide) (hts _ (List.mem_of_getElem? (i := 7) rfl)) (fun _ h => h) rfl hin rfl rfl rfl rfl (Nat.le_of_ble_eq_true rfl) dX9_init_22 (fun H locs hP hD hS => ?_)
  have hP : va_P X.1 vwCl ([(h, .inr (9, [.ref k0, .null, .null, .ref q1, .ref q2]))] ++ [(q1, .inl (X.2.2.1, 6, .inl (fun _ => 0)))] ++ [(q2, .inl (X.2.2.1, 6, .inl (fun _ => 0)))]) H := hP
  have hD : va_D A ([(h, .inr (9, [.ref k0, .null, .null, .ref q1, .ref q2]))] ++ [(q1, .inl (X.2.2.1, 6, .inl (fun _ => 0)))] ++ [(q2, .inl (X.2.2.1, 6, .inl (fun _ => 0)))]) := hD
  refine lv_aload_n hx hb dX9_init_25 rfl (lv_at hl 0 rfl) ?_
  refine lv_aload_n hx hb dX9_init_26 rfl (lv_at hl 2 rfl) ?_
  refine va_putF (D := X.1) (ci := 9) (v := .ref k1) (ty := tyX9 1) (ref := "AbsentPraise$Trials") (C := RX9) (T := TX9) (N := 5) hx hb hts hin_X9 tyX9 tyX9_ok nmX9 hown hK hP hD hS 0 rfl rfl 1 (by decide) (hts _ (List.mem_of_getElem? (i := 8) rfl)) (fun _ h => h) rfl hin rfl rfl rfl rfl (Nat.le_of_ble_eq_true rfl) dX9_init_27 (fun H locs hP hD hS => ?_)
  have hP : va_P X.1 vwCl ([(h, .inr (9, [.ref k0, .ref k1, .null, .ref q1, .ref q2]))] ++ [(q1, .inl (X.2.2.1, 6, .inl (fun _ => 0)))] ++ [(q2, .inl (X.2.2.1, 6, .inl (fun _ => 0)))]) H := hP
  have hD : va_D A ([(h, .inr (9, [.ref k0, .ref k1, .null, .ref q1, .ref q2]))] ++ [(q1, .inl (X.2.2.1, 6, .inl (fun _ => 0)))] ++ [(q2, .inl (X.2.2.1, 6, .inl (fun _ => 0)))]) := hD
  refine lv_aload_n hx hb dX9_init_30 rfl (lv_at hl 0 rfl) ?_
  refine lv_aload_n hx hb dX9_init_31 rfl (lv_at hl 3 rfl) ?_
  refine va_putF (D := X.1) (ci := 9) (v := .ref k2) (ty := tyX9 2) (ref := "AbsentPraise$Trials") (C := RX9) (T := TX9) (N := 5) hx hb hts hin_X9 tyX9 tyX9_ok nmX9 hown hK hP hD hS 0 rfl rfl 2 (by decide) (hts _ (List.mem_of_getElem? (i := 9) rfl)) (fun _ h => h) rfl hin rfl rfl rfl rfl (Nat.le_of_ble_eq_true rfl) dX9_init_32 (fun H locs hP hD hS => ?_)
  have hP : va_P X.1 vwCl ([(h, .inr (9, [.ref k0, .ref k1, .ref k2, .ref q1, .ref q2]))] ++ [(q1, .inl (X.2.2.1, 6, .inl (fun _ => 0)))] ++ [(q2, .inl (X.2.2.1, 6, .inl (fun _ => 0)))]) H := hP
  have hD : va_D A ([(h, .inr (9, [.ref k0, .ref k1, .ref k2, .ref q1, .ref q2]))] ++ [(q1, .inl (X.2.2.1, 6, .inl (fun _ => 0)))] ++ [(q2, .inl (X.2.2.1, 6, .inl (fun _ => 0)))]) := hD
  subst hAe
  exact xcend (mkU [q1, q2] []) hx hb hr hP hD hS rfl (Nat.le_of_ble_eq_true rfl) (Nat.le_of_ble_eq_true rfl) dX9_init_35 hlocks
def cw_X6 (X : xX) (h : Nat) (u : xU) : va_W := (h, .inr (6, [.ref (u [0, 0]), .int 0, .int 0])) :: ((([] : va_W)) ++ (((u [0, 0]), .inl (X.2.2.2.2.2, 16, .inr (.inr (.inr (.inr (va_up (va_up (va_up (va_up (va_up (va_up (va_up (va_up (va_up (va_up (va_up (va_up (va_up (va_up (va_up (va_up (fun _ => none) 0 (some (u [0, 1]))) 1 (some (u [0, 2]))) 2 (some (u [0, 3]))) 3 (some (u [0, 4]))) 4 (some (u [0, 5]))) 5 (some (u [0, 6]))) 6 (some (u [0, 7]))) 7 (some (u [0, 8]))) 8 (some (u [0, 9]))) 9 (some (u [0, 10]))) 10 (some (u [0, 11]))) 11 (some (u [0, 12]))) 12 (some (u [0, 13]))) 13 (some (u [0, 14]))) 14 (some (u [0, 15]))) 15 (some (u [0, 16])))))))) :: ((((((((((((((((([] : va_W) ++ cw_X7 X (u [0, 1]) (fun p => u (1 :: p))) ++ cw_X7 X (u [0, 2]) (fun p => u (2 :: p))) ++ cw_X7 X (u [0, 3]) (fun p => u (3 :: p))) ++ cw_X7 X (u [0, 4]) (fun p => u (4 :: p))) ++ cw_X7 X (u [0, 5]) (fun p => u (5 :: p))) ++ cw_X7 X (u [0, 6]) (fun p => u (6 :: p))) ++ cw_X7 X (u [0, 7]) (fun p => u (7 :: p))) ++ cw_X7 X (u [0, 8]) (fun p => u (8 :: p))) ++ cw_X7 X (u [0, 9]) (fun p => u (9 :: p))) ++ cw_X7 X (u [0, 10]) (fun p => u (10 :: p))) ++ cw_X7 X (u [0, 11]) (fun p => u (11 :: p))) ++ cw_X7 X (u [0, 12]) (fun p => u (12 :: p))) ++ cw_X7 X (u [0, 13]) (fun p => u (13 :: p))) ++ cw_X7 X (u [0, 14]) (fun p => u (14 :: p))) ++ cw_X7 X (u [0, 15]) (fun p => u (15 :: p))) ++ cw_X7 X (u [0, 16]) (fun p => u (16 :: p)))))
theorem hs_X6_init : yX6_init.cls ≠ "java/lang/invoke/MethodHandle" ∧ yX6_init.cls ≠ "java/lang/invoke/VarHandle" ∧ (parseMethodDescriptor yX6_init.desc).map (fun d => d.parameters.length) = some 0 := by decide +kernel
set_option maxHeartbeats 8000000 in
set_option maxRecDepth 100000 in
theorem k_X6_init (l : Launch) (X : xX) (h : Nat) (sz : Nat) : Met l yX6_init wsX6_init ({ frames := 2, cells := 81, slots := 1232, locals := 32 } : Room) (va_Pc [.ref h] (fun U => U.heap.size = sz ∧ xB X [(h, .inr (6, [.null, .int 0, .int 0]))] U)) (xMade X sz h (.inr (6, [.null, .int 0, .int 0])) (cw_X6 X h)) 81 1232 (va_A [(h, .inr (6, [.null, .int 0, .int 0]))] sz) := by
  refine Met.ofW (cc := cX6_init) (maxL := 2) (ret := none) (by decide) rfl ?_
  intro p e s m args below meth c s₁ B hml hv
  obtain ⟨rfl, hsz, hP, hK, hNC⟩ := hv
  have hx := B.exec
  have hb := B.bytes
  have hr := B.returns
  have hts := atoms_spec (ws := wsX6_init) B.pre
  have hown : s.vm.findClass RX6 = some m.cls := findClass_of_methodNamed B.named
  have hlocks := B.notSynchronized
  have hin : meth.name = "<init>" := (name_of_methodNamed B.named B.method).1
  subst hsz
  have hD0 : va_D (fun _ => True) [(h, (.inr (6, [.null, .int 0, .int 0]) : va_E))] := vaD1
  have hD := hD0.self (sz := s.heap.size)
  generalize hAe : va_A [(h, (.inr (6, [.null, .int 0, .int 0]) : va_E))] s.heap.size = A at hD
  have hA : ∀ q : Nat, s.heap.size ≤ q → A q := fun q h => by rw [← hAe]; exact Or.inr h
  have hS : va_S A s.heap s.heap [] := va_S.rf
  have hin_X6 : ∀ w ∈ u_ws RX6 TX6 3, w ∈ wsX6_init := by decide +kernel
  have hin_X7 : ∀ w ∈ u_ws RX7 TX7 6, w ∈ wsX6_init := by decide +kernel
  have hl := lv_entry ([.ref h]) (n := 2) (Nat.le_of_ble_eq_true rfl)
  rw [lg_entry_eq]
  generalize (lg_sl ([.ref h]) ++ List.replicate (2 - (lg_sl ([.ref h])).length) Slot.unset).toArray = ls at hl ⊢
  have hl : lv_has ls 2 [(0, .ref h)] := hl
  refine lv_aload_n hx hb dX6_init_0 rfl (lv_at hl 0 rfl) ?_
  refine W.objInit hx hb hown (hts (.methodLink RX6 3 objectInit) (List.mem_of_getElem? (i := 1) rfl)) (hts (.instanceMethod objectInit) (List.mem_of_getElem? (i := 2) rfl)) (hts (.code objectInit ⟨#[0xb1]⟩ 1 none) (List.mem_of_getElem? (i := 3) rfl)) rfl (by rw [hml]; exact hl.1) rfl dX6_init_1 (Nat.le_of_ble_eq_true rfl) (Nat.le_of_ble_eq_true rfl) ?_
  refine W.eq (g2 := F0 m 4 ls []) rfl ?_
  refine lv_aload_n hx hb dX6_init_4 rfl (lv_at hl 0 rfl) ?_
  refine lv_bipush (v := 16) hx hb dX6_init_5 (by decide) ?_
  refine xmkT hx hb hown (hts (.classLink RX6 9 "AbsentPraise$Talk") (List.mem_of_getElem? (i := 4) rfl)) hNC.2.1 hK hP hD hS hA 16 (by decide) (by decide) (by decide) (Nat.le_of_ble_eq_true rfl) (Nat.le_of_ble_eq_true rfl) dX6_init_7 (fun q1 H hP hD hS => ?_)
  obtain ⟨t0, ht0⟩ : ∃ z : va_W, z = ([] : va_W) := ⟨_, rfl⟩
  obtain ⟨t1_0, ht1_0⟩ : ∃ z : va_W, z = [] := ⟨_, rfl⟩
  have hP : va_P X.1 vwCl ((h, .inr (6, [.null, .int 0, .int 0])) :: (t0 ++ ((q1, .inl (X.2.2.2.2.2, 16, .inr (.inr (.inr (.inr (fun _ => none)))))) :: t1_0))) H := by rw [ht0, ht1_0]; exact hP
  have hD : va_D A ((h, .inr (6, [.null, .int 0, .int 0])) :: (t0 ++ ((q1, .inl (X.2.2.2.2.2, 16, .inr (.inr (.inr (.inr (fun _ => none)))))) :: t1_0))) := by rw [ht0, ht1_0]; exact hD
  refine va_putF (D := X.1) (ci := 6) (v := .ref q1) (ty := tyX6 0) (ref := "AbsentPraise$Past") (C := RX6) (T := TX6) (N := 3) hx hb hts hin_X6 tyX6 tyX6_ok nmX6 hown hK hP hD hS 0 rfl rfl 0 (by decide) (hts _ (List.mem_of_getElem? (i := 5) rfl)) (fun _ h => h) rfl hin rfl rfl rfl rfl (Nat.le_of_ble_eq_true rfl) dX6_init_10 (fun H locs hP hD hS => ?_)
  have hP : va_P X.1 vwCl ((h, .inr (6, [.ref q1, .int 0, .int 0])) :: (t0 ++ ((q1, .inl (X.2.2.2.2.2, 16, .inr (.inr (.inr (.inr (fun _ => none)))))) :: t1_0))) H := hP
  have hD : va_D A ((h, .inr (6, [.ref q1, .int 0, .int 0])) :: (t0 ++ ((q1, .inl (X.2.2.2.2.2, 16, .inr (.inr (.inr (.inr (fun _ => none)))))) :: t1_0))) := hD
  refine lv_iconst (v := 0) hx hb dX6_init_13 (by decide) ?_
  refine lv_istore_n (lv' := [(1, .int 0), (0, .ref h)]) hx hb dX6_init_14 rfl hl (by decide) rfl (fun ls hl => ?_)
  refine lv_iload_n hx hb dX6_init_15 rfl (lv_at hl 0 rfl) ?_
  refine lv_aload_n hx hb dX6_init_16 rfl (lv_at hl 1 rfl) ?_
  refine va_get (D := X.1) (ci := 6) (v := .ref q1) (ref := "AbsentPraise$Past") (C := RX6) (T := TX6) (N := 3) hx hb hts hin_X6 hown hK hP 0 rfl rfl 0 (by decide) (hts _ (List.mem_of_getElem? (i := 5) rfl)) (fun _ h => h) rfl dX6_init_17 ?_
  refine va_alen hx hb hK hP (1 + t0.length) 3 (ty := .object "AbsentPraise$Talk") at_K rfl (v := 16) rfl dX6_init_20 ?_
  refine lv_icmp_ge (tgt := 43) hx hb dX6_init_21 (by decide) (fun c => absurd c (by decide)) (fun _ => ?_)
  refine lv_aload_n hx hb dX6_init_24 rfl (lv_at hl 1 rfl) ?_
  refine va_get (D := X.1) (ci := 6) (v := .ref q1) (ref := "AbsentPraise$Past") (C := RX6) (T := TX6) (N := 3) hx hb hts hin_X6 hown hK hP 0 rfl rfl 0 (by decide) (hts _ (List.mem_of_getElem? (i := 5) rfl)) (fun _ h => h) rfl dX6_init_25 ?_
  refine lv_iload_n hx hb dX6_init_28 rfl (lv_at hl 0 rfl) ?_
  refine va_new (ci := 7) (fs := [.null, .null, .null, .null, .int 0, .int 0]) (C := RX7) (T := TX7) (N := 6) hx hb hts hin_X7 tyX7 tyX7_ok hown (hts (.classLink RX6 9 RX7) (List.mem_of_getElem? (i := 4) rfl)) (hts (.instantiable RX7 6) (List.mem_of_getElem? (i := 6) rfl)) (hts (.initialized RX7) (List.mem_of_getElem? (i := 7) rfl)) hK hP hD hS hA rfl (fun j hj => by rcases (show j = 0 ∨ j = 1 ∨ j = 2 ∨ j = 3 ∨ j = 4 ∨ j = 5 by omega) with rfl | rfl | rfl | rfl | rfl | rfl <;> rfl) (Nat.le_of_ble_eq_true rfl) (Nat.le_of_ble_eq_true rfl) dX6_init_29 (fun q2 H hP hD hS => ?_)
  refine lv_dup hx hb dX6_init_32 rfl ?_
  refine xciN (ws0 := ((h, .inr (6, [.ref q1, .int 0, .int 0])) :: (t0 ++ ((q1, .inl (X.2.2.2.2.2, 16, .inr (.inr (.inr (.inr (fun _ => none)))))) :: t1_0)))) (As := []) (rest := [.ref q2, .int 0, .ref q1]) ⟨hx, hb, hml, hown, hts⟩ hK hNC hP hD hS hA (k_X7_init l X q2 H.size) (va_cnB (host := "AbsentPraise") 0 hts gX6_init_X7_init_n17 rfl rfl rfl (hNC.1 4 _ rfl) (hts (.initialized RX7) (List.mem_of_getElem? (i := 7) rfl)) hs_X7_init ⟨Nat.le_of_ble_eq_true rfl, Nat.le_of_ble_eq_true rfl⟩) rfl (hts (.instanceMethod yX7_init) (List.mem_of_getElem? (i := 8) rfl)) rfl rfl hl.1 (Nat.le_of_ble_eq_true rfl) dX6_init_33 (Nat.le_of_ble_eq_true rfl) (Nat.le_of_ble_eq_true rfl) (fun u1 H locs hP hD hS => ?_)
  rw [app_K] at hP hD
  refine va_astq hx hb hK hP hD hS (1 + t0.length) 3 (1 + t0.length + 1 + t1_0.length) 7 (r := (RX7, TX7, 6)) at_K rfl at_V rfl (vp_lit (by decide)) dX6_init_36 (fun H locs hP hD hS => ?_)
  rw [set_K] at hP hD
  obtain ⟨t1_1, ht1_1⟩ : ∃ z : va_W, z = t1_0 ++ cw_X7 X q2 u1 := ⟨_, rfl⟩
  have hP : va_P X.1 vwCl ((h, .inr (6, [.ref q1, .int 0, .int 0])) :: (t0 ++ ((q1, .inl (X.2.2.2.2.2, 16, .inr (.inr (.inr (.inr (va_up (fun _ => none) 0 (some q2))))))) :: t1_1))) H := by rw [ht1_1]; exact hP
  have hD : va_D A ((h, .inr (6, [.ref q1, .int 0, .int 0])) :: (t0 ++ ((q1, .inl (X.2.2.2.2.2, 16, .inr (.inr (.inr (.inr (va_up (fun _ => none) 0 (some q2))))))) :: t1_1))) := by rw [ht1_1]; exact hD
  refine lv_iinc (v := 1) (lv' := [(1, .int 1), (0, .ref h)]) hx hb dX6_init_37 hl (k := 0) rfl (by decide) (by decide) rfl (fun ls hl => ?_)
  refine lv_goto (tgt := 15) hx hb dX6_init_40 (by decide) ?_
  refine lv_iload_n hx hb dX6_init_15 rfl (lv_at hl 0 rfl) ?_
  refine lv_aload_n hx hb dX6_init_16 rfl (lv_at hl 1 rfl) ?_
  refine va_get (D := X.1) (ci := 6) (v := .ref q1) (ref := "AbsentPraise$Past") (C := RX6) (T := TX6) (N := 3) hx hb hts hin_X6 hown hK hP 0 rfl rfl 0 (by decide) (hts _ (List.mem_of_getElem? (i := 5) rfl)) (fun _ h => h) rfl dX6_init_17 ?_
  refine va_alen hx hb hK hP (1 + t0.length) 3 (ty := .object "AbsentPraise$Talk") at_K rfl (v := 16) rfl dX6_init_20 ?_
  refine lv_icmp_ge (tgt := 43) hx hb dX6_init_21 (by decide) (fun c => absurd c (by decide)) (fun _ => ?_)
  refine lv_aload_n hx hb dX6_init_24 rfl (lv_at hl 1 rfl) ?_
  refine va_get (D := X.1) (ci := 6) (v := .ref q1) (ref := "AbsentPraise$Past") (C := RX6) (T := TX6) (N := 3) hx hb hts hin_X6 hown hK hP 0 rfl rfl 0 (by decide) (hts _ (List.mem_of_getElem? (i := 5) rfl)) (fun _ h => h) rfl dX6_init_25 ?_
  refine lv_iload_n hx hb dX6_init_28 rfl (lv_at hl 0 rfl) ?_
  refine va_new (ci := 7) (fs := [.null, .null, .null, .null, .int 0, .int 0]) (C := RX7) (T := TX7) (N := 6) hx hb hts hin_X7 tyX7 tyX7_ok hown (hts (.classLink RX6 9 RX7) (List.mem_of_getElem? (i := 4) rfl)) (hts (.instantiable RX7 6) (List.mem_of_getElem? (i := 6) rfl)) (hts (.initialized RX7) (List.mem_of_getElem? (i := 7) rfl)) hK hP hD hS hA rfl (fun j hj => by rcases (show j = 0 ∨ j = 1 ∨ j = 2 ∨ j = 3 ∨ j = 4 ∨ j = 5 by omega) with rfl | rfl | rfl | rfl | rfl | rfl <;> rfl) (Nat.le_of_ble_eq_true rfl) (Nat.le_of_ble_eq_true rfl) dX6_init_29 (fun q3 H hP hD hS => ?_)
  refine lv_dup hx hb dX6_init_32 rfl ?_
  refine xciN (ws0 := ((h, .inr (6, [.ref q1, .int 0, .int 0])) :: (t0 ++ ((q1, .inl (X.2.2.2.2.2, 16, .inr (.inr (.inr (.inr (va_up (fun _ => none) 0 (some q2))))))) :: t1_1)))) (As := []) (rest := [.ref q3, .int 1, .ref q1]) ⟨hx, hb, hml, hown, hts⟩ hK hNC hP hD hS hA (k_X7_init l X q3 H.size) (va_cnB (host := "AbsentPraise") 0 hts gX6_init_X7_init_n17 rfl rfl rfl (hNC.1 4 _ rfl) (hts (.initialized RX7) (List.mem_of_getElem? (i := 7) rfl)) hs_X7_init ⟨Nat.le_of_ble_eq_true rfl, Nat.le_of_ble_eq_true rfl⟩) rfl (hts (.instanceMethod yX7_init) (List.mem_of_getElem? (i := 8) rfl)) rfl rfl hl.1 (Nat.le_of_ble_eq_true rfl) dX6_init_33 (Nat.le_of_ble_eq_true rfl) (Nat.le_of_ble_eq_true rfl) (fun u2 H locs hP hD hS => ?_)
  rw [app_K] at hP hD
  refine va_astq hx hb hK hP hD hS (1 + t0.length) 3 (1 + t0.length + 1 + t1_1.length) 7 (r := (RX7, TX7, 6)) at_K rfl at_V rfl (vp_lit (by decide)) dX6_init_36 (fun H locs hP hD hS => ?_)
  rw [set_K] at hP hD
  obtain ⟨t1_2, ht1_2⟩ : ∃ z : va_W, z = t1_1 ++ cw_X7 X q3 u2 := ⟨_, rfl⟩
  have hP : va_P X.1 vwCl ((h, .inr (6, [.ref q1, .int 0, .int 0])) :: (t0 ++ ((q1, .inl (X.2.2.2.2.2, 16, .inr (.inr (.inr (.inr (va_up (va_up (fun _ => none) 0 (some q2)) 1 (some q3))))))) :: t1_2))) H := by rw [ht1_2]; exact hP
  have hD : va_D A ((h, .inr (6, [.ref q1, .int 0, .int 0])) :: (t0 ++ ((q1, .inl (X.2.2.2.2.2, 16, .inr (.inr (.inr (.inr (va_up (va_up (fun _ => none) 0 (some q2)) 1 (some q3))))))) :: t1_2))) := by rw [ht1_2]; exact hD
  refine lv_iinc (v := 2) (lv' := [(1, .int 2), (0, .ref h)]) hx hb dX6_init_37 hl (k := 0) rfl (by decide) (by decide) rfl (fun ls hl => ?_)
  refine lv_goto (tgt := 15) hx hb dX6_init_40 (by decide) ?_
  refine lv_iload_n hx hb dX6_init_15 rfl (lv_at hl 0 rfl) ?_
  refine lv_aload_n hx hb dX6_init_16 rfl (lv_at hl 1 rfl) ?_
  refine va_get (D := X.1) (ci := 6) (v := .ref q1) (ref := "AbsentPraise$Past") (C := RX6) (T := TX6) (N := 3) hx hb hts hin_X6 hown hK hP 0 rfl rfl 0 (by decide) (hts _ (List.mem_of_getElem? (i := 5) rfl)) (fun _ h => h) rfl dX6_init_17 ?_
  refine va_alen hx hb hK hP (1 + t0.length) 3 (ty := .object "AbsentPraise$Talk") at_K rfl (v := 16) rfl dX6_init_20 ?_
  refine lv_icmp_ge (tgt := 43) hx hb dX6_init_21 (by decide) (fun c => absurd c (by decide)) (fun _ => ?_)
  refine lv_aload_n hx hb dX6_init_24 rfl (lv_at hl 1 rfl) ?_
  refine va_get (D := X.1) (ci := 6) (v := .ref q1) (ref := "AbsentPraise$Past") (C := RX6) (T := TX6) (N := 3) hx hb hts hin_X6 hown hK hP 0 rfl rfl 0 (by decide) (hts _ (List.mem_of_getElem? (i := 5) rfl)) (fun _ h => h) rfl dX6_init_25 ?_
  refine lv_iload_n hx hb dX6_init_28 rfl (lv_at hl 0 rfl) ?_
  refine va_new (ci := 7) (fs := [.null, .null, .null, .null, .int 0, .int 0]) (C := RX7) (T := TX7) (N := 6) hx hb hts hin_X7 tyX7 tyX7_ok hown (hts (.classLink RX6 9 RX7) (List.mem_of_getElem? (i := 4) rfl)) (hts (.instantiable RX7 6) (List.mem_of_getElem? (i := 6) rfl)) (hts (.initialized RX7) (List.mem_of_getElem? (i := 7) rfl)) hK hP hD hS hA rfl (fun j hj => by rcases (show j = 0 ∨ j = 1 ∨ j = 2 ∨ j = 3 ∨ j = 4 ∨ j = 5 by omega) with rfl | rfl | rfl | rfl | rfl | rfl <;> rfl) (Nat.le_of_ble_eq_true rfl) (Nat.le_of_ble_eq_true rfl) dX6_init_29 (fun q4 H hP hD hS => ?_)
  refine lv_dup hx hb dX6_init_32 rfl ?_
  refine xciN (ws0 := ((h, .inr (6, [.ref q1, .int 0, .int 0])) :: (t0 ++ ((q1, .inl (X.2.2.2.2.2, 16, .inr (.inr (.inr (.inr (va_up (va_up (fun _ => none) 0 (some q2)) 1 (some q3))))))) :: t1_2)))) (As := []) (rest := [.ref q4, .int 2, .ref q1]) ⟨hx, hb, hml, hown, hts⟩ hK hNC hP hD hS hA (k_X7_init l X q4 H.size) (va_cnB (host := "AbsentPraise") 0 hts gX6_init_X7_init_n17 rfl rfl rfl (hNC.1 4 _ rfl) (hts (.initialized RX7) (List.mem_of_getElem? (i := 7) rfl)) hs_X7_init ⟨Nat.le_of_ble_eq_true rfl, Nat.le_of_ble_eq_true rfl⟩) rfl (hts (.instanceMethod yX7_init) (List.mem_of_getElem? (i := 8) rfl)) rfl rfl hl.1 (Nat.le_of_ble_eq_true rfl) dX6_init_33 (Nat.le_of_ble_eq_true rfl) (Nat.le_of_ble_eq_true rfl) (fun u3 H locs hP hD hS => ?_)
  rw [app_K] at hP hD
  refine va_astq hx hb hK hP hD hS (1 + t0.length) 3 (1 + t0.length + 1 + t1_2.length) 7 (r := (RX7, TX7, 6)) at_K rfl at_V rfl (vp_lit (by decide)) dX6_init_36 (fun H locs hP hD hS => ?_)
  rw [set_K] at hP hD
  obtain ⟨t1_3, ht1_3⟩ : ∃ z : va_W, z = t1_2 ++ cw_X7 X q4 u3 := ⟨_, rfl⟩
  have hP : va_P X.1 vwCl ((h, .inr (6, [.ref q1, .int 0, .int 0])) :: (t0 ++ ((q1, .inl (X.2.2.2.2.2, 16, .inr (.inr (.inr (.inr (va_up (va_up (va_up (fun _ => none) 0 (some q2)) 1 (some q3)) 2 (some q4))))))) :: t1_3))) H := by rw [ht1_3]; exact hP
  have hD : va_D A ((h, .inr (6, [.ref q1, .int 0, .int 0])) :: (t0 ++ ((q1, .inl (X.2.2.2.2.2, 16, .inr (.inr (.inr (.inr (va_up (va_up (va_up (fun _ => none) 0 (some q2)) 1 (some q3)) 2 (some q4))))))) :: t1_3))) := by rw [ht1_3]; exact hD
  refine lv_iinc (v := 3) (lv' := [(1, .int 3), (0, .ref h)]) hx hb dX6_init_37 hl (k := 0) rfl (by decide) (by decide) rfl (fun ls hl => ?_)
  refine lv_goto (tgt := 15) hx hb dX6_init_40 (by decide) ?_
  refine lv_iload_n hx hb dX6_init_15 rfl (lv_at hl 0 rfl) ?_
  refine lv_aload_n hx hb dX6_init_16 rfl (lv_at hl 1 rfl) ?_
  refine va_get (D := X.1) (ci := 6) (v := .ref q1) (ref := "AbsentPraise$Past") (C := RX6) (T := TX6) (N := 3) hx hb hts hin_X6 hown hK hP 0 rfl rfl 0 (by decide) (hts _ (List.mem_of_getElem? (i := 5) rfl)) (fun _ h => h) rfl dX6_init_17 ?_
  refine va_alen hx hb hK hP (1 + t0.length) 3 (ty := .object "AbsentPraise$Talk") at_K rfl (v := 16) rfl dX6_init_20 ?_
  refine lv_icmp_ge (tgt := 43) hx hb dX6_init_21 (by decide) (fun c => absurd c (by decide)) (fun _ => ?_)
  refine lv_aload_n hx hb dX6_init_24 rfl (lv_at hl 1 rfl) ?_
  refine va_get (D := X.1) (ci := 6) (v := .ref q1) (ref := "AbsentPraise$Past") (C := RX6) (T := TX6) (N := 3) hx hb hts hin_X6 hown hK hP 0 rfl rfl 0 (by decide) (hts _ (List.mem_of_getElem? (i := 5) rfl)) (fun _ h => h) rfl dX6_init_25 ?_
  refine lv_iload_n hx hb dX6_init_28 rfl (lv_at hl 0 rfl) ?_
  refine va_new (ci := 7) (fs := [.null, .null, .null, .null, .int 0, .int 0]) (C := RX7) (T := TX7) (N := 6) hx hb hts hin_X7 tyX7 tyX7_ok hown (hts (.classLink RX6 9 RX7) (List.mem_of_getElem? (i := 4) rfl)) (hts (.instantiable RX7 6) (List.mem_of_getElem? (i := 6) rfl)) (hts (.initialized RX7) (List.mem_of_getElem? (i := 7) rfl)) hK hP hD hS hA rfl (fun j hj => by rcases (show j = 0 ∨ j = 1 ∨ j = 2 ∨ j = 3 ∨ j = 4 ∨ j = 5 by omega) with rfl | rfl | rfl | rfl | rfl | rfl <;> rfl) (Nat.le_of_ble_eq_true rfl) (Nat.le_of_ble_eq_true rfl) dX6_init_29 (fun q5 H hP hD hS => ?_)
  refine lv_dup hx hb dX6_init_32 rfl ?_
  refine xciN (ws0 := ((h, .inr (6, [.ref q1, .int 0, .int 0])) :: (t0 ++ ((q1, .inl (X.2.2.2.2.2, 16, .inr (.inr (.inr (.inr (va_up (va_up (va_up (fun _ => none) 0 (some q2)) 1 (some q3)) 2 (some q4))))))) :: t1_3)))) (As := []) (rest := [.ref q5, .int 3, .ref q1]) ⟨hx, hb, hml, hown, hts⟩ hK hNC hP hD hS hA (k_X7_init l X q5 H.size) (va_cnB (host := "AbsentPraise") 0 hts gX6_init_X7_init_n17 rfl rfl rfl (hNC.1 4 _ rfl) (hts (.initialized RX7) (List.mem_of_getElem? (i := 7) rfl)) hs_X7_init ⟨Nat.le_of_ble_eq_true rfl, Nat.le_of_ble_eq_true rfl⟩) rfl (hts (.instanceMethod yX7_init) (List.mem_of_getElem? (i := 8) rfl)) rfl rfl hl.1 (Nat.le_of_ble_eq_true rfl) dX6_init_33 (Nat.le_of_ble_eq_true rfl) (Nat.le_of_ble_eq_true rfl) (fun u4 H locs hP hD hS => ?_)
  rw [app_K] at hP hD
  refine va_astq hx hb hK hP hD hS (1 + t0.length) 3 (1 + t0.length + 1 + t1_3.length) 7 (r := (RX7, TX7, 6)) at_K rfl at_V rfl (vp_lit (by decide)) dX6_init_36 (fun H locs hP hD hS => ?_)
  rw [set_K] at hP hD
  obtain ⟨t1_4, ht1_4⟩ : ∃ z : va_W, z = t1_3 ++ cw_X7 X q5 u4 := ⟨_, rfl⟩
  have hP : va_P X.1 vwCl ((h, .inr (6, [.ref q1, .int 0, .int 0])) :: (t0 ++ ((q1, .inl (X.2.2.2.2.2, 16, .inr (.inr (.inr (.inr (va_up (va_up (va_up (va_up (fun _ => none) 0 (some q2)) 1 (some q3)) 2 (some q4)) 3 (some q5))))))) :: t1_4))) H := by rw [ht1_4]; exact hP
  have hD : va_D A ((h, .inr (6, [.ref q1, .int 0, .int 0])) :: (t0 ++ ((q1, .inl (X.2.2.2.2.2, 16, .inr (.inr (.inr (.inr (va_up (va_up (va_up (va_up (fun _ => none) 0 (some q2)) 1 (some q3)) 2 (some q4)) 3 (some q5))))))) :: t1_4))) := by rw [ht1_4]; exact hD
  refine lv_iinc (v := 4) (lv' := [(1, .int 4), (0, .ref h)]) hx hb dX6_init_37 hl (k := 0) rfl (by decide) (by decide) rfl (fun ls hl => ?_)
  refine lv_goto (tgt := 15) hx hb dX6_init_40 (by decide) ?_
  refine lv_iload_n hx hb dX6_init_15 rfl (lv_at hl 0 rfl) ?_
  refine lv_aload_n hx hb dX6_init_16 rfl (lv_at hl 1 rfl) ?_
  refine va_get (D := X.1) (ci := 6) (v := .ref q1) (ref := "AbsentPraise$Past") (C := RX6) (T := TX6) (N := 3) hx hb hts hin_X6 hown hK hP 0 rfl rfl 0 (by decide) (hts _ (List.mem_of_getElem? (i := 5) rfl)) (fun _ h => h) rfl dX6_init_17 ?_
  refine va_alen hx hb hK hP (1 + t0.length) 3 (ty := .object "AbsentPraise$Talk") at_K rfl (v := 16) rfl dX6_init_20 ?_
  refine lv_icmp_ge (tgt := 43) hx hb dX6_init_21 (by decide) (fun c => absurd c (by decide)) (fun _ => ?_)
  refine lv_aload_n hx hb dX6_init_24 rfl (lv_at hl 1 rfl) ?_
  refine va_get (D := X.1) (ci := 6) (v := .ref q1) (ref := "AbsentPraise$Past") (C := RX6) (T := TX6) (N := 3) hx hb hts hin_X6 hown hK hP 0 rfl rfl 0 (by decide) (hts _ (List.mem_of_getElem? (i := 5) rfl)) (fun _ h => h) rfl dX6_init_25 ?_
  refine lv_iload_n hx hb dX6_init_28 rfl (lv_at hl 0 rfl) ?_
  refine va_new (ci := 7) (fs := [.null, .null, .null, .null, .int 0, .int 0]) (C := RX7) (T := TX7) (N := 6) hx hb hts hin_X7 tyX7 tyX7_ok hown (hts (.classLink RX6 9 RX7) (List.mem_of_getElem? (i := 4) rfl)) (hts (.instantiable RX7 6) (List.mem_of_getElem? (i := 6) rfl)) (hts (.initialized RX7) (List.mem_of_getElem? (i := 7) rfl)) hK hP hD hS hA rfl (fun j hj => by rcases (show j = 0 ∨ j = 1 ∨ j = 2 ∨ j = 3 ∨ j = 4 ∨ j = 5 by omega) with rfl | rfl | rfl | rfl | rfl | rfl <;> rfl) (Nat.le_of_ble_eq_true rfl) (Nat.le_of_ble_eq_true rfl) dX6_init_29 (fun q6 H hP hD hS => ?_)
  refine lv_dup hx hb dX6_init_32 rfl ?_
  refine xciN (ws0 := ((h, .inr (6, [.ref q1, .int 0, .int 0])) :: (t0 ++ ((q1, .inl (X.2.2.2.2.2, 16, .inr (.inr (.inr (.inr (va_up (va_up (va_up (va_up (fun _ => none) 0 (some q2)) 1 (some q3)) 2 (some q4)) 3 (some q5))))))) :: t1_4)))) (As := []) (rest := [.ref q6, .int 4, .ref q1]) ⟨hx, hb, hml, hown, hts⟩ hK hNC hP hD hS hA (k_X7_init l X q6 H.size) (va_cnB (host := "AbsentPraise") 0 hts gX6_init_X7_init_n17 rfl rfl rfl (hNC.1 4 _ rfl) (hts (.initialized RX7) (List.mem_of_getElem? (i := 7) rfl)) hs_X7_init ⟨Nat.le_of_ble_eq_true rfl, Nat.le_of_ble_eq_true rfl⟩) rfl (hts (.instanceMethod yX7_init) (List.mem_of_getElem? (i := 8) rfl)) rfl rfl hl.1 (Nat.le_of_ble_eq_true rfl) dX6_init_33 (Nat.le_of_ble_eq_true rfl) (Nat.le_of_ble_eq_true rfl) (fun u5 H locs hP hD hS => ?_)
  rw [app_K] at hP hD
  refine va_astq hx hb hK hP hD hS (1 + t0.length) 3 (1 + t0.length + 1 + t1_4.length) 7 (r := (RX7, TX7, 6)) at_K rfl at_V rfl (vp_lit (by decide)) dX6_init_36 (fun H locs hP hD hS => ?_)
  rw [set_K] at hP hD
  obtain ⟨t1_5, ht1_5⟩ : ∃ z : va_W, z = t1_4 ++ cw_X7 X q6 u5 := ⟨_, rfl⟩
  have hP : va_P X.1 vwCl ((h, .inr (6, [.ref q1, .int 0, .int 0])) :: (t0 ++ ((q1, .inl (X.2.2.2.2.2, 16, .inr (.inr (.inr (.inr (va_up (va_up (va_up (va_up (va_up (fun _ => none) 0 (some q2)) 1 (some q3)) 2 (some q4)) 3 (some q5)) 4 (some q6))))))) :: t1_5))) H := by rw [ht1_5]; exact hP
  have hD : va_D A ((h, .inr (6, [.ref q1, .int 0, .int 0])) :: (t0 ++ ((q1, .inl (X.2.2.2.2.2, 16, .inr (.inr (.inr (.inr (va_up (va_up (va_up (va_up (va_up (fun _ => none) 0 (some q2)) 1 (some q3)) 2 (some q4)) 3 (some q5)) 4 (some q6))))))) :: t1_5))) := by rw [ht1_5]; exact hD
  refine lv_iinc (v := 5) (lv' := [(1, .int 5), (0, .ref h)]) hx hb dX6_init_37 hl (k := 0) rfl (by decide) (by decide) rfl (fun ls hl => ?_)
  refine lv_goto (tgt := 15) hx hb dX6_init_40 (by decide) ?_
  refine lv_iload_n hx hb dX6_init_15 rfl (lv_at hl 0 rfl) ?_
  refine lv_aload_n hx hb dX6_init_16 rfl (lv_at hl 1 rfl) ?_
  refine va_get (D := X.1) (ci := 6) (v := .ref q1) (ref := "AbsentPraise$Past") (C := RX6) (T := TX6) (N := 3) hx hb hts hin_X6 hown hK hP 0 rfl rfl 0 (by decide) (hts _ (List.mem_of_getElem? (i := 5) rfl)) (fun _ h => h) rfl dX6_init_17 ?_
  refine va_alen hx hb hK hP (1 + t0.length) 3 (ty := .object "AbsentPraise$Talk") at_K rfl (v := 16) rfl dX6_init_20 ?_
  refine lv_icmp_ge (tgt := 43) hx hb dX6_init_21 (by decide) (fun c => absurd c (by decide)) (fun _ => ?_)
  refine lv_aload_n hx hb dX6_init_24 rfl (lv_at hl 1 rfl) ?_
  refine va_get (D := X.1) (ci := 6) (v := .ref q1) (ref := "AbsentPraise$Past") (C := RX6) (T := TX6) (N := 3) hx hb hts hin_X6 hown hK hP 0 rfl rfl 0 (by decide) (hts _ (List.mem_of_getElem? (i := 5) rfl)) (fun _ h => h) rfl dX6_init_25 ?_
  refine lv_iload_n hx hb dX6_init_28 rfl (lv_at hl 0 rfl) ?_
  refine va_new (ci := 7) (fs := [.null, .null, .null, .null, .int 0, .int 0]) (C := RX7) (T := TX7) (N := 6) hx hb hts hin_X7 tyX7 tyX7_ok hown (hts (.classLink RX6 9 RX7) (List.mem_of_getElem? (i := 4) rfl)) (hts (.instantiable RX7 6) (List.mem_of_getElem? (i := 6) rfl)) (hts (.initialized RX7) (List.mem_of_getElem? (i := 7) rfl)) hK hP hD hS hA rfl (fun j hj => by rcases (show j = 0 ∨ j = 1 ∨ j = 2 ∨ j = 3 ∨ j = 4 ∨ j = 5 by omega) with rfl | rfl | rfl | rfl | rfl | rfl <;> rfl) (Nat.le_of_ble_eq_true rfl) (Nat.le_of_ble_eq_true rfl) dX6_init_29 (fun q7 H hP hD hS => ?_)
  refine lv_dup hx hb dX6_init_32 rfl ?_
  refine xciN (ws0 := ((h, .inr (6, [.ref q1, .int 0, .int 0])) :: (t0 ++ ((q1, .inl (X.2.2.2.2.2, 16, .inr (.inr (.inr (.inr (va_up (va_up (va_up (va_up (va_up (fun _ => none) 0 (some q2)) 1 (some q3)) 2 (some q4)) 3 (some q5)) 4 (some q6))))))) :: t1_5)))) (As := []) (rest := [.ref q7, .int 5, .ref q1]) ⟨hx, hb, hml, hown, hts⟩ hK hNC hP hD hS hA (k_X7_init l X q7 H.size) (va_cnB (host := "AbsentPraise") 0 hts gX6_init_X7_init_n17 rfl rfl rfl (hNC.1 4 _ rfl) (hts (.initialized RX7) (List.mem_of_getElem? (i := 7) rfl)) hs_X7_init ⟨Nat.le_of_ble_eq_true rfl, Nat.le_of_ble_eq_true rfl⟩) rfl (hts (.instanceMethod yX7_init) (List.mem_of_getElem? (i := 8) rfl)) rfl rfl hl.1 (Nat.le_of_ble_eq_true rfl) dX6_init_33 (Nat.le_of_ble_eq_true rfl) (Nat.le_of_ble_eq_true rfl) (fun u6 H locs hP hD hS => ?_)
  rw [app_K] at hP hD
  refine va_astq hx hb hK hP hD hS (1 + t0.length) 3 (1 + t0.length + 1 + t1_5.length) 7 (r := (RX7, TX7, 6)) at_K rfl at_V rfl (vp_lit (by decide)) dX6_init_36 (fun H locs hP hD hS => ?_)
  rw [set_K] at hP hD
  obtain ⟨t1_6, ht1_6⟩ : ∃ z : va_W, z = t1_5 ++ cw_X7 X q7 u6 := ⟨_, rfl⟩
  have hP : va_P X.1 vwCl ((h, .inr (6, [.ref q1, .int 0, .int 0])) :: (t0 ++ ((q1, .inl (X.2.2.2.2.2, 16, .inr (.inr (.inr (.inr (va_up (va_up (va_up (va_up (va_up (va_up (fun _ => none) 0 (some q2)) 1 (some q3)) 2 (some q4)) 3 (some q5)) 4 (some q6)) 5 (some q7))))))) :: t1_6))) H := by rw [ht1_6]; exact hP
  have hD : va_D A ((h, .inr (6, [.ref q1, .int 0, .int 0])) :: (t0 ++ ((q1, .inl (X.2.2.2.2.2, 16, .inr (.inr (.inr (.inr (va_up (va_up (va_up (va_up (va_up (va_up (fun _ => none) 0 (some q2)) 1 (some q3)) 2 (some q4)) 3 (some q5)) 4 (some q6)) 5 (some q7))))))) :: t1_6))) := by rw [ht1_6]; exact hD
  refine lv_iinc (v := 6) (lv' := [(1, .int 6), (0, .ref h)]) hx hb dX6_init_37 hl (k := 0) rfl (by decide) (by decide) rfl (fun ls hl => ?_)
  refine lv_goto (tgt := 15) hx hb dX6_init_40 (by decide) ?_
  refine lv_iload_n hx hb dX6_init_15 rfl (lv_at hl 0 rfl) ?_
  refine lv_aload_n hx hb dX6_init_16 rfl (lv_at hl 1 rfl) ?_
  refine va_get (D := X.1) (ci := 6) (v := .ref q1) (ref := "AbsentPraise$Past") (C := RX6) (T := TX6) (N := 3) hx hb hts hin_X6 hown hK hP 0 rfl rfl 0 (by decide) (hts _ (List.mem_of_getElem? (i := 5) rfl)) (fun _ h => h) rfl dX6_init_17 ?_
  refine va_alen hx hb hK hP (1 + t0.length) 3 (ty := .object "AbsentPraise$Talk") at_K rfl (v := 16) rfl dX6_init_20 ?_
  refine lv_icmp_ge (tgt := 43) hx hb dX6_init_21 (by decide) (fun c => absurd c (by decide)) (fun _ => ?_)
  refine lv_aload_n hx hb dX6_init_24 rfl (lv_at hl 1 rfl) ?_
  refine va_get (D := X.1) (ci := 6) (v := .ref q1) (ref := "AbsentPraise$Past") (C := RX6) (T := TX6) (N := 3) hx hb hts hin_X6 hown hK hP 0 rfl rfl 0 (by decide) (hts _ (List.mem_of_getElem? (i := 5) rfl)) (fun _ h => h) rfl dX6_init_25 ?_
  refine lv_iload_n hx hb dX6_init_28 rfl (lv_at hl 0 rfl) ?_
  refine va_new (ci := 7) (fs := [.null, .null, .null, .null, .int 0, .int 0]) (C := RX7) (T := TX7) (N := 6) hx hb hts hin_X7 tyX7 tyX7_ok hown (hts (.classLink RX6 9 RX7) (List.mem_of_getElem? (i := 4) rfl)) (hts (.instantiable RX7 6) (List.mem_of_getElem? (i := 6) rfl)) (hts (.initialized RX7) (List.mem_of_getElem? (i := 7) rfl)) hK hP hD hS hA rfl (fun j hj => by rcases (show j = 0 ∨ j = 1 ∨ j = 2 ∨ j = 3 ∨ j = 4 ∨ j = 5 by omega) with rfl | rfl | rfl | rfl | rfl | rfl <;> rfl) (Nat.le_of_ble_eq_true rfl) (Nat.le_of_ble_eq_true rfl) dX6_init_29 (fun q8 H hP hD hS => ?_)
  refine lv_dup hx hb dX6_init_32 rfl ?_
  refine xciN (ws0 := ((h, .inr (6, [.ref q1, .int 0, .int 0])) :: (t0 ++ ((q1, .inl (X.2.2.2.2.2, 16, .inr (.inr (.inr (.inr (va_up (va_up (va_up (va_up (va_up (va_up (fun _ => none) 0 (some q2)) 1 (some q3)) 2 (some q4)) 3 (some q5)) 4 (some q6)) 5 (some q7))))))) :: t1_6)))) (As := []) (rest := [.ref q8, .int 6, .ref q1]) ⟨hx, hb, hml, hown, hts⟩ hK hNC hP hD hS hA (k_X7_init l X q8 H.size) (va_cnB (host := "AbsentPraise") 0 hts gX6_init_X7_init_n17 rfl rfl rfl (hNC.1 4 _ rfl) (hts (.initialized RX7) (List.mem_of_getElem? (i := 7) rfl)) hs_X7_init ⟨Nat.le_of_ble_eq_true rfl, Nat.le_of_ble_eq_true rfl⟩) rfl (hts (.instanceMethod yX7_init) (List.mem_of_getElem? (i := 8) rfl)) rfl rfl hl.1 (Nat.le_of_ble_eq_true rfl) dX6_init_33 (Nat.le_of_ble_eq_true rfl) (Nat.le_of_ble_eq_true rfl) (fun u7 H locs hP hD hS => ?_)
  rw [app_K] at hP hD
  refine va_astq hx hb hK hP hD hS (1 + t0.length) 3 (1 + t0.length + 1 + t1_6.length) 7 (r := (RX7, TX7, 6)) at_K rfl at_V rfl (vp_lit (by decide)) dX6_init_36 (fun H locs hP hD hS => ?_)
  rw [set_K] at hP hD
  obtain ⟨t1_7, ht1_7⟩ : ∃ z : va_W, z = t1_6 ++ cw_X7 X q8 u7 := ⟨_, rfl⟩
  have hP : va_P X.1 vwCl ((h, .inr (6, [.ref q1, .int 0, .int 0])) :: (t0 ++ ((q1, .inl (X.2.2.2.2.2, 16, .inr (.inr (.inr (.inr (va_up (va_up (va_up (va_up (va_up (va_up (va_up (fun _ => none) 0 (some q2)) 1 (some q3)) 2 (some q4)) 3 (some q5)) 4 (some q6)) 5 (some q7)) 6 (some q8))))))) :: t1_7))) H := by rw [ht1_7]; exact hP
  have hD : va_D A ((h, .inr (6, [.ref q1, .int 0, .int 0])) :: (t0 ++ ((q1, .inl (X.2.2.2.2.2, 16, .inr (.inr (.inr (.inr (va_up (va_up (va_up (va_up (va_up (va_up (va_up (fun _ => none) 0 (some q2)) 1 (some q3)) 2 (some q4)) 3 (some q5)) 4 (some q6)) 5 (some q7)) 6 (some q8))))))) :: t1_7))) := by rw [ht1_7]; exact hD
  refine lv_iinc (v := 7) (lv' := [(1, .int 7), (0, .ref h)]) hx hb dX6_init_37 hl (k := 0) rfl (by decide) (by decide) rfl (fun ls hl => ?_)
  refine lv_goto (tgt := 15) hx hb dX6_init_40 (by decide) ?_
  refine lv_iload_n hx hb dX6_init_15 rfl (lv_at hl 0 rfl) ?_
  refine lv_aload_n hx hb dX6_init_16 rfl (lv_at hl 1 rfl) ?_
  refine va_get (D := X.1) (ci := 6) (v := .ref q1) (ref := "AbsentPraise$Past") (C := RX6) (T := TX6) (N := 3) hx hb hts hin_X6 hown hK hP 0 rfl rfl 0 (by decide) (hts _ (List.mem_of_getElem? (i := 5) rfl)) (fun _ h => h) rfl dX6_init_17 ?_
  refine va_alen hx hb hK hP (1 + t0.length) 3 (ty := .object "AbsentPraise$Talk") at_K rfl (v := 16) rfl dX6_init_20 ?_
  refine lv_icmp_ge (tgt := 43) hx hb dX6_init_21 (by decide) (fun c => absurd c (by decide)) (fun _ => ?_)
  refine lv_aload_n hx hb dX6_init_24 rfl (lv_at hl 1 rfl) ?_
  refine va_get (D := X.1) (ci := 6) (v := .ref q1) (ref := "AbsentPraise$Past") (C := RX6) (T := TX6) (N := 3) hx hb hts hin_X6 hown hK hP 0 rfl rfl 0 (by decide) (hts _ (List.mem_of_getElem? (i := 5) rfl)) (fun _ h => h) rfl dX6_init_25 ?_
  refine lv_iload_n hx hb dX6_init_28 rfl (lv_at hl 0 rfl) ?_
  refine va_new (ci := 7) (fs := [.null, .null, .null, .null, .int 0, .int 0]) (C := RX7) (T := TX7) (N := 6) hx hb hts hin_X7 tyX7 tyX7_ok hown (hts (.classLink RX6 9 RX7) (List.mem_of_getElem? (i := 4) rfl)) (hts (.instantiable RX7 6) (List.mem_of_getElem? (i := 6) rfl)) (hts (.initialized RX7) (List.mem_of_getElem? (i := 7) rfl)) hK hP hD hS hA rfl (fun j hj => by rcases (show j = 0 ∨ j = 1 ∨ j = 2 ∨ j = 3 ∨ j = 4 ∨ j = 5 by omega) with rfl | rfl | rfl | rfl | rfl | rfl <;> rfl) (Nat.le_of_ble_eq_true rfl) (Nat.le_of_ble_eq_true rfl) dX6_init_29 (fun q9 H hP hD hS => ?_)
  refine lv_dup hx hb dX6_init_32 rfl ?_
  refine xciN (ws0 := ((h, .inr (6, [.ref q1, .int 0, .int 0])) :: (t0 ++ ((q1, .inl (X.2.2.2.2.2, 16, .inr (.inr (.inr (.inr (va_up (va_up (va_up (va_up (va_up (va_up (va_up (fun _ => none) 0 (some q2)) 1 (some q3)) 2 (some q4)) 3 (some q5)) 4 (some q6)) 5 (some q7)) 6 (some q8))))))) :: t1_7)))) (As := []) (rest := [.ref q9, .int 7, .ref q1]) ⟨hx, hb, hml, hown, hts⟩ hK hNC hP hD hS hA (k_X7_init l X q9 H.size) (va_cnB (host := "AbsentPraise") 0 hts gX6_init_X7_init_n17 rfl rfl rfl (hNC.1 4 _ rfl) (hts (.initialized RX7) (List.mem_of_getElem? (i := 7) rfl)) hs_X7_init ⟨Nat.le_of_ble_eq_true rfl, Nat.le_of_ble_eq_true rfl⟩) rfl (hts (.instanceMethod yX7_init) (List.mem_of_getElem? (i := 8) rfl)) rfl rfl hl.1 (Nat.le_of_ble_eq_true rfl) dX6_init_33 (Nat.le_of_ble_eq_true rfl) (Nat.le_of_ble_eq_true rfl) (fun u8 H locs hP hD hS => ?_)
  rw [app_K] at hP hD
  refine va_astq hx hb hK hP hD hS (1 + t0.length) 3 (1 + t0.length + 1 + t1_7.length) 7 (r := (RX7, TX7, 6)) at_K rfl at_V rfl (vp_lit (by decide)) dX6_init_36 (fun H locs hP hD hS => ?_)
  rw [set_K] at hP hD
  obtain ⟨t1_8, ht1_8⟩ : ∃ z : va_W, z = t1_7 ++ cw_X7 X q9 u8 := ⟨_, rfl⟩
  have hP : va_P X.1 vwCl ((h, .inr (6, [.ref q1, .int 0, .int 0])) :: (t0 ++ ((q1, .inl (X.2.2.2.2.2, 16, .inr (.inr (.inr (.inr (va_up (va_up (va_up (va_up (va_up (va_up (va_up (va_up (fun _ => none) 0 (some q2)) 1 (some q3)) 2 (some q4)) 3 (some q5)) 4 (some q6)) 5 (some q7)) 6 (some q8)) 7 (some q9))))))) :: t1_8))) H := by rw [ht1_8]; exact hP
  have hD : va_D A ((h, .inr (6, [.ref q1, .int 0, .int 0])) :: (t0 ++ ((q1, .inl (X.2.2.2.2.2, 16, .inr (.inr (.inr (.inr (va_up (va_up (va_up (va_up (va_up (va_up (va_up (va_up (fun _ => none) 0 (some q2)) 1 (some q3)) 2 (some q4)) 3 (some q5)) 4 (some q6)) 5 (some q7)) 6 (some q8)) 7 (some q9))))))) :: t1_8))) := by rw [ht1_8]; exact hD
  refine lv_iinc (v := 8) (lv' := [(1, .int 8), (0, .ref h)]) hx hb dX6_init_37 hl (k := 0) rfl (by decide) (by decide) rfl (fun ls hl => ?_)
  refine lv_goto (tgt := 15) hx hb dX6_init_40 (by decide) ?_
  refine lv_iload_n hx hb dX6_init_15 rfl (lv_at hl 0 rfl) ?_
  refine lv_aload_n hx hb dX6_init_16 rfl (lv_at hl 1 rfl) ?_
  refine va_get (D := X.1) (ci := 6) (v := .ref q1) (ref := "AbsentPraise$Past") (C := RX6) (T := TX6) (N := 3) hx hb hts hin_X6 hown hK hP 0 rfl rfl 0 (by decide) (hts _ (List.mem_of_getElem? (i := 5) rfl)) (fun _ h => h) rfl dX6_init_17 ?_
  refine va_alen hx hb hK hP (1 + t0.length) 3 (ty := .object "AbsentPraise$Talk") at_K rfl (v := 16) rfl dX6_init_20 ?_
  refine lv_icmp_ge (tgt := 43) hx hb dX6_init_21 (by decide) (fun c => absurd c (by decide)) (fun _ => ?_)
  refine lv_aload_n hx hb dX6_init_24 rfl (lv_at hl 1 rfl) ?_
  refine va_get (D := X.1) (ci := 6) (v := .ref q1) (ref := "AbsentPraise$Past") (C := RX6) (T := TX6) (N := 3) hx hb hts hin_X6 hown hK hP 0 rfl rfl 0 (by decide) (hts _ (List.mem_of_getElem? (i := 5) rfl)) (fun _ h => h) rfl dX6_init_25 ?_
  refine lv_iload_n hx hb dX6_init_28 rfl (lv_at hl 0 rfl) ?_
  refine va_new (ci := 7) (fs := [.null, .null, .null, .null, .int 0, .int 0]) (C := RX7) (T := TX7) (N := 6) hx hb hts hin_X7 tyX7 tyX7_ok hown (hts (.classLink RX6 9 RX7) (List.mem_of_getElem? (i := 4) rfl)) (hts (.instantiable RX7 6) (List.mem_of_getElem? (i := 6) rfl)) (hts (.initialized RX7) (List.mem_of_getElem? (i := 7) rfl)) hK hP hD hS hA rfl (fun j hj => by rcases (show j = 0 ∨ j = 1 ∨ j = 2 ∨ j = 3 ∨ j = 4 ∨ j = 5 by omega) with rfl | rfl | rfl | rfl | rfl | rfl <;> rfl) (Nat.le_of_ble_eq_true rfl) (Nat.le_of_ble_eq_true rfl) dX6_init_29 (fun q10 H hP hD hS => ?_)
  refine lv_dup hx hb dX6_init_32 rfl ?_
  refine xciN (ws0 := ((h, .inr (6, [.ref q1, .int 0, .int 0])) :: (t0 ++ ((q1, .inl (X.2.2.2.2.2, 16, .inr (.inr (.inr (.inr (va_up (va_up (va_up (va_up (va_up (va_up (va_up (va_up (fun _ => none) 0 (some q2)) 1 (some q3)) 2 (some q4)) 3 (some q5)) 4 (some q6)) 5 (some q7)) 6 (some q8)) 7 (some q9))))))) :: t1_8)))) (As := []) (rest := [.ref q10, .int 8, .ref q1]) ⟨hx, hb, hml, hown, hts⟩ hK hNC hP hD hS hA (k_X7_init l X q10 H.size) (va_cnB (host := "AbsentPraise") 0 hts gX6_init_X7_init_n17 rfl rfl rfl (hNC.1 4 _ rfl) (hts (.initialized RX7) (List.mem_of_getElem? (i := 7) rfl)) hs_X7_init ⟨Nat.le_of_ble_eq_true rfl, Nat.le_of_ble_eq_true rfl⟩) rfl (hts (.instanceMethod yX7_init) (List.mem_of_getElem? (i := 8) rfl)) rfl rfl hl.1 (Nat.le_of_ble_eq_true rfl) dX6_init_33 (Nat.le_of_ble_eq_true rfl) (Nat.le_of_ble_eq_true rfl) (fun u9 H locs hP hD hS => ?_)
  rw [app_K] at hP hD
  refine va_astq hx hb hK hP hD hS (1 + t0.length) 3 (1 + t0.length + 1 + t1_8.length) 7 (r := (RX7, TX7, 6)) at_K rfl at_V rfl (vp_lit (by decide)) dX6_init_36 (fun H locs hP hD hS => ?_)
  rw [set_K] at hP hD
  obtain ⟨t1_9, ht1_9⟩ : ∃ z : va_W, z = t1_8 ++ cw_X7 X q10 u9 := ⟨_, rfl⟩
  have hP : va_P X.1 vwCl ((h, .inr (6, [.ref q1, .int 0, .int 0])) :: (t0 ++ ((q1, .inl (X.2.2.2.2.2, 16, .inr (.inr (.inr (.inr (va_up (va_up (va_up (va_up (va_up (va_up (va_up (va_up (va_up (fun _ => none) 0 (some q2)) 1 (some q3)) 2 (some q4)) 3 (some q5)) 4 (some q6)) 5 (some q7)) 6 (some q8)) 7 (some q9)) 8 (some q10))))))) :: t1_9))) H := by rw [ht1_9]; exact hP
  have hD : va_D A ((h, .inr (6, [.ref q1, .int 0, .int 0])) :: (t0 ++ ((q1, .inl (X.2.2.2.2.2, 16, .inr (.inr (.inr (.inr (va_up (va_up (va_up (va_up (va_up (va_up (va_up (va_up (va_up (fun _ => none) 0 (some q2)) 1 (some q3)) 2 (some q4)) 3 (some q5)) 4 (some q6)) 5 (some q7)) 6 (some q8)) 7 (some q9)) 8 (some q10))))))) :: t1_9))) := by rw [ht1_9]; exact hD
  refine lv_iinc (v := 9) (lv' := [(1, .int 9), (0, .ref h)]) hx hb dX6_init_37 hl (k := 0) rfl (by decide) (by decide) rfl (fun ls hl => ?_)
  refine lv_goto (tgt := 15) hx hb dX6_init_40 (by decide) ?_
  refine lv_iload_n hx hb dX6_init_15 rfl (lv_at hl 0 rfl) ?_
  refine lv_aload_n hx hb dX6_init_16 rfl (lv_at hl 1 rfl) ?_
  refine va_get (D := X.1) (ci := 6) (v := .ref q1) (ref := "AbsentPraise$Past") (C := RX6) (T := TX6) (N := 3) hx hb hts hin_X6 hown hK hP 0 rfl rfl 0 (by decide) (hts _ (List.mem_of_getElem? (i := 5) rfl)) (fun _ h => h) rfl dX6_init_17 ?_
  refine va_alen hx hb hK hP (1 + t0.length) 3 (ty := .object "AbsentPraise$Talk") at_K rfl (v := 16) rfl dX6_init_20 ?_
  refine lv_icmp_ge (tgt := 43) hx hb dX6_init_21 (by decide) (fun c => absurd c (by decide)) (fun _ => ?_)
  refine lv_aload_n hx hb dX6_init_24 rfl (lv_at hl 1 rfl) ?_
  refine va_get (D := X.1) (ci := 6) (v := .ref q1) (ref := "AbsentPraise$Past") (C := RX6) (T := TX6) (N := 3) hx hb hts hin_X6 hown hK hP 0 rfl rfl 0 (by decide) (hts _ (List.mem_of_getElem? (i := 5) rfl)) (fun _ h => h) rfl dX6_init_25 ?_
  refine lv_iload_n hx hb dX6_init_28 rfl (lv_at hl 0 rfl) ?_
  refine va_new (ci := 7) (fs := [.null, .null, .null, .null, .int 0, .int 0]) (C := RX7) (T := TX7) (N := 6) hx hb hts hin_X7 tyX7 tyX7_ok hown (hts (.classLink RX6 9 RX7) (List.mem_of_getElem? (i := 4) rfl)) (hts (.instantiable RX7 6) (List.mem_of_getElem? (i := 6) rfl)) (hts (.initialized RX7) (List.mem_of_getElem? (i := 7) rfl)) hK hP hD hS hA rfl (fun j hj => by rcases (show j = 0 ∨ j = 1 ∨ j = 2 ∨ j = 3 ∨ j = 4 ∨ j = 5 by omega) with rfl | rfl | rfl | rfl | rfl | rfl <;> rfl) (Nat.le_of_ble_eq_true rfl) (Nat.le_of_ble_eq_true rfl) dX6_init_29 (fun q11 H hP hD hS => ?_)
  refine lv_dup hx hb dX6_init_32 rfl ?_
  refine xciN (ws0 := ((h, .inr (6, [.ref q1, .int 0, .int 0])) :: (t0 ++ ((q1, .inl (X.2.2.2.2.2, 16, .inr (.inr (.inr (.inr (va_up (va_up (va_up (va_up (va_up (va_up (va_up (va_up (va_up (fun _ => none) 0 (some q2)) 1 (some q3)) 2 (some q4)) 3 (some q5)) 4 (some q6)) 5 (some q7)) 6 (some q8)) 7 (some q9)) 8 (some q10))))))) :: t1_9)))) (As := []) (rest := [.ref q11, .int 9, .ref q1]) ⟨hx, hb, hml, hown, hts⟩ hK hNC hP hD hS hA (k_X7_init l X q11 H.size) (va_cnB (host := "AbsentPraise") 0 hts gX6_init_X7_init_n17 rfl rfl rfl (hNC.1 4 _ rfl) (hts (.initialized RX7) (List.mem_of_getElem? (i := 7) rfl)) hs_X7_init ⟨Nat.le_of_ble_eq_true rfl, Nat.le_of_ble_eq_true rfl⟩) rfl (hts (.instanceMethod yX7_init) (List.mem_of_getElem? (i := 8) rfl)) rfl rfl hl.1 (Nat.le_of_ble_eq_true rfl) dX6_init_33 (Nat.le_of_ble_eq_true rfl) (Nat.le_of_ble_eq_true rfl) (fun u10 H locs hP hD hS => ?_)
  rw [app_K] at hP hD
  refine va_astq hx hb hK hP hD hS (1 + t0.length) 3 (1 + t0.length + 1 + t1_9.length) 7 (r := (RX7, TX7, 6)) at_K rfl at_V rfl (vp_lit (by decide)) dX6_init_36 (fun H locs hP hD hS => ?_)
  rw [set_K] at hP hD
  obtain ⟨t1_10, ht1_10⟩ : ∃ z : va_W, z = t1_9 ++ cw_X7 X q11 u10 := ⟨_, rfl⟩
  have hP : va_P X.1 vwCl ((h, .inr (6, [.ref q1, .int 0, .int 0])) :: (t0 ++ ((q1, .inl (X.2.2.2.2.2, 16, .inr (.inr (.inr (.inr (va_up (va_up (va_up (va_up (va_up (va_up (va_up (va_up (va_up (va_up (fun _ => none) 0 (some q2)) 1 (some q3)) 2 (some q4)) 3 (some q5)) 4 (some q6)) 5 (some q7)) 6 (some q8)) 7 (some q9)) 8 (some q10)) 9 (some q11))))))) :: t1_10))) H := by rw [ht1_10]; exact hP
  have hD : va_D A ((h, .inr (6, [.ref q1, .int 0, .int 0])) :: (t0 ++ ((q1, .inl (X.2.2.2.2.2, 16, .inr (.inr (.inr (.inr (va_up (va_up (va_up (va_up (va_up (va_up (va_up (va_up (va_up (va_up (fun _ => none) 0 (some q2)) 1 (some q3)) 2 (some q4)) 3 (some q5)) 4 (some q6)) 5 (some q7)) 6 (some q8)) 7 (some q9)) 8 (some q10)) 9 (some q11))))))) :: t1_10))) := by rw [ht1_10]; exact hD
  refine lv_iinc (v := 10) (lv' := [(1, .int 10), (0, .ref h)]) hx hb dX6_init_37 hl (k := 0) rfl (by decide) (by decide) rfl (fun ls hl => ?_)
  refine lv_goto (tgt := 15) hx hb dX6_init_40 (by decide) ?_
  refine lv_iload_n hx hb dX6_init_15 rfl (lv_at hl 0 rfl) ?_
  refine lv_aload_n hx hb dX6_init_16 rfl (lv_at hl 1 rfl) ?_
  refine va_get (D := X.1) (ci := 6) (v := .ref q1) (ref := "AbsentPraise$Past") (C := RX6) (T := TX6) (N := 3) hx hb hts hin_X6 hown hK hP 0 rfl rfl 0 (by decide) (hts _ (List.mem_of_getElem? (i := 5) rfl)) (fun _ h => h) rfl dX6_init_17 ?_
  refine va_alen hx hb hK hP (1 + t0.length) 3 (ty := .object "AbsentPraise$Talk") at_K rfl (v := 16) rfl dX6_init_20 ?_
  refine lv_icmp_ge (tgt := 43) hx hb dX6_init_21 (by decide) (fun c => absurd c (by decide)) (fun _ => ?_)
  refine lv_aload_n hx hb dX6_init_24 rfl (lv_at hl 1 rfl) ?_
  refine va_get (D := X.1) (ci := 6) (v := .ref q1) (ref := "AbsentPraise$Past") (C := RX6) (T := TX6) (N := 3) hx hb hts hin_X6 hown hK hP 0 rfl rfl 0 (by decide) (hts _ (List.mem_of_getElem? (i := 5) rfl)) (fun _ h => h) rfl dX6_init_25 ?_
  refine lv_iload_n hx hb dX6_init_28 rfl (lv_at hl 0 rfl) ?_
  refine va_new (ci := 7) (fs := [.null, .null, .null, .null, .int 0, .int 0]) (C := RX7) (T := TX7) (N := 6) hx hb hts hin_X7 tyX7 tyX7_ok hown (hts (.classLink RX6 9 RX7) (List.mem_of_getElem? (i := 4) rfl)) (hts (.instantiable RX7 6) (List.mem_of_getElem? (i := 6) rfl)) (hts (.initialized RX7) (List.mem_of_getElem? (i := 7) rfl)) hK hP hD hS hA rfl (fun j hj => by rcases (show j = 0 ∨ j = 1 ∨ j = 2 ∨ j = 3 ∨ j = 4 ∨ j = 5 by omega) with rfl | rfl | rfl | rfl | rfl | rfl <;> rfl) (Nat.le_of_ble_eq_true rfl) (Nat.le_of_ble_eq_true rfl) dX6_init_29 (fun q12 H hP hD hS => ?_)
  refine lv_dup hx hb dX6_init_32 rfl ?_
  refine xciN (ws0 := ((h, .inr (6, [.ref q1, .int 0, .int 0])) :: (t0 ++ ((q1, .inl (X.2.2.2.2.2, 16, .inr (.inr (.inr (.inr (va_up (va_up (va_up (va_up (va_up (va_up (va_up (va_up (va_up (va_up (fun _ => none) 0 (some q2)) 1 (some q3)) 2 (some q4)) 3 (some q5)) 4 (some q6)) 5 (some q7)) 6 (some q8)) 7 (some q9)) 8 (some q10)) 9 (some q11))))))) :: t1_10)))) (As := []) (rest := [.ref q12, .int 10, .ref q1]) ⟨hx, hb, hml, hown, hts⟩ hK hNC hP hD hS hA (k_X7_init l X q12 H.size) (va_cnB (host := "AbsentPraise") 0 hts gX6_init_X7_init_n17 rfl rfl rfl (hNC.1 4 _ rfl) (hts (.initialized RX7) (List.mem_of_getElem? (i := 7) rfl)) hs_X7_init ⟨Nat.le_of_ble_eq_true rfl, Nat.le_of_ble_eq_true rfl⟩) rfl (hts (.instanceMethod yX7_init) (List.mem_of_getElem? (i := 8) rfl)) rfl rfl hl.1 (Nat.le_of_ble_eq_true rfl) dX6_init_33 (Nat.le_of_ble_eq_true rfl) (Nat.le_of_ble_eq_true rfl) (fun u11 H locs hP hD hS => ?_)
  rw [app_K] at hP hD
  refine va_astq hx hb hK hP hD hS (1 + t0.length) 3 (1 + t0.length + 1 + t1_10.length) 7 (r := (RX7, TX7, 6)) at_K rfl at_V rfl (vp_lit (by decide)) dX6_init_36 (fun H locs hP hD hS => ?_)
  rw [set_K] at hP hD
  obtain ⟨t1_11, ht1_11⟩ : ∃ z : va_W, z = t1_10 ++ cw_X7 X q12 u11 := ⟨_, rfl⟩
  have hP : va_P X.1 vwCl ((h, .inr (6, [.ref q1, .int 0, .int 0])) :: (t0 ++ ((q1, .inl (X.2.2.2.2.2, 16, .inr (.inr (.inr (.inr (va_up (va_up (va_up (va_up (va_up (va_up (va_up (va_up (va_up (va_up (va_up (fun _ => none) 0 (some q2)) 1 (some q3)) 2 (some q4)) 3 (some q5)) 4 (some q6)) 5 (some q7)) 6 (some q8)) 7 (some q9)) 8 (some q10)) 9 (some q11)) 10 (some q12))))))) :: t1_11))) H := by rw [ht1_11]; exact hP
  have hD : va_D A ((h, .inr (6, [.ref q1, .int 0, .int 0])) :: (t0 ++ ((q1, .inl (X.2.2.2.2.2, 16, .inr (.inr (.inr (.inr (va_up (va_up (va_up (va_up (va_up (va_up (va_up (va_up (va_up (va_up (va_up (fun _ => none) 0 (some q2)) 1 (some q3)) 2 (some q4)) 3 (some q5)) 4 (some q6)) 5 (some q7)) 6 (some q8)) 7 (some q9)) 8 (some q10)) 9 (some q11)) 10 (some q12))))))) :: t1_11))) := by rw [ht1_11]; exact hD
  refine lv_iinc (v := 11) (lv' := [(1, .int 11), (0, .ref h)]) hx hb dX6_init_37 hl (k := 0) rfl (by decide) (by decide) rfl (fun ls hl => ?_)
  refine lv_goto (tgt := 15) hx hb dX6_init_40 (by decide) ?_
  refine lv_iload_n hx hb dX6_init_15 rfl (lv_at hl 0 rfl) ?_
  refine lv_aload_n hx hb dX6_init_16 rfl (lv_at hl 1 rfl) ?_
  refine va_get (D := X.1) (ci := 6) (v := .ref q1) (ref := "AbsentPraise$Past") (C := RX6) (T := TX6) (N := 3) hx hb hts hin_X6 hown hK hP 0 rfl rfl 0 (by decide) (hts _ (List.mem_of_getElem? (i := 5) rfl)) (fun _ h => h) rfl dX6_init_17 ?_
  refine va_alen hx hb hK hP (1 + t0.length) 3 (ty := .object "AbsentPraise$Talk") at_K rfl (v := 16) rfl dX6_init_20 ?_
  refine lv_icmp_ge (tgt := 43) hx hb dX6_init_21 (by decide) (fun c => absurd c (by decide)) (fun _ => ?_)
  refine lv_aload_n hx hb dX6_init_24 rfl (lv_at hl 1 rfl) ?_
  refine va_get (D := X.1) (ci := 6) (v := .ref q1) (ref := "AbsentPraise$Past") (C := RX6) (T := TX6) (N := 3) hx hb hts hin_X6 hown hK hP 0 rfl rfl 0 (by decide) (hts _ (List.mem_of_getElem? (i := 5) rfl)) (fun _ h => h) rfl dX6_init_25 ?_
  refine lv_iload_n hx hb dX6_init_28 rfl (lv_at hl 0 rfl) ?_
  refine va_new (ci := 7) (fs := [.null, .null, .null, .null, .int 0, .int 0]) (C := RX7) (T := TX7) (N := 6) hx hb hts hin_X7 tyX7 tyX7_ok hown (hts (.classLink RX6 9 RX7) (List.mem_of_getElem? (i := 4) rfl)) (hts (.instantiable RX7 6) (List.mem_of_getElem? (i := 6) rfl)) (hts (.initialized RX7) (List.mem_of_getElem? (i := 7) rfl)) hK hP hD hS hA rfl (fun j hj => by rcases (show j = 0 ∨ j = 1 ∨ j = 2 ∨ j = 3 ∨ j = 4 ∨ j = 5 by omega) with rfl | rfl | rfl | rfl | rfl | rfl <;> rfl) (Nat.le_of_ble_eq_true rfl) (Nat.le_of_ble_eq_true rfl) dX6_init_29 (fun q13 H hP hD hS => ?_)
  refine lv_dup hx hb dX6_init_32 rfl ?_
  refine xciN (ws0 := ((h, .inr (6, [.ref q1, .int 0, .int 0])) :: (t0 ++ ((q1, .inl (X.2.2.2.2.2, 16, .inr (.inr (.inr (.inr (va_up (va_up (va_up (va_up (va_up (va_up (va_up (va_up (va_up (va_up (va_up (fun _ => none) 0 (some q2)) 1 (some q3)) 2 (some q4)) 3 (some q5)) 4 (some q6)) 5 (some q7)) 6 (some q8)) 7 (some q9)) 8 (some q10)) 9 (some q11)) 10 (some q12))))))) :: t1_11)))) (As := []) (rest := [.ref q13, .int 11, .ref q1]) ⟨hx, hb, hml, hown, hts⟩ hK hNC hP hD hS hA (k_X7_init l X q13 H.size) (va_cnB (host := "AbsentPraise") 0 hts gX6_init_X7_init_n17 rfl rfl rfl (hNC.1 4 _ rfl) (hts (.initialized RX7) (List.mem_of_getElem? (i := 7) rfl)) hs_X7_init ⟨Nat.le_of_ble_eq_true rfl, Nat.le_of_ble_eq_true rfl⟩) rfl (hts (.instanceMethod yX7_init) (List.mem_of_getElem? (i := 8) rfl)) rfl rfl hl.1 (Nat.le_of_ble_eq_true rfl) dX6_init_33 (Nat.le_of_ble_eq_true rfl) (Nat.le_of_ble_eq_true rfl) (fun u12 H locs hP hD hS => ?_)
  rw [app_K] at hP hD
  refine va_astq hx hb hK hP hD hS (1 + t0.length) 3 (1 + t0.length + 1 + t1_11.length) 7 (r := (RX7, TX7, 6)) at_K rfl at_V rfl (vp_lit (by decide)) dX6_init_36 (fun H locs hP hD hS => ?_)
  rw [set_K] at hP hD
  obtain ⟨t1_12, ht1_12⟩ : ∃ z : va_W, z = t1_11 ++ cw_X7 X q13 u12 := ⟨_, rfl⟩
  have hP : va_P X.1 vwCl ((h, .inr (6, [.ref q1, .int 0, .int 0])) :: (t0 ++ ((q1, .inl (X.2.2.2.2.2, 16, .inr (.inr (.inr (.inr (va_up (va_up (va_up (va_up (va_up (va_up (va_up (va_up (va_up (va_up (va_up (va_up (fun _ => none) 0 (some q2)) 1 (some q3)) 2 (some q4)) 3 (some q5)) 4 (some q6)) 5 (some q7)) 6 (some q8)) 7 (some q9)) 8 (some q10)) 9 (some q11)) 10 (some q12)) 11 (some q13))))))) :: t1_12))) H := by rw [ht1_12]; exact hP
  have hD : va_D A ((h, .inr (6, [.ref q1, .int 0, .int 0])) :: (t0 ++ ((q1, .inl (X.2.2.2.2.2, 16, .inr (.inr (.inr (.inr (va_up (va_up (va_up (va_up (va_up (va_up (va_up (va_up (va_up (va_up (va_up (va_up (fun _ => none) 0 (some q2)) 1 (some q3)) 2 (some q4)) 3 (some q5)) 4 (some q6)) 5 (some q7)) 6 (some q8)) 7 (some q9)) 8 (some q10)) 9 (some q11)) 10 (some q12)) 11 (some q13))))))) :: t1_12))) := by rw [ht1_12]; exact hD
  refine lv_iinc (v := 12) (lv' := [(1, .int 12), (0, .ref h)]) hx hb dX6_init_37 hl (k := 0) rfl (by decide) (by decide) rfl (fun ls hl => ?_)
  refine lv_goto (tgt := 15) hx hb dX6_init_40 (by decide) ?_
  refine lv_iload_n hx hb dX6_init_15 rfl (lv_at hl 0 rfl) ?_
  refine lv_aload_n hx hb dX6_init_16 rfl (lv_at hl 1 rfl) ?_
  refine va_get (D := X.1) (ci := 6) (v := .ref q1) (ref := "AbsentPraise$Past") (C := RX6) (T := TX6) (N := 3) hx hb hts hin_X6 hown hK hP 0 rfl rfl 0 (by decide) (hts _ (List.mem_of_getElem? (i := 5) rfl)) (fun _ h => h) rfl dX6_init_17 ?_
  refine va_alen hx hb hK hP (1 + t0.length) 3 (ty := .object "AbsentPraise$Talk") at_K rfl (v := 16) rfl dX6_init_20 ?_
  refine lv_icmp_ge (tgt := 43) hx hb dX6_init_21 (by decide) (fun c => absurd c (by decide)) (fun _ => ?_)
  refine lv_aload_n hx hb dX6_init_24 rfl (lv_at hl 1 rfl) ?_
  refine va_get (D := X.1) (ci := 6) (v := .ref q1) (ref := "AbsentPraise$Past") (C := RX6) (T := TX6) (N := 3) hx hb hts hin_X6 hown hK hP 0 rfl rfl 0 (by decide) (hts _ (List.mem_of_getElem? (i := 5) rfl)) (fun _ h => h) rfl dX6_init_25 ?_
  refine lv_iload_n hx hb dX6_init_28 rfl (lv_at hl 0 rfl) ?_
  refine va_new (ci := 7) (fs := [.null, .null, .null, .null, .int 0, .int 0]) (C := RX7) (T := TX7) (N := 6) hx hb hts hin_X7 tyX7 tyX7_ok hown (hts (.classLink RX6 9 RX7) (List.mem_of_getElem? (i := 4) rfl)) (hts (.instantiable RX7 6) (List.mem_of_getElem? (i := 6) rfl)) (hts (.initialized RX7) (List.mem_of_getElem? (i := 7) rfl)) hK hP hD hS hA rfl (fun j hj => by rcases (show j = 0 ∨ j = 1 ∨ j = 2 ∨ j = 3 ∨ j = 4 ∨ j = 5 by omega) with rfl | rfl | rfl | rfl | rfl | rfl <;> rfl) (Nat.le_of_ble_eq_true rfl) (Nat.le_of_ble_eq_true rfl) dX6_init_29 (fun q14 H hP hD hS => ?_)
  refine lv_dup hx hb dX6_init_32 rfl ?_
  refine xciN (ws0 := ((h, .inr (6, [.ref q1, .int 0, .int 0])) :: (t0 ++ ((q1, .inl (X.2.2.2.2.2, 16, .inr (.inr (.inr (.inr (va_up (va_up (va_up (va_up (va_up (va_up (va_up (va_up (va_up (va_up (va_up (va_up (fun _ => none) 0 (some q2)) 1 (some q3)) 2 (some q4)) 3 (some q5)) 4 (some q6)) 5 (some q7)) 6 (some q8)) 7 (some q9)) 8 (some q10)) 9 (some q11)) 10 (some q12)) 11 (some q13))))))) :: t1_12)))) (As := []) (rest := [.ref q14, .int 12, .ref q1]) ⟨hx, hb, hml, hown, hts⟩ hK hNC hP hD hS hA (k_X7_init l X q14 H.size) (va_cnB (host := "AbsentPraise") 0 hts gX6_init_X7_init_n17 rfl rfl rfl (hNC.1 4 _ rfl) (hts (.initialized RX7) (List.mem_of_getElem? (i := 7) rfl)) hs_X7_init ⟨Nat.le_of_ble_eq_true rfl, Nat.le_of_ble_eq_true rfl⟩) rfl (hts (.instanceMethod yX7_init) (List.mem_of_getElem? (i := 8) rfl)) rfl rfl hl.1 (Nat.le_of_ble_eq_true rfl) dX6_init_33 (Nat.le_of_ble_eq_true rfl) (Nat.le_of_ble_eq_true rfl) (fun u13 H locs hP hD hS => ?_)
  rw [app_K] at hP hD
  refine va_astq hx hb hK hP hD hS (1 + t0.length) 3 (1 + t0.length + 1 + t1_12.length) 7 (r := (RX7, TX7, 6)) at_K rfl at_V rfl (vp_lit (by decide)) dX6_init_36 (fun H locs hP hD hS => ?_)
  rw [set_K] at hP hD
  obtain ⟨t1_13, ht1_13⟩ : ∃ z : va_W, z = t1_12 ++ cw_X7 X q14 u13 := ⟨_, rfl⟩
  have hP : va_P X.1 vwCl ((h, .inr (6, [.ref q1, .int 0, .int 0])) :: (t0 ++ ((q1, .inl (X.2.2.2.2.2, 16, .inr (.inr (.inr (.inr (va_up (va_up (va_up (va_up (va_up (va_up (va_up (va_up (va_up (va_up (va_up (va_up (va_up (fun _ => none) 0 (some q2)) 1 (some q3)) 2 (some q4)) 3 (some q5)) 4 (some q6)) 5 (some q7)) 6 (some q8)) 7 (some q9)) 8 (some q10)) 9 (some q11)) 10 (some q12)) 11 (some q13)) 12 (some q14))))))) :: t1_13))) H := by rw [ht1_13]; exact hP
  have hD : va_D A ((h, .inr (6, [.ref q1, .int 0, .int 0])) :: (t0 ++ ((q1, .inl (X.2.2.2.2.2, 16, .inr (.inr (.inr (.inr (va_up (va_up (va_up (va_up (va_up (va_up (va_up (va_up (va_up (va_up (va_up (va_up (va_up (fun _ => none) 0 (some q2)) 1 (some q3)) 2 (some q4)) 3 (some q5)) 4 (some q6)) 5 (some q7)) 6 (some q8)) 7 (some q9)) 8 (some q10)) 9 (some q11)) 10 (some q12)) 11 (some q13)) 12 (some q14))))))) :: t1_13))) := by rw [ht1_13]; exact hD
  refine lv_iinc (v := 13) (lv' := [(1, .int 13), (0, .ref h)]) hx hb dX6_init_37 hl (k := 0) rfl (by decide) (by decide) rfl (fun ls hl => ?_)
  refine lv_goto (tgt := 15) hx hb dX6_init_40 (by decide) ?_
  refine lv_iload_n hx hb dX6_init_15 rfl (lv_at hl 0 rfl) ?_
  refine lv_aload_n hx hb dX6_init_16 rfl (lv_at hl 1 rfl) ?_
  refine va_get (D := X.1) (ci := 6) (v := .ref q1) (ref := "AbsentPraise$Past") (C := RX6) (T := TX6) (N := 3) hx hb hts hin_X6 hown hK hP 0 rfl rfl 0 (by decide) (hts _ (List.mem_of_getElem? (i := 5) rfl)) (fun _ h => h) rfl dX6_init_17 ?_
  refine va_alen hx hb hK hP (1 + t0.length) 3 (ty := .object "AbsentPraise$Talk") at_K rfl (v := 16) rfl dX6_init_20 ?_
  refine lv_icmp_ge (tgt := 43) hx hb dX6_init_21 (by decide) (fun c => absurd c (by decide)) (fun _ => ?_)
  refine lv_aload_n hx hb dX6_init_24 rfl (lv_at hl 1 rfl) ?_
  refine va_get (D := X.1) (ci := 6) (v := .ref q1) (ref := "AbsentPraise$Past") (C := RX6) (T := TX6) (N := 3) hx hb hts hin_X6 hown hK hP 0 rfl rfl 0 (by decide) (hts _ (List.mem_of_getElem? (i := 5) rfl)) (fun _ h => h) rfl dX6_init_25 ?_
  refine lv_iload_n hx hb dX6_init_28 rfl (lv_at hl 0 rfl) ?_
  refine va_new (ci := 7) (fs := [.null, .null, .null, .null, .int 0, .int 0]) (C := RX7) (T := TX7) (N := 6) hx hb hts hin_X7 tyX7 tyX7_ok hown (hts (.classLink RX6 9 RX7) (List.mem_of_getElem? (i := 4) rfl)) (hts (.instantiable RX7 6) (List.mem_of_getElem? (i := 6) rfl)) (hts (.initialized RX7) (List.mem_of_getElem? (i := 7) rfl)) hK hP hD hS hA rfl (fun j hj => by rcases (show j = 0 ∨ j = 1 ∨ j = 2 ∨ j = 3 ∨ j = 4 ∨ j = 5 by omega) with rfl | rfl | rfl | rfl | rfl | rfl <;> rfl) (Nat.le_of_ble_eq_true rfl) (Nat.le_of_ble_eq_true rfl) dX6_init_29 (fun q15 H hP hD hS => ?_)
  refine lv_dup hx hb dX6_init_32 rfl ?_
  refine xciN (ws0 := ((h, .inr (6, [.ref q1, .int 0, .int 0])) :: (t0 ++ ((q1, .inl (X.2.2.2.2.2, 16, .inr (.inr (.inr (.inr (va_up (va_up (va_up (va_up (va_up (va_up (va_up (va_up (va_up (va_up (va_up (va_up (va_up (fun _ => none) 0 (some q2)) 1 (some q3)) 2 (some q4)) 3 (some q5)) 4 (some q6)) 5 (some q7)) 6 (some q8)) 7 (some q9)) 8 (some q10)) 9 (some q11)) 10 (some q12)) 11 (some q13)) 12 (some q14))))))) :: t1_13)))) (As := []) (rest := [.ref q15, .int 13, .ref q1]) ⟨hx, hb, hml, hown, hts⟩ hK hNC hP hD hS hA (k_X7_init l X q15 H.size) (va_cnB (host := "AbsentPraise") 0 hts gX6_init_X7_init_n17 rfl rfl rfl (hNC.1 4 _ rfl) (hts (.initialized RX7) (List.mem_of_getElem? (i := 7) rfl)) hs_X7_init ⟨Nat.le_of_ble_eq_true rfl, Nat.le_of_ble_eq_true rfl⟩) rfl (hts (.instanceMethod yX7_init) (List.mem_of_getElem? (i := 8) rfl)) rfl rfl hl.1 (Nat.le_of_ble_eq_true rfl) dX6_init_33 (Nat.le_of_ble_eq_true rfl) (Nat.le_of_ble_eq_true rfl) (fun u14 H locs hP hD hS => ?_)
  rw [app_K] at hP hD
  refine va_astq hx hb hK hP hD hS (1 + t0.length) 3 (1 + t0.length + 1 + t1_13.length) 7 (r := (RX7, TX7, 6)) at_K rfl at_V rfl (vp_lit (by decide)) dX6_init_36 (fun H locs hP hD hS => ?_)
  rw [set_K] at hP hD
  obtain ⟨t1_14, ht1_14⟩ : ∃ z : va_W, z = t1_13 ++ cw_X7 X q15 u14 := ⟨_, rfl⟩
  have hP : va_P X.1 vwCl ((h, .inr (6, [.ref q1, .int 0, .int 0])) :: (t0 ++ ((q1, .inl (X.2.2.2.2.2, 16, .inr (.inr (.inr (.inr (va_up (va_up (va_up (va_up (va_up (va_up (va_up (va_up (va_up (va_up (va_up (va_up (va_up (va_up (fun _ => none) 0 (some q2)) 1 (some q3)) 2 (some q4)) 3 (some q5)) 4 (some q6)) 5 (some q7)) 6 (some q8)) 7 (some q9)) 8 (some q10)) 9 (some q11)) 10 (some q12)) 11 (some q13)) 12 (some q14)) 13 (some q15))))))) :: t1_14))) H := by rw [ht1_14]; exact hP
  have hD : va_D A ((h, .inr (6, [.ref q1, .int 0, .int 0])) :: (t0 ++ ((q1, .inl (X.2.2.2.2.2, 16, .inr (.inr (.inr (.inr (va_up (va_up (va_up (va_up (va_up (va_up (va_up (va_up (va_up (va_up (va_up (va_up (va_up (va_up (fun _ => none) 0 (some q2)) 1 (some q3)) 2 (some q4)) 3 (some q5)) 4 (some q6)) 5 (some q7)) 6 (some q8)) 7 (some q9)) 8 (some q10)) 9 (some q11)) 10 (some q12)) 11 (some q13)) 12 (some q14)) 13 (some q15))))))) :: t1_14))) := by rw [ht1_14]; exact hD
  refine lv_iinc (v := 14) (lv' := [(1, .int 14), (0, .ref h)]) hx hb dX6_init_37 hl (k := 0) rfl (by decide) (by decide) rfl (fun ls hl => ?_)
  refine lv_goto (tgt := 15) hx hb dX6_init_40 (by decide) ?_
  refine lv_iload_n hx hb dX6_init_15 rfl (lv_at hl 0 rfl) ?_
  refine lv_aload_n hx hb dX6_init_16 rfl (lv_at hl 1 rfl) ?_
  refine va_get (D := X.1) (ci := 6) (v := .ref q1) (ref := "AbsentPraise$Past") (C := RX6) (T := TX6) (N := 3) hx hb hts hin_X6 hown hK hP 0 rfl rfl 0 (by decide) (hts _ (List.mem_of_getElem? (i := 5) rfl)) (fun _ h => h) rfl dX6_init_17 ?_
  refine va_alen hx hb hK hP (1 + t0.length) 3 (ty := .object "AbsentPraise$Talk") at_K rfl (v := 16) rfl dX6_init_20 ?_
  refine lv_icmp_ge (tgt := 43) hx hb dX6_init_21 (by decide) (fun c => absurd c (by decide)) (fun _ => ?_)
  refine lv_aload_n hx hb dX6_init_24 rfl (lv_at hl 1 rfl) ?_
  refine va_get (D := X.1) (ci := 6) (v := .ref q1) (ref := "AbsentPraise$Past") (C := RX6) (T := TX6) (N := 3) hx hb hts hin_X6 hown hK hP 0 rfl rfl 0 (by decide) (hts _ (List.mem_of_getElem? (i := 5) rfl)) (fun _ h => h) rfl dX6_init_25 ?_
  refine lv_iload_n hx hb dX6_init_28 rfl (lv_at hl 0 rfl) ?_
  refine va_new (ci := 7) (fs := [.null, .null, .null, .null, .int 0, .int 0]) (C := RX7) (T := TX7) (N := 6) hx hb hts hin_X7 tyX7 tyX7_ok hown (hts (.classLink RX6 9 RX7) (List.mem_of_getElem? (i := 4) rfl)) (hts (.instantiable RX7 6) (List.mem_of_getElem? (i := 6) rfl)) (hts (.initialized RX7) (List.mem_of_getElem? (i := 7) rfl)) hK hP hD hS hA rfl (fun j hj => by rcases (show j = 0 ∨ j = 1 ∨ j = 2 ∨ j = 3 ∨ j = 4 ∨ j = 5 by omega) with rfl | rfl | rfl | rfl | rfl | rfl <;> rfl) (Nat.le_of_ble_eq_true rfl) (Nat.le_of_ble_eq_true rfl) dX6_init_29 (fun q16 H hP hD hS => ?_)
  refine lv_dup hx hb dX6_init_32 rfl ?_
  refine xciN (ws0 := ((h, .inr (6, [.ref q1, .int 0, .int 0])) :: (t0 ++ ((q1, .inl (X.2.2.2.2.2, 16, .inr (.inr (.inr (.inr (va_up (va_up (va_up (va_up (va_up (va_up (va_up (va_up (va_up (va_up (va_up (va_up (va_up (va_up (fun _ => none) 0 (some q2)) 1 (some q3)) 2 (some q4)) 3 (some q5)) 4 (some q6)) 5 (some q7)) 6 (some q8)) 7 (some q9)) 8 (some q10)) 9 (some q11)) 10 (some q12)) 11 (some q13)) 12 (some q14)) 13 (some q15))))))) :: t1_14)))) (As := []) (rest := [.ref q16, .int 14, .ref q1]) ⟨hx, hb, hml, hown, hts⟩ hK hNC hP hD hS hA (k_X7_init l X q16 H.size) (va_cnB (host := "AbsentPraise") 0 hts gX6_init_X7_init_n17 rfl rfl rfl (hNC.1 4 _ rfl) (hts (.initialized RX7) (List.mem_of_getElem? (i := 7) rfl)) hs_X7_init ⟨Nat.le_of_ble_eq_true rfl, Nat.le_of_ble_eq_true rfl⟩) rfl (hts (.instanceMethod yX7_init) (List.mem_of_getElem? (i := 8) rfl)) rfl rfl hl.1 (Nat.le_of_ble_eq_true rfl) dX6_init_33 (Nat.le_of_ble_eq_true rfl) (Nat.le_of_ble_eq_true rfl) (fun u15 H locs hP hD hS => ?_)
  rw [app_K] at hP hD
  refine va_astq hx hb hK hP hD hS (1 + t0.length) 3 (1 + t0.length + 1 + t1_14.length) 7 (r := (RX7, TX7, 6)) at_K rfl at_V rfl (vp_lit (by decide)) dX6_init_36 (fun H locs hP hD hS => ?_)
  rw [set_K] at hP hD
  obtain ⟨t1_15, ht1_15⟩ : ∃ z : va_W, z = t1_14 ++ cw_X7 X q16 u15 := ⟨_, rfl⟩
  have hP : va_P X.1 vwCl ((h, .inr (6, [.ref q1, .int 0, .int 0])) :: (t0 ++ ((q1, .inl (X.2.2.2.2.2, 16, .inr (.inr (.inr (.inr (va_up (va_up (va_up (va_up (va_up (va_up (va_up (va_up (va_up (va_up (va_up (va_up (va_up (va_up (va_up (fun _ => none) 0 (some q2)) 1 (some q3)) 2 (some q4)) 3 (some q5)) 4 (some q6)) 5 (some q7)) 6 (some q8)) 7 (some q9)) 8 (some q10)) 9 (some q11)) 10 (some q12)) 11 (some q13)) 12 (some q14)) 13 (some q15)) 14 (some q16))))))) :: t1_15))) H := by rw [ht1_15]; exact hP
  have hD : va_D A ((h, .inr (6, [.ref q1, .int 0, .int 0])) :: (t0 ++ ((q1, .inl (X.2.2.2.2.2, 16, .inr (.inr (.inr (.inr (va_up (va_up (va_up (va_up (va_up (va_up (va_up (va_up (va_up (va_up (va_up (va_up (va_up (va_up (va_up (fun _ => none) 0 (some q2)) 1 (some q3)) 2 (some q4)) 3 (some q5)) 4 (some q6)) 5 (some q7)) 6 (some q8)) 7 (some q9)) 8 (some q10)) 9 (some q11)) 10 (some q12)) 11 (some q13)) 12 (some q14)) 13 (some q15)) 14 (some q16))))))) :: t1_15))) := by rw [ht1_15]; exact hD
  refine lv_iinc (v := 15) (lv' := [(1, .int 15), (0, .ref h)]) hx hb dX6_init_37 hl (k := 0) rfl (by decide) (by decide) rfl (fun ls hl => ?_)
  refine lv_goto (tgt := 15) hx hb dX6_init_40 (by decide) ?_
  refine lv_iload_n hx hb dX6_init_15 rfl (lv_at hl 0 rfl) ?_
  refine lv_aload_n hx hb dX6_init_16 rfl (lv_at hl 1 rfl) ?_
  refine va_get (D := X.1) (ci := 6) (v := .ref q1) (ref := "AbsentPraise$Past") (C := RX6) (T := TX6) (N := 3) hx hb hts hin_X6 hown hK hP 0 rfl rfl 0 (by decide) (hts _ (List.mem_of_getElem? (i := 5) rfl)) (fun _ h => h) rfl dX6_init_17 ?_
  refine va_alen hx hb hK hP (1 + t0.length) 3 (ty := .object "AbsentPraise$Talk") at_K rfl (v := 16) rfl dX6_init_20 ?_
  refine lv_icmp_ge (tgt := 43) hx hb dX6_init_21 (by decide) (fun c => absurd c (by decide)) (fun _ => ?_)
  refine lv_aload_n hx hb dX6_init_24 rfl (lv_at hl 1 rfl) ?_
  refine va_get (D := X.1) (ci := 6) (v := .ref q1) (ref := "AbsentPraise$Past") (C := RX6) (T := TX6) (N := 3) hx hb hts hin_X6 hown hK hP 0 rfl rfl 0 (by decide) (hts _ (List.mem_of_getElem? (i := 5) rfl)) (fun _ h => h) rfl dX6_init_25 ?_
  refine lv_iload_n hx hb dX6_init_28 rfl (lv_at hl 0 rfl) ?_
  refine va_new (ci := 7) (fs := [.null, .null, .null, .null, .int 0, .int 0]) (C := RX7) (T := TX7) (N := 6) hx hb hts hin_X7 tyX7 tyX7_ok hown (hts (.classLink RX6 9 RX7) (List.mem_of_getElem? (i := 4) rfl)) (hts (.instantiable RX7 6) (List.mem_of_getElem? (i := 6) rfl)) (hts (.initialized RX7) (List.mem_of_getElem? (i := 7) rfl)) hK hP hD hS hA rfl (fun j hj => by rcases (show j = 0 ∨ j = 1 ∨ j = 2 ∨ j = 3 ∨ j = 4 ∨ j = 5 by omega) with rfl | rfl | rfl | rfl | rfl | rfl <;> rfl) (Nat.le_of_ble_eq_true rfl) (Nat.le_of_ble_eq_true rfl) dX6_init_29 (fun q17 H hP hD hS => ?_)
  refine lv_dup hx hb dX6_init_32 rfl ?_
  refine xciN (ws0 := ((h, .inr (6, [.ref q1, .int 0, .int 0])) :: (t0 ++ ((q1, .inl (X.2.2.2.2.2, 16, .inr (.inr (.inr (.inr (va_up (va_up (va_up (va_up (va_up (va_up (va_up (va_up (va_up (va_up (va_up (va_up (va_up (va_up (va_up (fun _ => none) 0 (some q2)) 1 (some q3)) 2 (some q4)) 3 (some q5)) 4 (some q6)) 5 (some q7)) 6 (some q8)) 7 (some q9)) 8 (some q10)) 9 (some q11)) 10 (some q12)) 11 (some q13)) 12 (some q14)) 13 (some q15)) 14 (some q16))))))) :: t1_15)))) (As := []) (rest := [.ref q17, .int 15, .ref q1]) ⟨hx, hb, hml, hown, hts⟩ hK hNC hP hD hS hA (k_X7_init l X q17 H.size) (va_cnB (host := "AbsentPraise") 0 hts gX6_init_X7_init_n17 rfl rfl rfl (hNC.1 4 _ rfl) (hts (.initialized RX7) (List.mem_of_getElem? (i := 7) rfl)) hs_X7_init ⟨Nat.le_of_ble_eq_true rfl, Nat.le_of_ble_eq_true rfl⟩) rfl (hts (.instanceMethod yX7_init) (List.mem_of_getElem? (i := 8) rfl)) rfl rfl hl.1 (Nat.le_of_ble_eq_true rfl) dX6_init_33 (Nat.le_of_ble_eq_true rfl) (Nat.le_of_ble_eq_true rfl) (fun u16 H locs hP hD hS => ?_)
  rw [app_K] at hP hD
  refine va_astq hx hb hK hP hD hS (1 + t0.length) 3 (1 + t0.length + 1 + t1_15.length) 7 (r := (RX7, TX7, 6)) at_K rfl at_V rfl (vp_lit (by decide)) dX6_init_36 (fun H locs hP hD hS => ?_)
  rw [set_K] at hP hD
  obtain ⟨t1_16, ht1_16⟩ : ∃ z : va_W, z = t1_15 ++ cw_X7 X q17 u16 := ⟨_, rfl⟩
  have hP : va_P X.1 vwCl ((h, .inr (6, [.ref q1, .int 0, .int 0])) :: (t0 ++ ((q1, .inl (X.2.2.2.2.2, 16, .inr (.inr (.inr (.inr (va_up (va_up (va_up (va_up (va_up (va_up (va_up (va_up (va_up (va_up (va_up (va_up (va_up (va_up (va_up (va_up (fun _ => none) 0 (some q2)) 1 (some q3)) 2 (some q4)) 3 (some q5)) 4 (some q6)) 5 (some q7)) 6 (some q8)) 7 (some q9)) 8 (some q10)) 9 (some q11)) 10 (some q12)) 11 (some q13)) 12 (some q14)) 13 (some q15)) 14 (some q16)) 15 (some q17))))))) :: t1_16))) H := by rw [ht1_16]; exact hP
  have hD : va_D A ((h, .inr (6, [.ref q1, .int 0, .int 0])) :: (t0 ++ ((q1, .inl (X.2.2.2.2.2, 16, .inr (.inr (.inr (.inr (va_up (va_up (va_up (va_up (va_up (va_up (va_up (va_up (va_up (va_up (va_up (va_up (va_up (va_up (va_up (va_up (fun _ => none) 0 (some q2)) 1 (some q3)) 2 (some q4)) 3 (some q5)) 4 (some q6)) 5 (some q7)) 6 (some q8)) 7 (some q9)) 8 (some q10)) 9 (some q11)) 10 (some q12)) 11 (some q13)) 12 (some q14)) 13 (some q15)) 14 (some q16)) 15 (some q17))))))) :: t1_16))) := by rw [ht1_16]; exact hD
  refine lv_iinc (v := 16) (lv' := [(1, .int 16), (0, .ref h)]) hx hb dX6_init_37 hl (k := 0) rfl (by decide) (by decide) rfl (fun ls hl => ?_)
  refine lv_goto (tgt := 15) hx hb dX6_init_40 (by decide) ?_
  refine lv_iload_n hx hb dX6_init_15 rfl (lv_at hl 0 rfl) ?_
  refine lv_aload_n hx hb dX6_init_16 rfl (lv_at hl 1 rfl) ?_
  refine va_get (D := X.1) (ci := 6) (v := .ref q1) (ref := "AbsentPraise$Past") (C := RX6) (T := TX6) (N := 3) hx hb hts hin_X6 hown hK hP 0 rfl rfl 0 (by decide) (hts _ (List.mem_of_getElem? (i := 5) rfl)) (fun _ h => h) rfl dX6_init_17 ?_
  refine va_alen hx hb hK hP (1 + t0.length) 3 (ty := .object "AbsentPraise$Talk") at_K rfl (v := 16) rfl dX6_init_20 ?_
  refine lv_icmp_ge (tgt := 43) hx hb dX6_init_21 (by decide) (fun _ => ?_) (fun c => absurd (by decide) c)
  subst hAe
  subst ht1_0 ht1_1 ht1_2 ht1_3 ht1_4 ht1_5 ht1_6 ht1_7 ht1_8 ht1_9 ht1_10 ht1_11 ht1_12 ht1_13 ht1_14 ht1_15 ht1_16 ht0
  exact xcend (mkU [q1, q2, q3, q4, q5, q6, q7, q8, q9, q10, q11, q12, q13, q14, q15, q16, q17] [u1, u2, u3, u4, u5, u6, u7, u8, u9, u10, u11, u12, u13, u14, u15, u16]) hx hb hr hP hD hS rfl (Nat.le_of_ble_eq_true rfl) (Nat.le_of_ble_eq_true rfl) dX6_init_43 hlocks
def cw_X5 (X : xX) (h : Nat) (u : xU) : va_W := [(h, .inr (5, [.ref (u [0, 0]), .ref (u [0, 1]), .ref (u [0, 2]), .int 0]))] ++ [((u [0, 0]), .inl (X.2.2.1, 6, .inl (fun _ => 0)))] ++ [((u [0, 1]), .inl (X.2.2.1, 6, .inl (fun _ => 0)))] ++ [((u [0, 2]), .inl (X.2.2.1, 6, .inl (fun _ => 0)))]
theorem hs_X5_init : yX5_init.cls ≠ "java/lang/invoke/MethodHandle" ∧ yX5_init.cls ≠ "java/lang/invoke/VarHandle" ∧ (parseMethodDescriptor yX5_init.desc).map (fun d => d.parameters.length) = some 0 := by decide +kernel
set_option maxHeartbeats 8000000 in
set_option maxRecDepth 100000 in
theorem k_X5_init (l : Launch) (X : xX) (h : Nat) (sz : Nat) : Met l yX5_init wsX5_init ({ frames := 1, cells := 3, slots := 18, locals := 12 } : Room) (va_Pc [.ref h] (fun U => U.heap.size = sz ∧ xB X [(h, .inr (5, [.null, .null, .null, .int 0]))] U)) (xMade X sz h (.inr (5, [.null, .null, .null, .int 0])) (cw_X5 X h)) 3 18 (va_A [(h, .inr (5, [.null, .null, .null, .int 0]))] sz) := by
  refine Met.ofW (cc := cX5_init) (maxL := 1) (ret := none) (by decide) rfl ?_
  intro p e s m args below meth c s₁ B hml hv
  obtain ⟨rfl, hsz, hP, hK, hNC⟩ := hv
  have hx := B.exec
  have hb := B.bytes
  have hr := B.returns
  have hts := atoms_spec (ws := wsX5_init) B.pre
  have hown : s.vm.findClass RX5 = some m.cls := findClass_of_methodNamed B.named
  have hlocks := B.notSynchronized
  have hin : meth.name = "<init>" := (name_of_methodNamed B.named B.method).1
  subst hsz
  have hD0 : va_D (fun _ => True) [(h, (.inr (5, [.null, .null, .null, .int 0]) : va_E))] := vaD1
  have hD := hD0.self (sz := s.heap.size)
  generalize hAe : va_A [(h, (.inr (5, [.null, .null, .null, .int 0]) : va_E))] s.heap.size = A at hD
  have hA : ∀ q : Nat, s.heap.size ≤ q → A q := fun q h => by rw [← hAe]; exact Or.inr h
  have hS : va_S A s.heap s.heap [] := va_S.rf
  have hin_X5 : ∀ w ∈ u_ws RX5 TX5 4, w ∈ wsX5_init := by decide +kernel
  have hl := lv_entry ([.ref h]) (n := 1) (Nat.le_of_ble_eq_true rfl)
  rw [lg_entry_eq]
  generalize (lg_sl ([.ref h]) ++ List.replicate (1 - (lg_sl ([.ref h])).length) Slot.unset).toArray = ls at hl ⊢
  have hl : lv_has ls 1 [(0, .ref h)] := hl
  refine lv_aload_n hx hb dX5_init_0 rfl (lv_at hl 0 rfl) ?_
  refine W.objInit hx hb hown (hts (.methodLink RX5 3 objectInit) (List.mem_of_getElem? (i := 1) rfl)) (hts (.instanceMethod objectInit) (List.mem_of_getElem? (i := 2) rfl)) (hts (.code objectInit ⟨#[0xb1]⟩ 1 none) (List.mem_of_getElem? (i := 3) rfl)) rfl (by rw [hml]; exact hl.1) rfl dX5_init_1 (Nat.le_of_ble_eq_true rfl) (Nat.le_of_ble_eq_true rfl) ?_
  refine W.eq (g2 := F0 m 4 ls []) rfl ?_
  refine lv_aload_n hx hb dX5_init_4 rfl (lv_at hl 0 rfl) ?_
  refine lv_bipush (v := 6) hx hb dX5_init_5 (by decide) ?_
  refine xmkI hx hb (hts (.arrayClass .int) (List.mem_of_getElem? (i := 4) rfl)) hK hP hD hS hA 6 (by decide) (by decide) (by decide) (Nat.le_of_ble_eq_true rfl) (Nat.le_of_ble_eq_true rfl) dX5_init_7 (fun q1 H hP hD hS => ?_)
  refine va_putF (D := X.1) (ci := 5) (v := .ref q1) (ty := tyX5 0) (ref := "AbsentPraise$Notes") (C := RX5) (T := TX5) (N := 4) hx hb hts hin_X5 tyX5 tyX5_ok nmX5 hown hK hP hD hS 0 rfl rfl 0 (by decide) (hts _ (List.mem_of_getElem? (i := 5) rfl)) (fun _ h => h) rfl hin rfl rfl rfl rfl (Nat.le_of_ble_eq_true rfl) dX5_init_9 (fun H locs hP hD hS => ?_)
  have hP : va_P X.1 vwCl ([(h, .inr (5, [.ref q1, .null, .null, .int 0]))] ++ [(q1, .inl (X.2.2.1, 6, .inl (fun _ => 0)))]) H := hP
  have hD : va_D A ([(h, .inr (5, [.ref q1, .null, .null, .int 0]))] ++ [(q1, .inl (X.2.2.1, 6, .inl (fun _ => 0)))]) := hD
  refine lv_aload_n hx hb dX5_init_12 rfl (lv_at hl 0 rfl) ?_
  refine lv_bipush (v := 6) hx hb dX5_init_13 (by decide) ?_
  refine xmkI hx hb (hts (.arrayClass .int) (List.mem_of_getElem? (i := 4) rfl)) hK hP hD hS hA 6 (by decide) (by decide) (by decide) (Nat.le_of_ble_eq_true rfl) (Nat.le_of_ble_eq_true rfl) dX5_init_15 (fun q2 H hP hD hS => ?_)
  refine va_putF (D := X.1) (ci := 5) (v := .ref q2) (ty := tyX5 1) (ref := "AbsentPraise$Notes") (C := RX5) (T := TX5) (N := 4) hx hb hts hin_X5 tyX5 tyX5_ok nmX5 hown hK hP hD hS 0 rfl rfl 1 (by decide) (hts _ (List.mem_of_getElem? (i := 6) rfl)) (fun _ h => h) rfl hin rfl rfl rfl rfl (Nat.le_of_ble_eq_true rfl) dX5_init_17 (fun H locs hP hD hS => ?_)
  have hP : va_P X.1 vwCl ([(h, .inr (5, [.ref q1, .ref q2, .null, .int 0]))] ++ [(q1, .inl (X.2.2.1, 6, .inl (fun _ => 0)))] ++ [(q2, .inl (X.2.2.1, 6, .inl (fun _ => 0)))]) H := hP
  have hD : va_D A ([(h, .inr (5, [.ref q1, .ref q2, .null, .int 0]))] ++ [(q1, .inl (X.2.2.1, 6, .inl (fun _ => 0)))] ++ [(q2, .inl (X.2.2.1, 6, .inl (fun _ => 0)))]) := hD
  refine lv_aload_n hx hb dX5_init_20 rfl (lv_at hl 0 rfl) ?_
  refine lv_bipush (v := 6) hx hb dX5_init_21 (by decide) ?_
  refine xmkI hx hb (hts (.arrayClass .int) (List.mem_of_getElem? (i := 4) rfl)) hK hP hD hS hA 6 (by decide) (by decide) (by decide) (Nat.le_of_ble_eq_true rfl) (Nat.le_of_ble_eq_true rfl) dX5_init_23 (fun q3 H hP hD hS => ?_)
  refine va_putF (D := X.1) (ci := 5) (v := .ref q3) (ty := tyX5 2) (ref := "AbsentPraise$Notes") (C := RX5) (T := TX5) (N := 4) hx hb hts hin_X5 tyX5 tyX5_ok nmX5 hown hK hP hD hS 0 rfl rfl 2 (by decide) (hts _ (List.mem_of_getElem? (i := 7) rfl)) (fun _ h => h) rfl hin rfl rfl rfl rfl (Nat.le_of_ble_eq_true rfl) dX5_init_25 (fun H locs hP hD hS => ?_)
  have hP : va_P X.1 vwCl ([(h, .inr (5, [.ref q1, .ref q2, .ref q3, .int 0]))] ++ [(q1, .inl (X.2.2.1, 6, .inl (fun _ => 0)))] ++ [(q2, .inl (X.2.2.1, 6, .inl (fun _ => 0)))] ++ [(q3, .inl (X.2.2.1, 6, .inl (fun _ => 0)))]) H := hP
  have hD : va_D A ([(h, .inr (5, [.ref q1, .ref q2, .ref q3, .int 0]))] ++ [(q1, .inl (X.2.2.1, 6, .inl (fun _ => 0)))] ++ [(q2, .inl (X.2.2.1, 6, .inl (fun _ => 0)))] ++ [(q3, .inl (X.2.2.1, 6, .inl (fun _ => 0)))]) := hD
  subst hAe
  exact xcend (mkU [q1, q2, q3] []) hx hb hr hP hD hS rfl (Nat.le_of_ble_eq_true rfl) (Nat.le_of_ble_eq_true rfl) dX5_init_28 hlocks
def cw_X0 (X : xX) (h : Nat) (u : xU) : va_W := [(h, .inr (0, [.ref (u [0, 0]), .ref (u [0, 1]), .int 0]))] ++ [((u [0, 0]), .inl (X.2.2.1, 15, .inl (fun _ => 0)))] ++ [((u [0, 1]), .inl (X.2.2.1, 15, .inl (fun _ => 0)))]
theorem hs_X0_init : yX0_init.cls ≠ "java/lang/invoke/MethodHandle" ∧ yX0_init.cls ≠ "java/lang/invoke/VarHandle" ∧ (parseMethodDescriptor yX0_init.desc).map (fun d => d.parameters.length) = some 0 := by decide +kernel
set_option maxHeartbeats 8000000 in
set_option maxRecDepth 100000 in
theorem k_X0_init (l : Launch) (X : xX) (h : Nat) (sz : Nat) : Met l yX0_init wsX0_init ({ frames := 1, cells := 2, slots := 30, locals := 12 } : Room) (va_Pc [.ref h] (fun U => U.heap.size = sz ∧ xB X [(h, .inr (0, [.null, .null, .int 0]))] U)) (xMade X sz h (.inr (0, [.null, .null, .int 0])) (cw_X0 X h)) 2 30 (va_A [(h, .inr (0, [.null, .null, .int 0]))] sz) := by
  refine Met.ofW (cc := cX0_init) (maxL := 1) (ret := none) (by decide) rfl ?_
  intro p e s m args below meth c s₁ B hml hv
  obtain ⟨rfl, hsz, hP, hK, hNC⟩ := hv
  have hx := B.exec
  have hb := B.bytes
  have hr := B.returns
  have hts := atoms_spec (ws := wsX0_init) B.pre
  have hown : s.vm.findClass RX0 = some m.cls := findClass_of_methodNamed B.named
  have hlocks := B.notSynchronized
  have hin : meth.name = "<init>" := (name_of_methodNamed B.named B.method).1
  subst hsz
  have hD0 : va_D (fun _ => True) [(h, (.inr (0, [.null, .null, .int 0]) : va_E))] := vaD1
  have hD := hD0.self (sz := s.heap.size)
  generalize hAe : va_A [(h, (.inr (0, [.null, .null, .int 0]) : va_E))] s.heap.size = A at hD
  have hA : ∀ q : Nat, s.heap.size ≤ q → A q := fun q h => by rw [← hAe]; exact Or.inr h
  have hS : va_S A s.heap s.heap [] := va_S.rf
  have hin_X0 : ∀ w ∈ u_ws RX0 TX0 3, w ∈ wsX0_init := by decide +kernel
  have hl := lv_entry ([.ref h]) (n := 1) (Nat.le_of_ble_eq_true rfl)
  rw [lg_entry_eq]
  generalize (lg_sl ([.ref h]) ++ List.replicate (1 - (lg_sl ([.ref h])).length) Slot.unset).toArray = ls at hl ⊢
  have hl : lv_has ls 1 [(0, .ref h)] := hl
  refine lv_aload_n hx hb dX0_init_0 rfl (lv_at hl 0 rfl) ?_
  refine W.objInit hx hb hown (hts (.methodLink RX0 3 objectInit) (List.mem_of_getElem? (i := 1) rfl)) (hts (.instanceMethod objectInit) (List.mem_of_getElem? (i := 2) rfl)) (hts (.code objectInit ⟨#[0xb1]⟩ 1 none) (List.mem_of_getElem? (i := 3) rfl)) rfl (by rw [hml]; exact hl.1) rfl dX0_init_1 (Nat.le_of_ble_eq_true rfl) (Nat.le_of_ble_eq_true rfl) ?_
  refine W.eq (g2 := F0 m 4 ls []) rfl ?_
  refine lv_aload_n hx hb dX0_init_4 rfl (lv_at hl 0 rfl) ?_
  refine lv_bipush (v := 15) hx hb dX0_init_5 (by decide) ?_
  refine xmkI hx hb (hts (.arrayClass .int) (List.mem_of_getElem? (i := 4) rfl)) hK hP hD hS hA 15 (by decide) (by decide) (by decide) (Nat.le_of_ble_eq_true rfl) (Nat.le_of_ble_eq_true rfl) dX0_init_7 (fun q1 H hP hD hS => ?_)
  refine va_putF (D := X.1) (ci := 0) (v := .ref q1) (ty := tyX0 0) (ref := "AbsentPraise$Book") (C := RX0) (T := TX0) (N := 3) hx hb hts hin_X0 tyX0 tyX0_ok nmX0 hown hK hP hD hS 0 rfl rfl 0 (by decide) (hts _ (List.mem_of_getElem? (i := 5) rfl)) (fun _ h => h) rfl hin rfl rfl rfl rfl (Nat.le_of_ble_eq_true rfl) dX0_init_9 (fun H locs hP hD hS => ?_)
  have hP : va_P X.1 vwCl ([(h, .inr (0, [.ref q1, .null, .int 0]))] ++ [(q1, .inl (X.2.2.1, 15, .inl (fun _ => 0)))]) H := hP
  have hD : va_D A ([(h, .inr (0, [.ref q1, .null, .int 0]))] ++ [(q1, .inl (X.2.2.1, 15, .inl (fun _ => 0)))]) := hD
  refine lv_aload_n hx hb dX0_init_12 rfl (lv_at hl 0 rfl) ?_
  refine lv_bipush (v := 15) hx hb dX0_init_13 (by decide) ?_
  refine xmkI hx hb (hts (.arrayClass .int) (List.mem_of_getElem? (i := 4) rfl)) hK hP hD hS hA 15 (by decide) (by decide) (by decide) (Nat.le_of_ble_eq_true rfl) (Nat.le_of_ble_eq_true rfl) dX0_init_15 (fun q2 H hP hD hS => ?_)
  refine va_putF (D := X.1) (ci := 0) (v := .ref q2) (ty := tyX0 1) (ref := "AbsentPraise$Book") (C := RX0) (T := TX0) (N := 3) hx hb hts hin_X0 tyX0 tyX0_ok nmX0 hown hK hP hD hS 0 rfl rfl 1 (by decide) (hts _ (List.mem_of_getElem? (i := 6) rfl)) (fun _ h => h) rfl hin rfl rfl rfl rfl (Nat.le_of_ble_eq_true rfl) dX0_init_17 (fun H locs hP hD hS => ?_)
  have hP : va_P X.1 vwCl ([(h, .inr (0, [.ref q1, .ref q2, .int 0]))] ++ [(q1, .inl (X.2.2.1, 15, .inl (fun _ => 0)))] ++ [(q2, .inl (X.2.2.1, 15, .inl (fun _ => 0)))]) H := hP
  have hD : va_D A ([(h, .inr (0, [.ref q1, .ref q2, .int 0]))] ++ [(q1, .inl (X.2.2.1, 15, .inl (fun _ => 0)))] ++ [(q2, .inl (X.2.2.1, 15, .inl (fun _ => 0)))]) := hD
  subst hAe
  exact xcend (mkU [q1, q2] []) hx hb hr hP hD hS rfl (Nat.le_of_ble_eq_true rfl) (Nat.le_of_ble_eq_true rfl) dX0_init_20 hlocks
def cw_X1 (X : xX) (h : Nat) (u : xU) : va_W := [(h, .inr (1, [.int 0]))]
theorem hs_X1_init : yX1_init.cls ≠ "java/lang/invoke/MethodHandle" ∧ yX1_init.cls ≠ "java/lang/invoke/VarHandle" ∧ (parseMethodDescriptor yX1_init.desc).map (fun d => d.parameters.length) = some 0 := by decide +kernel
set_option maxHeartbeats 8000000 in
set_option maxRecDepth 100000 in
theorem k_X1_init (l : Launch) (X : xX) (h : Nat) (sz : Nat) : Met l yX1_init wsX1_init ({ frames := 1, cells := 0, slots := 0, locals := 12 } : Room) (va_Pc [.ref h] (fun U => U.heap.size = sz ∧ xB X [(h, .inr (1, [.int 0]))] U)) (xMade X sz h (.inr (1, [.int 0])) (cw_X1 X h)) 0 0 (va_A [(h, .inr (1, [.int 0]))] sz) := by
  refine Met.ofW (cc := cX1_init) (maxL := 1) (ret := none) (by decide) rfl ?_
  intro p e s m args below meth c s₁ B hml hv
  obtain ⟨rfl, hsz, hP, hK, hNC⟩ := hv
  have hx := B.exec
  have hb := B.bytes
  have hr := B.returns
  have hts := atoms_spec (ws := wsX1_init) B.pre
  have hown : s.vm.findClass RX1 = some m.cls := findClass_of_methodNamed B.named
  have hlocks := B.notSynchronized
  have hin : meth.name = "<init>" := (name_of_methodNamed B.named B.method).1
  subst hsz
  have hD0 : va_D (fun _ => True) [(h, (.inr (1, [.int 0]) : va_E))] := vaD1
  have hD := hD0.self (sz := s.heap.size)
  generalize hAe : va_A [(h, (.inr (1, [.int 0]) : va_E))] s.heap.size = A at hD
  have hA : ∀ q : Nat, s.heap.size ≤ q → A q := fun q h => by rw [← hAe]; exact Or.inr h
  have hS : va_S A s.heap s.heap [] := va_S.rf
  have hl := lv_entry ([.ref h]) (n := 1) (Nat.le_of_ble_eq_true rfl)
  rw [lg_entry_eq]
  generalize (lg_sl ([.ref h]) ++ List.replicate (1 - (lg_sl ([.ref h])).length) Slot.unset).toArray = ls at hl ⊢
  have hl : lv_has ls 1 [(0, .ref h)] := hl
  refine lv_aload_n hx hb dX1_init_0 rfl (lv_at hl 0 rfl) ?_
  refine W.objInit hx hb hown (hts (.methodLink RX1 1 objectInit) (List.mem_of_getElem? (i := 1) rfl)) (hts (.instanceMethod objectInit) (List.mem_of_getElem? (i := 2) rfl)) (hts (.code objectInit ⟨#[0xb1]⟩ 1 none) (List.mem_of_getElem? (i := 3) rfl)) rfl (by rw [hml]; exact hl.1) rfl dX1_init_1 (Nat.le_of_ble_eq_true rfl) (Nat.le_of_ble_eq_true rfl) ?_
  refine W.eq (g2 := F0 m 4 ls []) rfl ?_
  subst hAe
  exact xcend (mkU [] []) hx hb hr hP hD hS rfl (Nat.le_of_ble_eq_true rfl) (Nat.le_of_ble_eq_true rfl) dX1_init_4 hlocks
def cw_X3 (X : xX) (h : Nat) (u : xU) : va_W := [(h, .inr (3, [.ref (u [0, 0]), .int 0, .int 0]))] ++ cw_X7 X (u [0, 0]) (fun p => u (1 :: p))
theorem hs_X3_init : yX3_init.cls ≠ "java/lang/invoke/MethodHandle" ∧ yX3_init.cls ≠ "java/lang/invoke/VarHandle" ∧ (parseMethodDescriptor yX3_init.desc).map (fun d => d.parameters.length) = some 0 := by decide +kernel
set_option maxHeartbeats 8000000 in
set_option maxRecDepth 100000 in
theorem k_X3_init (l : Launch) (X : xX) (h : Nat) (sz : Nat) : Met l yX3_init wsX3_init ({ frames := 2, cells := 5, slots := 76, locals := 32 } : Room) (va_Pc [.ref h] (fun U => U.heap.size = sz ∧ xB X [(h, .inr (3, [.null, .int 0, .int 0]))] U)) (xMade X sz h (.inr (3, [.null, .int 0, .int 0])) (cw_X3 X h)) 5 76 (va_A [(h, .inr (3, [.null, .int 0, .int 0]))] sz) := by
  refine Met.ofW (cc := cX3_init) (maxL := 1) (ret := none) (by decide) rfl ?_
  intro p e s m args below meth c s₁ B hml hv
  obtain ⟨rfl, hsz, hP, hK, hNC⟩ := hv
  have hx := B.exec
  have hb := B.bytes
  have hr := B.returns
  have hts := atoms_spec (ws := wsX3_init) B.pre
  have hown : s.vm.findClass RX3 = some m.cls := findClass_of_methodNamed B.named
  have hlocks := B.notSynchronized
  have hin : meth.name = "<init>" := (name_of_methodNamed B.named B.method).1
  subst hsz
  have hD0 : va_D (fun _ => True) [(h, (.inr (3, [.null, .int 0, .int 0]) : va_E))] := vaD1
  have hD := hD0.self (sz := s.heap.size)
  generalize hAe : va_A [(h, (.inr (3, [.null, .int 0, .int 0]) : va_E))] s.heap.size = A at hD
  have hA : ∀ q : Nat, s.heap.size ≤ q → A q := fun q h => by rw [← hAe]; exact Or.inr h
  have hS : va_S A s.heap s.heap [] := va_S.rf
  have hin_X3 : ∀ w ∈ u_ws RX3 TX3 3, w ∈ wsX3_init := by decide +kernel
  have hin_X7 : ∀ w ∈ u_ws RX7 TX7 6, w ∈ wsX3_init := by decide +kernel
  have hl := lv_entry ([.ref h]) (n := 1) (Nat.le_of_ble_eq_true rfl)
  rw [lg_entry_eq]
  generalize (lg_sl ([.ref h]) ++ List.replicate (1 - (lg_sl ([.ref h])).length) Slot.unset).toArray = ls at hl ⊢
  have hl : lv_has ls 1 [(0, .ref h)] := hl
  refine lv_aload_n hx hb dX3_init_0 rfl (lv_at hl 0 rfl) ?_
  refine W.objInit hx hb hown (hts (.methodLink RX3 1 objectInit) (List.mem_of_getElem? (i := 1) rfl)) (hts (.instanceMethod objectInit) (List.mem_of_getElem? (i := 2) rfl)) (hts (.code objectInit ⟨#[0xb1]⟩ 1 none) (List.mem_of_getElem? (i := 3) rfl)) rfl (by rw [hml]; exact hl.1) rfl dX3_init_1 (Nat.le_of_ble_eq_true rfl) (Nat.le_of_ble_eq_true rfl) ?_
  refine W.eq (g2 := F0 m 4 ls []) rfl ?_
  refine lv_aload_n hx hb dX3_init_4 rfl (lv_at hl 0 rfl) ?_
  refine va_new (ci := 7) (fs := [.null, .null, .null, .null, .int 0, .int 0]) (C := RX7) (T := TX7) (N := 6) hx hb hts hin_X7 tyX7 tyX7_ok hown (hts (.classLink RX3 7 RX7) (List.mem_of_getElem? (i := 4) rfl)) (hts (.instantiable RX7 6) (List.mem_of_getElem? (i := 5) rfl)) (hts (.initialized RX7) (List.mem_of_getElem? (i := 6) rfl)) hK hP hD hS hA rfl (fun j hj => by rcases (show j = 0 ∨ j = 1 ∨ j = 2 ∨ j = 3 ∨ j = 4 ∨ j = 5 by omega) with rfl | rfl | rfl | rfl | rfl | rfl <;> rfl) (Nat.le_of_ble_eq_true rfl) (Nat.le_of_ble_eq_true rfl) dX3_init_5 (fun q1 H hP hD hS => ?_)
  refine lv_dup hx hb dX3_init_8 rfl ?_
  refine xciN (ws0 := [(h, .inr (3, [.null, .int 0, .int 0]))]) (As := []) (rest := [.ref q1, .ref h]) ⟨hx, hb, hml, hown, hts⟩ hK hNC hP hD hS hA (k_X7_init l X q1 H.size) (va_cnB (host := "AbsentPraise") 0 hts gX3_init_X7_init_n9 rfl rfl rfl (hNC.1 9 _ rfl) (hts (.initialized RX7) (List.mem_of_getElem? (i := 6) rfl)) hs_X7_init ⟨Nat.le_of_ble_eq_true rfl, Nat.le_of_ble_eq_true rfl⟩) rfl (hts (.instanceMethod yX7_init) (List.mem_of_getElem? (i := 8) rfl)) rfl rfl hl.1 (Nat.le_of_ble_eq_true rfl) dX3_init_9 (Nat.le_of_ble_eq_true rfl) (Nat.le_of_ble_eq_true rfl) (fun u1 H locs hP hD hS => ?_)
  refine va_putF (D := X.1) (ci := 3) (v := .ref q1) (ty := tyX3 0) (ref := "AbsentPraise$Image") (C := RX3) (T := TX3) (N := 3) hx hb hts hin_X3 tyX3 tyX3_ok nmX3 hown hK hP hD hS 0 rfl rfl 0 (by decide) (hts _ (List.mem_of_getElem? (i := 7) rfl)) (fun _ h => h) rfl hin rfl rfl rfl rfl (Nat.le_of_ble_eq_true rfl) dX3_init_12 (fun H locs hP hD hS => ?_)
  have hP : va_P X.1 vwCl ([(h, .inr (3, [.ref q1, .int 0, .int 0]))] ++ cw_X7 X q1 u1) H := hP
  have hD : va_D A ([(h, .inr (3, [.ref q1, .int 0, .int 0]))] ++ cw_X7 X q1 u1) := hD
  subst hAe
  exact xcend (mkU [q1] [u1]) hx hb hr hP hD hS rfl (Nat.le_of_ble_eq_true rfl) (Nat.le_of_ble_eq_true rfl) dX3_init_15 hlocks
