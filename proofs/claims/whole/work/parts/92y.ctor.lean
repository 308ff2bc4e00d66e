set_option linter.all false
def cw_X11 (X : xX) (h : Nat) (u : xU) : va_W := (h, .inr (11, [.int 0, .int 0, .int 0, .int 0, .ref (u [0, 0]), .ref (u [0, 1]), .int 0, .ref (u [0, 2]), .ref (u [0, 3]), .ref (u [0, 4]), .int 0, .int 0, .ref (u [0, 5]), .ref (u [0, 6]), .ref (u [0, 7]), .int 0, .ref (u [0, 8]), .ref (u [0, 9]), .ref (u [0, 10]), .int 0, .int (-1), .int 0, .int 0, .int 0, .int 0, .int 0, .int 0, .int 0, .ref (u [0, 11]), .ref (u [0, 12]), .int 0, .ref (u [0, 13]), .ref (u [0, 14]), .int 0, .ref (u [0, 15]), .int 0, .int 0, .ref (u [0, 16]), .ref (u [0, 17]), .ref (u [0, 18]), .ref (u [0, 19])])) :: ((((((((((((((((((((([] : va_W) ++ [((u [0, 0]), .inl (X.2.2.1, 6, .inl (fun _ => 0)))]) ++ [((u [0, 1]), .inl (X.2.2.1, 6, .inl (fun _ => 0)))]) ++ [((u [0, 2]), .inl (X.2.2.1, 7, .inl (fun _ => 0)))]) ++ [((u [0, 3]), .inl (X.2.2.1, 72, .inl (fun _ => 0)))]) ++ [((u [0, 4]), .inl (X.2.2.1, 72, .inl (fun _ => 0)))]) ++ [((u [0, 5]), .inl (X.2.2.1, 6, .inl (fun _ => 0)))]) ++ [((u [0, 6]), .inl (X.2.2.1, 6, .inl (fun _ => 0)))]) ++ [((u [0, 7]), .inl (X.2.2.1, 6, .inl (fun _ => 0)))]) ++ [((u [0, 8]), .inl (X.2.2.1, 15, .inl (fun _ => 0)))]) ++ [((u [0, 9]), .inl (X.2.2.1, 15, .inl (fun _ => 0)))]) ++ [((u [0, 10]), .inl (X.2.2.1, 240, .inl (fun _ => 0)))]) ++ [((u [0, 11]), .inl (X.2.2.1, 6, .inl (fun _ => 0)))]) ++ [((u [0, 12]), .inl (X.2.2.1, 6, .inl (fun _ => 0)))]) ++ [((u [0, 13]), .inl (X.2.2.1, 7, .inl (fun _ => 0)))]) ++ [((u [0, 14]), .inl (X.2.2.1, 7, .inl (fun _ => 0)))]) ++ [((u [0, 15]), .inl (X.2.2.1, 49, .inl (fun _ => 0)))]) ++ [((u [0, 16]), .inl (X.2.2.1, 1152, .inl (fun _ => 0)))]) ++ [((u [0, 17]), .inl (X.2.2.1, 54, .inl (fun _ => 0)))]) ++ [((u [0, 18]), .inl (X.2.2.1, 146, .inl (fun _ => 0)))]) ++ [((u [0, 19]), .inl (X.2.2.2.1, 2, .inl (fun _ => 0)))])
theorem hs_X11_init : yX11_init.cls ≠ "java/lang/invoke/MethodHandle" ∧ yX11_init.cls ≠ "java/lang/invoke/VarHandle" ∧ (parseMethodDescriptor yX11_init.desc).map (fun d => d.parameters.length) = some 0 := by decide +kernel
set_option maxHeartbeats 1000000 in
set_option maxRecDepth 10000 in
theorem fs_fin (q1 q2 q3 q4 q5 q6 q7 q8 q9 q10 q11 q12 q13 q14 q15 q16 q17 q18 q19 q20 : Nat) : ((((((((((((((((((((((([.int 0, .int 0, .int 0, .int 0, .null, .null, .int 0, .null, .null, .null, .int 0, .int 0, .null, .null, .null, .int 0, .null, .null, .null, .int 0, .int 0, .int 0, .int 0, .int 0, .int 0, .int 0, .int 0, .int 0, .null, .null, .int 0, .null, .null, .int 0, .null, .int 0, .int 0, .null, .null, .null, .null] : List Value)).set 4 (.ref q1)).set 5 (.ref q2)).set 7 (.ref q3)).set 8 (.ref q4)).set 9 (.ref q5)).set 12 (.ref q6)).set 13 (.ref q7)).set 14 (.ref q8)).set 16 (.ref q9)).set 17 (.ref q10)).set 18 (.ref q11)).set 20 (.int (-1))).set 28 (.ref q12)).set 29 (.ref q13)).set 31 (.ref q14)).set 32 (.ref q15)).set 34 (.ref q16)).set 37 (.ref q17)).set 38 (.ref q18)).set 39 (.ref q19)).set 40 (.ref q20)).set 0 (.int 0) = [.int 0, .int 0, .int 0, .int 0, .ref q1, .ref q2, .int 0, .ref q3, .ref q4, .ref q5, .int 0, .int 0, .ref q6, .ref q7, .ref q8, .int 0, .ref q9, .ref q10, .ref q11, .int 0, .int (-1), .int 0, .int 0, .int 0, .int 0, .int 0, .int 0, .int 0, .ref q12, .ref q13, .int 0, .ref q14, .ref q15, .int 0, .ref q16, .int 0, .int 0, .ref q17, .ref q18, .ref q19, .ref q20] := by
  simp only [List.set_cons_zero, List.set_cons_succ]
theorem eu_0 (q1 q2 q3 q4 q5 q6 q7 q8 q9 q10 q11 q12 q13 q14 q15 q16 q17 q18 q19 q20 : Nat) : mkU [q1, q2, q3, q4, q5, q6, q7, q8, q9, q10, q11, q12, q13, q14, q15, q16, q17, q18, q19, q20] [] [0, 0] = q1 := rfl
theorem eu_1 (q1 q2 q3 q4 q5 q6 q7 q8 q9 q10 q11 q12 q13 q14 q15 q16 q17 q18 q19 q20 : Nat) : mkU [q1, q2, q3, q4, q5, q6, q7, q8, q9, q10, q11, q12, q13, q14, q15, q16, q17, q18, q19, q20] [] [0, 1] = q2 := rfl
theorem eu_2 (q1 q2 q3 q4 q5 q6 q7 q8 q9 q10 q11 q12 q13 q14 q15 q16 q17 q18 q19 q20 : Nat) : mkU [q1, q2, q3, q4, q5, q6, q7, q8, q9, q10, q11, q12, q13, q14, q15, q16, q17, q18, q19, q20] [] [0, 2] = q3 := rfl
theorem eu_3 (q1 q2 q3 q4 q5 q6 q7 q8 q9 q10 q11 q12 q13 q14 q15 q16 q17 q18 q19 q20 : Nat) : mkU [q1, q2, q3, q4, q5, q6, q7, q8, q9, q10, q11, q12, q13, q14, q15, q16, q17, q18, q19, q20] [] [0, 3] = q4 := rfl
theorem eu_4 (q1 q2 q3 q4 q5 q6 q7 q8 q9 q10 q11 q12 q13 q14 q15 q16 q17 q18 q19 q20 : Nat) : mkU [q1, q2, q3, q4, q5, q6, q7, q8, q9, q10, q11, q12, q13, q14, q15, q16, q17, q18, q19, q20] [] [0, 4] = q5 := rfl
theorem eu_5 (q1 q2 q3 q4 q5 q6 q7 q8 q9 q10 q11 q12 q13 q14 q15 q16 q17 q18 q19 q20 : Nat) : mkU [q1, q2, q3, q4, q5, q6, q7, q8, q9, q10, q11, q12, q13, q14, q15, q16, q17, q18, q19, q20] [] [0, 5] = q6 := rfl
theorem eu_6 (q1 q2 q3 q4 q5 q6 q7 q8 q9 q10 q11 q12 q13 q14 q15 q16 q17 q18 q19 q20 : Nat) : mkU [q1, q2, q3, q4, q5, q6, q7, q8, q9, q10, q11, q12, q13, q14, q15, q16, q17, q18, q19, q20] [] [0, 6] = q7 := rfl
theorem eu_7 (q1 q2 q3 q4 q5 q6 q7 q8 q9 q10 q11 q12 q13 q14 q15 q16 q17 q18 q19 q20 : Nat) : mkU [q1, q2, q3, q4, q5, q6, q7, q8, q9, q10, q11, q12, q13, q14, q15, q16, q17, q18, q19, q20] [] [0, 7] = q8 := rfl
theorem eu_8 (q1 q2 q3 q4 q5 q6 q7 q8 q9 q10 q11 q12 q13 q14 q15 q16 q17 q18 q19 q20 : Nat) : mkU [q1, q2, q3, q4, q5, q6, q7, q8, q9, q10, q11, q12, q13, q14, q15, q16, q17, q18, q19, q20] [] [0, 8] = q9 := rfl
theorem eu_9 (q1 q2 q3 q4 q5 q6 q7 q8 q9 q10 q11 q12 q13 q14 q15 q16 q17 q18 q19 q20 : Nat) : mkU [q1, q2, q3, q4, q5, q6, q7, q8, q9, q10, q11, q12, q13, q14, q15, q16, q17, q18, q19, q20] [] [0, 9] = q10 := rfl
theorem eu_10 (q1 q2 q3 q4 q5 q6 q7 q8 q9 q10 q11 q12 q13 q14 q15 q16 q17 q18 q19 q20 : Nat) : mkU [q1, q2, q3, q4, q5, q6, q7, q8, q9, q10, q11, q12, q13, q14, q15, q16, q17, q18, q19, q20] [] [0, 10] = q11 := rfl
theorem eu_11 (q1 q2 q3 q4 q5 q6 q7 q8 q9 q10 q11 q12 q13 q14 q15 q16 q17 q18 q19 q20 : Nat) : mkU [q1, q2, q3, q4, q5, q6, q7, q8, q9, q10, q11, q12, q13, q14, q15, q16, q17, q18, q19, q20] [] [0, 11] = q12 := rfl
theorem eu_12 (q1 q2 q3 q4 q5 q6 q7 q8 q9 q10 q11 q12 q13 q14 q15 q16 q17 q18 q19 q20 : Nat) : mkU [q1, q2, q3, q4, q5, q6, q7, q8, q9, q10, q11, q12, q13, q14, q15, q16, q17, q18, q19, q20] [] [0, 12] = q13 := rfl
theorem eu_13 (q1 q2 q3 q4 q5 q6 q7 q8 q9 q10 q11 q12 q13 q14 q15 q16 q17 q18 q19 q20 : Nat) : mkU [q1, q2, q3, q4, q5, q6, q7, q8, q9, q10, q11, q12, q13, q14, q15, q16, q17, q18, q19, q20] [] [0, 13] = q14 := rfl
theorem eu_14 (q1 q2 q3 q4 q5 q6 q7 q8 q9 q10 q11 q12 q13 q14 q15 q16 q17 q18 q19 q20 : Nat) : mkU [q1, q2, q3, q4, q5, q6, q7, q8, q9, q10, q11, q12, q13, q14, q15, q16, q17, q18, q19, q20] [] [0, 14] = q15 := rfl
theorem eu_15 (q1 q2 q3 q4 q5 q6 q7 q8 q9 q10 q11 q12 q13 q14 q15 q16 q17 q18 q19 q20 : Nat) : mkU [q1, q2, q3, q4, q5, q6, q7, q8, q9, q10, q11, q12, q13, q14, q15, q16, q17, q18, q19, q20] [] [0, 15] = q16 := rfl
theorem eu_16 (q1 q2 q3 q4 q5 q6 q7 q8 q9 q10 q11 q12 q13 q14 q15 q16 q17 q18 q19 q20 : Nat) : mkU [q1, q2, q3, q4, q5, q6, q7, q8, q9, q10, q11, q12, q13, q14, q15, q16, q17, q18, q19, q20] [] [0, 16] = q17 := rfl
theorem eu_17 (q1 q2 q3 q4 q5 q6 q7 q8 q9 q10 q11 q12 q13 q14 q15 q16 q17 q18 q19 q20 : Nat) : mkU [q1, q2, q3, q4, q5, q6, q7, q8, q9, q10, q11, q12, q13, q14, q15, q16, q17, q18, q19, q20] [] [0, 17] = q18 := rfl
theorem eu_18 (q1 q2 q3 q4 q5 q6 q7 q8 q9 q10 q11 q12 q13 q14 q15 q16 q17 q18 q19 q20 : Nat) : mkU [q1, q2, q3, q4, q5, q6, q7, q8, q9, q10, q11, q12, q13, q14, q15, q16, q17, q18, q19, q20] [] [0, 18] = q19 := rfl
theorem eu_19 (q1 q2 q3 q4 q5 q6 q7 q8 q9 q10 q11 q12 q13 q14 q15 q16 q17 q18 q19 q20 : Nat) : mkU [q1, q2, q3, q4, q5, q6, q7, q8, q9, q10, q11, q12, q13, q14, q15, q16, q17, q18, q19, q20] [] [0, 19] = q20 := rfl
set_option maxHeartbeats 1000000 in
set_option maxRecDepth 10000 in
theorem tt_fin (X : xX) (h : Nat) (q1 q2 q3 q4 q5 q6 q7 q8 q9 q10 q11 q12 q13 q14 q15 q16 q17 q18 q19 q20 : Nat) (U : xU) (eu_0 : U [0, 0] = q1) (eu_1 : U [0, 1] = q2) (eu_2 : U [0, 2] = q3) (eu_3 : U [0, 3] = q4) (eu_4 : U [0, 4] = q5) (eu_5 : U [0, 5] = q6) (eu_6 : U [0, 6] = q7) (eu_7 : U [0, 7] = q8) (eu_8 : U [0, 8] = q9) (eu_9 : U [0, 9] = q10) (eu_10 : U [0, 10] = q11) (eu_11 : U [0, 11] = q12) (eu_12 : U [0, 12] = q13) (eu_13 : U [0, 13] = q14) (eu_14 : U [0, 14] = q15) (eu_15 : U [0, 15] = q16) (eu_16 : U [0, 16] = q17) (eu_17 : U [0, 17] = q18) (eu_18 : U [0, 18] = q19) (eu_19 : U [0, 19] = q20) : ((h, (Sum.inr (11, [.int 0, .int 0, .int 0, .int 0, .ref q1, .ref q2, .int 0, .ref q3, .ref q4, .ref q5, .int 0, .int 0, .ref q6, .ref q7, .ref q8, .int 0, .ref q9, .ref q10, .ref q11, .int 0, .int (-1), .int 0, .int 0, .int 0, .int 0, .int 0, .int 0, .int 0, .ref q12, .ref q13, .int 0, .ref q14, .ref q15, .int 0, .ref q16, .int 0, .int 0, .ref q17, .ref q18, .ref q19, .ref q20]) : va_E)) :: ((((((((((((((((((((([] : va_W) ++ [(q1, .inl (X.2.2.1, 6, .inl (fun _ => 0)))]) ++ [(q2, .inl (X.2.2.1, 6, .inl (fun _ => 0)))]) ++ [(q3, .inl (X.2.2.1, 7, .inl (fun _ => 0)))]) ++ [(q4, .inl (X.2.2.1, 72, .inl (fun _ => 0)))]) ++ [(q5, .inl (X.2.2.1, 72, .inl (fun _ => 0)))]) ++ [(q6, .inl (X.2.2.1, 6, .inl (fun _ => 0)))]) ++ [(q7, .inl (X.2.2.1, 6, .inl (fun _ => 0)))]) ++ [(q8, .inl (X.2.2.1, 6, .inl (fun _ => 0)))]) ++ [(q9, .inl (X.2.2.1, 15, .inl (fun _ => 0)))]) ++ [(q10, .inl (X.2.2.1, 15, .inl (fun _ => 0)))]) ++ [(q11, .inl (X.2.2.1, 240, .inl (fun _ => 0)))]) ++ [(q12, .inl (X.2.2.1, 6, .inl (fun _ => 0)))]) ++ [(q13, .inl (X.2.2.1, 6, .inl (fun _ => 0)))]) ++ [(q14, .inl (X.2.2.1, 7, .inl (fun _ => 0)))]) ++ [(q15, .inl (X.2.2.1, 7, .inl (fun _ => 0)))]) ++ [(q16, .inl (X.2.2.1, 49, .inl (fun _ => 0)))]) ++ [(q17, .inl (X.2.2.1, 1152, .inl (fun _ => 0)))]) ++ [(q18, .inl (X.2.2.1, 54, .inl (fun _ => 0)))]) ++ [(q19, .inl (X.2.2.1, 146, .inl (fun _ => 0)))]) ++ [(q20, .inl (X.2.2.2.1, 2, .inl (fun _ => 0)))]) : va_W) = cw_X11 X h U := by
  unfold cw_X11
  rw [eu_0, eu_1, eu_2, eu_3, eu_4, eu_5, eu_6, eu_7, eu_8, eu_9, eu_10, eu_11, eu_12, eu_13, eu_14, eu_15, eu_16, eu_17, eu_18, eu_19]
set_option maxHeartbeats 4000000 in
set_option maxRecDepth 100000 in
theorem k_X11_init (l : Launch) (X : xX) (h : Nat) (sz : Nat) : Met l yX11_init wsX11_init ({ frames := 1, cells := 20, slots := 1880, locals := 12 } : Room) (va_Pc [.ref h] (fun U => U.heap.size = sz ∧ xB X [(h, .inr (11, [.int 0, .int 0, .int 0, .int 0, .null, .null, .int 0, .null, .null, .null, .int 0, .int 0, .null, .null, .null, .int 0, .null, .null, .null, .int 0, .int 0, .int 0, .int 0, .int 0, .int 0, .int 0, .int 0, .int 0, .null, .null, .int 0, .null, .null, .int 0, .null, .int 0, .int 0, .null, .null, .null, .null]))] U)) (xMade X sz h (.inr (11, [.int 0, .int 0, .int 0, .int 0, .null, .null, .int 0, .null, .null, .null, .int 0, .int 0, .null, .null, .null, .int 0, .null, .null, .null, .int 0, .int 0, .int 0, .int 0, .int 0, .int 0, .int 0, .int 0, .int 0, .null, .null, .int 0, .null, .null, .int 0, .null, .int 0, .int 0, .null, .null, .null, .null])) (cw_X11 X h)) 20 1880 (va_A [(h, .inr (11, [.int 0, .int 0, .int 0, .int 0, .null, .null, .int 0, .null, .null, .null, .int 0, .int 0, .null, .null, .null, .int 0, .null, .null, .null, .int 0, .int 0, .int 0, .int 0, .int 0, .int 0, .int 0, .int 0, .int 0, .null, .null, .int 0, .null, .null, .int 0, .null, .int 0, .int 0, .null, .null, .null, .null]))] sz) := by
  refine Met.ofW (cc := cX11_init) (maxL := 1) (ret := none) (by decide) rfl ?_
  intro p e s m args below meth c s₁ B hml hv
  obtain ⟨rfl, hsz, hP, hK, hNC⟩ := hv
  have hx := B.exec
  have hb := B.bytes
  have hr := B.returns
  have hts := atoms_spec (ws := wsX11_init) B.pre
  have hown : s.vm.findClass RX11 = some m.cls := findClass_of_methodNamed B.named
  have hlocks := B.notSynchronized
  have hin : meth.name = "<init>" := (name_of_methodNamed B.named B.method).1
  subst hsz
  have hD0 : va_D (fun _ => True) [(h, (.inr (11, [.int 0, .int 0, .int 0, .int 0, .null, .null, .int 0, .null, .null, .null, .int 0, .int 0, .null, .null, .null, .int 0, .null, .null, .null, .int 0, .int 0, .int 0, .int 0, .int 0, .int 0, .int 0, .int 0, .int 0, .null, .null, .int 0, .null, .null, .int 0, .null, .int 0, .int 0, .null, .null, .null, .null]) : va_E))] := vaD1
  have hD := hD0.self (sz := s.heap.size)
  generalize hAe : va_A [(h, (.inr (11, [.int 0, .int 0, .int 0, .int 0, .null, .null, .int 0, .null, .null, .null, .int 0, .int 0, .null, .null, .null, .int 0, .null, .null, .null, .int 0, .int 0, .int 0, .int 0, .int 0, .int 0, .int 0, .int 0, .int 0, .null, .null, .int 0, .null, .null, .int 0, .null, .int 0, .int 0, .null, .null, .null, .null]) : va_E))] s.heap.size = A at hD
  have hA : ∀ q : Nat, s.heap.size ≤ q → A q := fun q h => by rw [← hAe]; exact Or.inr h
  have hS : va_S A s.heap s.heap [] := va_S.rf
  have hin_X11 : ∀ w ∈ u_ws RX11 TX11 41, w ∈ wsX11_init := by decide +kernel
  have hl := lv_entry ([.ref h]) (n := 1) (Nat.le_of_ble_eq_true rfl)
  rw [lg_entry_eq]
  generalize (lg_sl ([.ref h]) ++ List.replicate (1 - (lg_sl ([.ref h])).length) Slot.unset).toArray = ls at hl ⊢
  have hl : lv_has ls 1 [(0, .ref h)] := hl
  obtain ⟨tt_0, htt_0⟩ : ∃ z : va_W, z = [] := ⟨_, rfl⟩
  obtain ⟨fs_0, hfs_0⟩ : ∃ z : List Value, z = [.int 0, .int 0, .int 0, .int 0, .null, .null, .int 0, .null, .null, .null, .int 0, .int 0, .null, .null, .null, .int 0, .null, .null, .null, .int 0, .int 0, .int 0, .int 0, .int 0, .int 0, .int 0, .int 0, .int 0, .null, .null, .int 0, .null, .null, .int 0, .null, .int 0, .int 0, .null, .null, .null, .null] := ⟨_, rfl⟩
  have hlen_0 : fs_0.length = 41 := by rw [hfs_0]; rfl
  have hP : va_P X.1 vwCl ((h, .inr (11, fs_0)) :: tt_0) s.heap := by rw [htt_0, hfs_0]; exact hP
  have hD : va_D A ((h, .inr (11, fs_0)) :: tt_0) := by rw [htt_0, hfs_0]; exact hD
  refine lv_aload_n hx hb dX11_init_0 rfl (lv_at hl 0 rfl) ?_
  refine W.objInit hx hb hown (hts (.methodLink RX11 1 objectInit) (List.mem_of_getElem? (i := 1) rfl)) (hts (.instanceMethod objectInit) (List.mem_of_getElem? (i := 2) rfl)) (hts (.code objectInit ⟨#[0xb1]⟩ 1 none) (List.mem_of_getElem? (i := 3) rfl)) rfl (by rw [hml]; exact hl.1) rfl dX11_init_1 (Nat.le_of_ble_eq_true rfl) (Nat.le_of_ble_eq_true rfl) ?_
  refine W.eq (g2 := F0 m 4 ls []) rfl ?_
  refine lv_aload_n hx hb dX11_init_4 rfl (lv_at hl 0 rfl) ?_
  refine lv_bipush (v := 6) hx hb dX11_init_5 (by decide) ?_
  refine xmkI hx hb (hts (.arrayClass .int) (List.mem_of_getElem? (i := 4) rfl)) hK hP hD hS hA 6 (by decide) (by decide) (by decide) (Nat.le_of_ble_eq_true rfl) (Nat.le_of_ble_eq_true rfl) dX11_init_7 (fun q1 H hP hD hS => ?_)
  obtain ⟨tt_1, htt_1⟩ : ∃ z : va_W, z = tt_0 ++ [(q1, .inl (X.2.2.1, 6, .inl (fun _ => 0)))] := ⟨_, rfl⟩
  have hP : va_P X.1 vwCl ((h, .inr (11, fs_0)) :: tt_1) H := by rw [htt_1]; exact hP
  have hD : va_D A ((h, .inr (11, fs_0)) :: tt_1) := by rw [htt_1]; exact hD
  refine va_putF (D := X.1) (ci := 11) (v := .ref q1) (ty := tyX11 4) (ref := "AbsentPraiseModel") (C := RX11) (T := TX11) (N := 41) hx hb hts hin_X11 tyX11 tyX11_ok nmX11 hown hK hP hD hS 0 rfl rfl 4 (by decide) (hts _ (List.mem_of_getElem? (i := 5) rfl)) (fun _ h => h) rfl hin rfl rfl rfl rfl (Nat.lt_of_lt_of_eq (by decide) hlen_0.symm) dX11_init_9 (fun H locs hP hD hS => ?_)
  obtain ⟨fs_1, hfs_1⟩ : ∃ z : List Value, z = fs_0.set 4 (.ref q1) := ⟨_, rfl⟩
  have hlen_1 : fs_1.length = 41 := by rw [hfs_1, List.length_set]; exact hlen_0
  have hP : va_P X.1 vwCl ((h, .inr (11, fs_1)) :: tt_1) H := by rw [hfs_1]; exact hP
  have hD : va_D A ((h, .inr (11, fs_1)) :: tt_1) := by rw [hfs_1]; exact hD
  refine lv_aload_n hx hb dX11_init_12 rfl (lv_at hl 0 rfl) ?_
  refine lv_bipush (v := 6) hx hb dX11_init_13 (by decide) ?_
  refine xmkI hx hb (hts (.arrayClass .int) (List.mem_of_getElem? (i := 4) rfl)) hK hP hD hS hA 6 (by decide) (by decide) (by decide) (Nat.le_of_ble_eq_true rfl) (Nat.le_of_ble_eq_true rfl) dX11_init_15 (fun q2 H hP hD hS => ?_)
  obtain ⟨tt_2, htt_2⟩ : ∃ z : va_W, z = tt_1 ++ [(q2, .inl (X.2.2.1, 6, .inl (fun _ => 0)))] := ⟨_, rfl⟩
  have hP : va_P X.1 vwCl ((h, .inr (11, fs_1)) :: tt_2) H := by rw [htt_2]; exact hP
  have hD : va_D A ((h, .inr (11, fs_1)) :: tt_2) := by rw [htt_2]; exact hD
  refine va_putF (D := X.1) (ci := 11) (v := .ref q2) (ty := tyX11 5) (ref := "AbsentPraiseModel") (C := RX11) (T := TX11) (N := 41) hx hb hts hin_X11 tyX11 tyX11_ok nmX11 hown hK hP hD hS 0 rfl rfl 5 (by decide) (hts _ (List.mem_of_getElem? (i := 6) rfl)) (fun _ h => h) rfl hin rfl rfl rfl rfl (Nat.lt_of_lt_of_eq (by decide) hlen_1.symm) dX11_init_17 (fun H locs hP hD hS => ?_)
  obtain ⟨fs_2, hfs_2⟩ : ∃ z : List Value, z = fs_1.set 5 (.ref q2) := ⟨_, rfl⟩
  have hlen_2 : fs_2.length = 41 := by rw [hfs_2, List.length_set]; exact hlen_1
  have hP : va_P X.1 vwCl ((h, .inr (11, fs_2)) :: tt_2) H := by rw [hfs_2]; exact hP
  have hD : va_D A ((h, .inr (11, fs_2)) :: tt_2) := by rw [hfs_2]; exact hD
  refine lv_aload_n hx hb dX11_init_20 rfl (lv_at hl 0 rfl) ?_
  refine lv_bipush (v := 7) hx hb dX11_init_21 (by decide) ?_
  refine xmkI hx hb (hts (.arrayClass .int) (List.mem_of_getElem? (i := 4) rfl)) hK hP hD hS hA 7 (by decide) (by decide) (by decide) (Nat.le_of_ble_eq_true rfl) (Nat.le_of_ble_eq_true rfl) dX11_init_23 (fun q3 H hP hD hS => ?_)
  obtain ⟨tt_3, htt_3⟩ : ∃ z : va_W, z = tt_2 ++ [(q3, .inl (X.2.2.1, 7, .inl (fun _ => 0)))] := ⟨_, rfl⟩
  have hP : va_P X.1 vwCl ((h, .inr (11, fs_2)) :: tt_3) H := by rw [htt_3]; exact hP
  have hD : va_D A ((h, .inr (11, fs_2)) :: tt_3) := by rw [htt_3]; exact hD
  refine va_putF (D := X.1) (ci := 11) (v := .ref q3) (ty := tyX11 7) (ref := "AbsentPraiseModel") (C := RX11) (T := TX11) (N := 41) hx hb hts hin_X11 tyX11 tyX11_ok nmX11 hown hK hP hD hS 0 rfl rfl 7 (by decide) (hts _ (List.mem_of_getElem? (i := 7) rfl)) (fun _ h => h) rfl hin rfl rfl rfl rfl (Nat.lt_of_lt_of_eq (by decide) hlen_2.symm) dX11_init_25 (fun H locs hP hD hS => ?_)
  obtain ⟨fs_3, hfs_3⟩ : ∃ z : List Value, z = fs_2.set 7 (.ref q3) := ⟨_, rfl⟩
  have hlen_3 : fs_3.length = 41 := by rw [hfs_3, List.length_set]; exact hlen_2
  have hP : va_P X.1 vwCl ((h, .inr (11, fs_3)) :: tt_3) H := by rw [hfs_3]; exact hP
  have hD : va_D A ((h, .inr (11, fs_3)) :: tt_3) := by rw [hfs_3]; exact hD
  refine lv_aload_n hx hb dX11_init_28 rfl (lv_at hl 0 rfl) ?_
  refine lv_bipush (v := 72) hx hb dX11_init_29 (by decide) ?_
  refine xmkI hx hb (hts (.arrayClass .int) (List.mem_of_getElem? (i := 4) rfl)) hK hP hD hS hA 72 (by decide) (by decide) (by decide) (Nat.le_of_ble_eq_true rfl) (Nat.le_of_ble_eq_true rfl) dX11_init_31 (fun q4 H hP hD hS => ?_)
  obtain ⟨tt_4, htt_4⟩ : ∃ z : va_W, z = tt_3 ++ [(q4, .inl (X.2.2.1, 72, .inl (fun _ => 0)))] := ⟨_, rfl⟩
  have hP : va_P X.1 vwCl ((h, .inr (11, fs_3)) :: tt_4) H := by rw [htt_4]; exact hP
  have hD : va_D A ((h, .inr (11, fs_3)) :: tt_4) := by rw [htt_4]; exact hD
  refine va_putF (D := X.1) (ci := 11) (v := .ref q4) (ty := tyX11 8) (ref := "AbsentPraiseModel") (C := RX11) (T := TX11) (N := 41) hx hb hts hin_X11 tyX11 tyX11_ok nmX11 hown hK hP hD hS 0 rfl rfl 8 (by decide) (hts _ (List.mem_of_getElem? (i := 8) rfl)) (fun _ h => h) rfl hin rfl rfl rfl rfl (Nat.lt_of_lt_of_eq (by decide) hlen_3.symm) dX11_init_33 (fun H locs hP hD hS => ?_)
  obtain ⟨fs_4, hfs_4⟩ : ∃ z : List Value, z = fs_3.set 8 (.ref q4) := ⟨_, rfl⟩
  have hlen_4 : fs_4.length = 41 := by rw [hfs_4, List.length_set]; exact hlen_3
  have hP : va_P X.1 vwCl ((h, .inr (11, fs_4)) :: tt_4) H := by rw [hfs_4]; exact hP
  have hD : va_D A ((h, .inr (11, fs_4)) :: tt_4) := by rw [hfs_4]; exact hD
  refine lv_aload_n hx hb dX11_init_36 rfl (lv_at hl 0 rfl) ?_
  refine lv_bipush (v := 72) hx hb dX11_init_37 (by decide) ?_
  refine xmkI hx hb (hts (.arrayClass .int) (List.mem_of_getElem? (i := 4) rfl)) hK hP hD hS hA 72 (by decide) (by decide) (by decide) (Nat.le_of_ble_eq_true rfl) (Nat.le_of_ble_eq_true rfl) dX11_init_39 (fun q5 H hP hD hS => ?_)
  obtain ⟨tt_5, htt_5⟩ : ∃ z : va_W, z = tt_4 ++ [(q5, .inl (X.2.2.1, 72, .inl (fun _ => 0)))] := ⟨_, rfl⟩
  have hP : va_P X.1 vwCl ((h, .inr (11, fs_4)) :: tt_5) H := by rw [htt_5]; exact hP
  have hD : va_D A ((h, .inr (11, fs_4)) :: tt_5) := by rw [htt_5]; exact hD
  refine va_putF (D := X.1) (ci := 11) (v := .ref q5) (ty := tyX11 9) (ref := "AbsentPraiseModel") (C := RX11) (T := TX11) (N := 41) hx hb hts hin_X11 tyX11 tyX11_ok nmX11 hown hK hP hD hS 0 rfl rfl 9 (by decide) (hts _ (List.mem_of_getElem? (i := 9) rfl)) (fun _ h => h) rfl hin rfl rfl rfl rfl (Nat.lt_of_lt_of_eq (by decide) hlen_4.symm) dX11_init_41 (fun H locs hP hD hS => ?_)
  obtain ⟨fs_5, hfs_5⟩ : ∃ z : List Value, z = fs_4.set 9 (.ref q5) := ⟨_, rfl⟩
  have hlen_5 : fs_5.length = 41 := by rw [hfs_5, List.length_set]; exact hlen_4
  have hP : va_P X.1 vwCl ((h, .inr (11, fs_5)) :: tt_5) H := by rw [hfs_5]; exact hP
  have hD : va_D A ((h, .inr (11, fs_5)) :: tt_5) := by rw [hfs_5]; exact hD
  refine lv_aload_n hx hb dX11_init_44 rfl (lv_at hl 0 rfl) ?_
  refine lv_bipush (v := 6) hx hb dX11_init_45 (by decide) ?_
  refine xmkI hx hb (hts (.arrayClass .int) (List.mem_of_getElem? (i := 4) rfl)) hK hP hD hS hA 6 (by decide) (by decide) (by decide) (Nat.le_of_ble_eq_true rfl) (Nat.le_of_ble_eq_true rfl) dX11_init_47 (fun q6 H hP hD hS => ?_)
  obtain ⟨tt_6, htt_6⟩ : ∃ z : va_W, z = tt_5 ++ [(q6, .inl (X.2.2.1, 6, .inl (fun _ => 0)))] := ⟨_, rfl⟩
  have hP : va_P X.1 vwCl ((h, .inr (11, fs_5)) :: tt_6) H := by rw [htt_6]; exact hP
  have hD : va_D A ((h, .inr (11, fs_5)) :: tt_6) := by rw [htt_6]; exact hD
  refine va_putF (D := X.1) (ci := 11) (v := .ref q6) (ty := tyX11 12) (ref := "AbsentPraiseModel") (C := RX11) (T := TX11) (N := 41) hx hb hts hin_X11 tyX11 tyX11_ok nmX11 hown hK hP hD hS 0 rfl rfl 12 (by decide) (hts _ (List.mem_of_getElem? (i := 10) rfl)) (fun _ h => h) rfl hin rfl rfl rfl rfl (Nat.lt_of_lt_of_eq (by decide) hlen_5.symm) dX11_init_49 (fun H locs hP hD hS => ?_)
  obtain ⟨fs_6, hfs_6⟩ : ∃ z : List Value, z = fs_5.set 12 (.ref q6) := ⟨_, rfl⟩
  have hlen_6 : fs_6.length = 41 := by rw [hfs_6, List.length_set]; exact hlen_5
  have hP : va_P X.1 vwCl ((h, .inr (11, fs_6)) :: tt_6) H := by rw [hfs_6]; exact hP
  have hD : va_D A ((h, .inr (11, fs_6)) :: tt_6) := by rw [hfs_6]; exact hD
  refine lv_aload_n hx hb dX11_init_52 rfl (lv_at hl 0 rfl) ?_
  refine lv_bipush (v := 6) hx hb dX11_init_53 (by decide) ?_
  refine xmkI hx hb (hts (.arrayClass .int) (List.mem_of_getElem? (i := 4) rfl)) hK hP hD hS hA 6 (by decide) (by decide) (by decide) (Nat.le_of_ble_eq_true rfl) (Nat.le_of_ble_eq_true rfl) dX11_init_55 (fun q7 H hP hD hS => ?_)
  obtain ⟨tt_7, htt_7⟩ : ∃ z : va_W, z = tt_6 ++ [(q7, .inl (X.2.2.1, 6, .inl (fun _ => 0)))] := ⟨_, rfl⟩
  have hP : va_P X.1 vwCl ((h, .inr (11, fs_6)) :: tt_7) H := by rw [htt_7]; exact hP
  have hD : va_D A ((h, .inr (11, fs_6)) :: tt_7) := by rw [htt_7]; exact hD
  refine va_putF (D := X.1) (ci := 11) (v := .ref q7) (ty := tyX11 13) (ref := "AbsentPraiseModel") (C := RX11) (T := TX11) (N := 41) hx hb hts hin_X11 tyX11 tyX11_ok nmX11 hown hK hP hD hS 0 rfl rfl 13 (by decide) (hts _ (List.mem_of_getElem? (i := 11) rfl)) (fun _ h => h) rfl hin rfl rfl rfl rfl (Nat.lt_of_lt_of_eq (by decide) hlen_6.symm) dX11_init_57 (fun H locs hP hD hS => ?_)
  obtain ⟨fs_7, hfs_7⟩ : ∃ z : List Value, z = fs_6.set 13 (.ref q7) := ⟨_, rfl⟩
  have hlen_7 : fs_7.length = 41 := by rw [hfs_7, List.length_set]; exact hlen_6
  have hP : va_P X.1 vwCl ((h, .inr (11, fs_7)) :: tt_7) H := by rw [hfs_7]; exact hP
  have hD : va_D A ((h, .inr (11, fs_7)) :: tt_7) := by rw [hfs_7]; exact hD
  refine lv_aload_n hx hb dX11_init_60 rfl (lv_at hl 0 rfl) ?_
  refine lv_bipush (v := 6) hx hb dX11_init_61 (by decide) ?_
  refine xmkI hx hb (hts (.arrayClass .int) (List.mem_of_getElem? (i := 4) rfl)) hK hP hD hS hA 6 (by decide) (by decide) (by decide) (Nat.le_of_ble_eq_true rfl) (Nat.le_of_ble_eq_true rfl) dX11_init_63 (fun q8 H hP hD hS => ?_)
  obtain ⟨tt_8, htt_8⟩ : ∃ z : va_W, z = tt_7 ++ [(q8, .inl (X.2.2.1, 6, .inl (fun _ => 0)))] := ⟨_, rfl⟩
  have hP : va_P X.1 vwCl ((h, .inr (11, fs_7)) :: tt_8) H := by rw [htt_8]; exact hP
  have hD : va_D A ((h, .inr (11, fs_7)) :: tt_8) := by rw [htt_8]; exact hD
  refine va_putF (D := X.1) (ci := 11) (v := .ref q8) (ty := tyX11 14) (ref := "AbsentPraiseModel") (C := RX11) (T := TX11) (N := 41) hx hb hts hin_X11 tyX11 tyX11_ok nmX11 hown hK hP hD hS 0 rfl rfl 14 (by decide) (hts _ (List.mem_of_getElem? (i := 12) rfl)) (fun _ h => h) rfl hin rfl rfl rfl rfl (Nat.lt_of_lt_of_eq (by decide) hlen_7.symm) dX11_init_65 (fun H locs hP hD hS => ?_)
  obtain ⟨fs_8, hfs_8⟩ : ∃ z : List Value, z = fs_7.set 14 (.ref q8) := ⟨_, rfl⟩
  have hlen_8 : fs_8.length = 41 := by rw [hfs_8, List.length_set]; exact hlen_7
  have hP : va_P X.1 vwCl ((h, .inr (11, fs_8)) :: tt_8) H := by rw [hfs_8]; exact hP
  have hD : va_D A ((h, .inr (11, fs_8)) :: tt_8) := by rw [hfs_8]; exact hD
  refine lv_aload_n hx hb dX11_init_68 rfl (lv_at hl 0 rfl) ?_
  refine lv_bipush (v := 15) hx hb dX11_init_69 (by decide) ?_
  refine xmkI hx hb (hts (.arrayClass .int) (List.mem_of_getElem? (i := 4) rfl)) hK hP hD hS hA 15 (by decide) (by decide) (by decide) (Nat.le_of_ble_eq_true rfl) (Nat.le_of_ble_eq_true rfl) dX11_init_71 (fun q9 H hP hD hS => ?_)
  obtain ⟨tt_9, htt_9⟩ : ∃ z : va_W, z = tt_8 ++ [(q9, .inl (X.2.2.1, 15, .inl (fun _ => 0)))] := ⟨_, rfl⟩
  have hP : va_P X.1 vwCl ((h, .inr (11, fs_8)) :: tt_9) H := by rw [htt_9]; exact hP
  have hD : va_D A ((h, .inr (11, fs_8)) :: tt_9) := by rw [htt_9]; exact hD
  refine va_putF (D := X.1) (ci := 11) (v := .ref q9) (ty := tyX11 16) (ref := "AbsentPraiseModel") (C := RX11) (T := TX11) (N := 41) hx hb hts hin_X11 tyX11 tyX11_ok nmX11 hown hK hP hD hS 0 rfl rfl 16 (by decide) (hts _ (List.mem_of_getElem? (i := 13) rfl)) (fun _ h => h) rfl hin rfl rfl rfl rfl (Nat.lt_of_lt_of_eq (by decide) hlen_8.symm) dX11_init_73 (fun H locs hP hD hS => ?_)
  obtain ⟨fs_9, hfs_9⟩ : ∃ z : List Value, z = fs_8.set 16 (.ref q9) := ⟨_, rfl⟩
  have hlen_9 : fs_9.length = 41 := by rw [hfs_9, List.length_set]; exact hlen_8
  have hP : va_P X.1 vwCl ((h, .inr (11, fs_9)) :: tt_9) H := by rw [hfs_9]; exact hP
  have hD : va_D A ((h, .inr (11, fs_9)) :: tt_9) := by rw [hfs_9]; exact hD
  refine lv_aload_n hx hb dX11_init_76 rfl (lv_at hl 0 rfl) ?_
  refine lv_bipush (v := 15) hx hb dX11_init_77 (by decide) ?_
  refine xmkI hx hb (hts (.arrayClass .int) (List.mem_of_getElem? (i := 4) rfl)) hK hP hD hS hA 15 (by decide) (by decide) (by decide) (Nat.le_of_ble_eq_true rfl) (Nat.le_of_ble_eq_true rfl) dX11_init_79 (fun q10 H hP hD hS => ?_)
  obtain ⟨tt_10, htt_10⟩ : ∃ z : va_W, z = tt_9 ++ [(q10, .inl (X.2.2.1, 15, .inl (fun _ => 0)))] := ⟨_, rfl⟩
  have hP : va_P X.1 vwCl ((h, .inr (11, fs_9)) :: tt_10) H := by rw [htt_10]; exact hP
  have hD : va_D A ((h, .inr (11, fs_9)) :: tt_10) := by rw [htt_10]; exact hD
  refine va_putF (D := X.1) (ci := 11) (v := .ref q10) (ty := tyX11 17) (ref := "AbsentPraiseModel") (C := RX11) (T := TX11) (N := 41) hx hb hts hin_X11 tyX11 tyX11_ok nmX11 hown hK hP hD hS 0 rfl rfl 17 (by decide) (hts _ (List.mem_of_getElem? (i := 14) rfl)) (fun _ h => h) rfl hin rfl rfl rfl rfl (Nat.lt_of_lt_of_eq (by decide) hlen_9.symm) dX11_init_81 (fun H locs hP hD hS => ?_)
  obtain ⟨fs_10, hfs_10⟩ : ∃ z : List Value, z = fs_9.set 17 (.ref q10) := ⟨_, rfl⟩
  have hlen_10 : fs_10.length = 41 := by rw [hfs_10, List.length_set]; exact hlen_9
  have hP : va_P X.1 vwCl ((h, .inr (11, fs_10)) :: tt_10) H := by rw [hfs_10]; exact hP
  have hD : va_D A ((h, .inr (11, fs_10)) :: tt_10) := by rw [hfs_10]; exact hD
  refine lv_aload_n hx hb dX11_init_84 rfl (lv_at hl 0 rfl) ?_
  refine lv_sipush (v := 240) hx hb dX11_init_85 (by decide) ?_
  refine xmkI hx hb (hts (.arrayClass .int) (List.mem_of_getElem? (i := 4) rfl)) hK hP hD hS hA 240 (by decide) (by decide) (by decide) (Nat.le_of_ble_eq_true rfl) (Nat.le_of_ble_eq_true rfl) dX11_init_88 (fun q11 H hP hD hS => ?_)
  obtain ⟨tt_11, htt_11⟩ : ∃ z : va_W, z = tt_10 ++ [(q11, .inl (X.2.2.1, 240, .inl (fun _ => 0)))] := ⟨_, rfl⟩
  have hP : va_P X.1 vwCl ((h, .inr (11, fs_10)) :: tt_11) H := by rw [htt_11]; exact hP
  have hD : va_D A ((h, .inr (11, fs_10)) :: tt_11) := by rw [htt_11]; exact hD
  refine va_putF (D := X.1) (ci := 11) (v := .ref q11) (ty := tyX11 18) (ref := "AbsentPraiseModel") (C := RX11) (T := TX11) (N := 41) hx hb hts hin_X11 tyX11 tyX11_ok nmX11 hown hK hP hD hS 0 rfl rfl 18 (by decide) (hts _ (List.mem_of_getElem? (i := 15) rfl)) (fun _ h => h) rfl hin rfl rfl rfl rfl (Nat.lt_of_lt_of_eq (by decide) hlen_10.symm) dX11_init_90 (fun H locs hP hD hS => ?_)
  obtain ⟨fs_11, hfs_11⟩ : ∃ z : List Value, z = fs_10.set 18 (.ref q11) := ⟨_, rfl⟩
  have hlen_11 : fs_11.length = 41 := by rw [hfs_11, List.length_set]; exact hlen_10
  have hP : va_P X.1 vwCl ((h, .inr (11, fs_11)) :: tt_11) H := by rw [hfs_11]; exact hP
  have hD : va_D A ((h, .inr (11, fs_11)) :: tt_11) := by rw [hfs_11]; exact hD
  refine lv_aload_n hx hb dX11_init_93 rfl (lv_at hl 0 rfl) ?_
  refine lv_iconst (v := (-1)) hx hb dX11_init_94 (by decide) ?_
  refine va_put (D := X.1) (ci := 11) (v := .int (-1)) (ty := tyX11 20) (ref := "AbsentPraiseModel") (C := RX11) (T := TX11) (N := 41) hx hb hts hin_X11 tyX11 tyX11_ok nmX11 hown hK hP hD hS 0 rfl rfl 20 (by decide) (hts _ (List.mem_of_getElem? (i := 16) rfl)) (fun _ h => h) rfl rfl rfl rfl (Nat.lt_of_lt_of_eq (by decide) hlen_11.symm) dX11_init_95 (fun H locs hP hD hS => ?_)
  obtain ⟨fs_12, hfs_12⟩ : ∃ z : List Value, z = fs_11.set 20 (.int (-1)) := ⟨_, rfl⟩
  have hlen_12 : fs_12.length = 41 := by rw [hfs_12, List.length_set]; exact hlen_11
  have hP : va_P X.1 vwCl ((h, .inr (11, fs_12)) :: tt_11) H := by rw [hfs_12]; exact hP
  have hD : va_D A ((h, .inr (11, fs_12)) :: tt_11) := by rw [hfs_12]; exact hD
  refine lv_aload_n hx hb dX11_init_98 rfl (lv_at hl 0 rfl) ?_
  refine lv_bipush (v := 6) hx hb dX11_init_99 (by decide) ?_
  refine xmkI hx hb (hts (.arrayClass .int) (List.mem_of_getElem? (i := 4) rfl)) hK hP hD hS hA 6 (by decide) (by decide) (by decide) (Nat.le_of_ble_eq_true rfl) (Nat.le_of_ble_eq_true rfl) dX11_init_101 (fun q12 H hP hD hS => ?_)
  obtain ⟨tt_12, htt_12⟩ : ∃ z : va_W, z = tt_11 ++ [(q12, .inl (X.2.2.1, 6, .inl (fun _ => 0)))] := ⟨_, rfl⟩
  have hP : va_P X.1 vwCl ((h, .inr (11, fs_12)) :: tt_12) H := by rw [htt_12]; exact hP
  have hD : va_D A ((h, .inr (11, fs_12)) :: tt_12) := by rw [htt_12]; exact hD
  refine va_putF (D := X.1) (ci := 11) (v := .ref q12) (ty := tyX11 28) (ref := "AbsentPraiseModel") (C := RX11) (T := TX11) (N := 41) hx hb hts hin_X11 tyX11 tyX11_ok nmX11 hown hK hP hD hS 0 rfl rfl 28 (by decide) (hts _ (List.mem_of_getElem? (i := 17) rfl)) (fun _ h => h) rfl hin rfl rfl rfl rfl (Nat.lt_of_lt_of_eq (by decide) hlen_12.symm) dX11_init_103 (fun H locs hP hD hS => ?_)
  obtain ⟨fs_13, hfs_13⟩ : ∃ z : List Value, z = fs_12.set 28 (.ref q12) := ⟨_, rfl⟩
  have hlen_13 : fs_13.length = 41 := by rw [hfs_13, List.length_set]; exact hlen_12
  have hP : va_P X.1 vwCl ((h, .inr (11, fs_13)) :: tt_12) H := by rw [hfs_13]; exact hP
  have hD : va_D A ((h, .inr (11, fs_13)) :: tt_12) := by rw [hfs_13]; exact hD
  refine lv_aload_n hx hb dX11_init_106 rfl (lv_at hl 0 rfl) ?_
  refine lv_bipush (v := 6) hx hb dX11_init_107 (by decide) ?_
  refine xmkI hx hb (hts (.arrayClass .int) (List.mem_of_getElem? (i := 4) rfl)) hK hP hD hS hA 6 (by decide) (by decide) (by decide) (Nat.le_of_ble_eq_true rfl) (Nat.le_of_ble_eq_true rfl) dX11_init_109 (fun q13 H hP hD hS => ?_)
  obtain ⟨tt_13, htt_13⟩ : ∃ z : va_W, z = tt_12 ++ [(q13, .inl (X.2.2.1, 6, .inl (fun _ => 0)))] := ⟨_, rfl⟩
  have hP : va_P X.1 vwCl ((h, .inr (11, fs_13)) :: tt_13) H := by rw [htt_13]; exact hP
  have hD : va_D A ((h, .inr (11, fs_13)) :: tt_13) := by rw [htt_13]; exact hD
  refine va_putF (D := X.1) (ci := 11) (v := .ref q13) (ty := tyX11 29) (ref := "AbsentPraiseModel") (C := RX11) (T := TX11) (N := 41) hx hb hts hin_X11 tyX11 tyX11_ok nmX11 hown hK hP hD hS 0 rfl rfl 29 (by decide) (hts _ (List.mem_of_getElem? (i := 18) rfl)) (fun _ h => h) rfl hin rfl rfl rfl rfl (Nat.lt_of_lt_of_eq (by decide) hlen_13.symm) dX11_init_111 (fun H locs hP hD hS => ?_)
  obtain ⟨fs_14, hfs_14⟩ : ∃ z : List Value, z = fs_13.set 29 (.ref q13) := ⟨_, rfl⟩
  have hlen_14 : fs_14.length = 41 := by rw [hfs_14, List.length_set]; exact hlen_13
  have hP : va_P X.1 vwCl ((h, .inr (11, fs_14)) :: tt_13) H := by rw [hfs_14]; exact hP
  have hD : va_D A ((h, .inr (11, fs_14)) :: tt_13) := by rw [hfs_14]; exact hD
  refine lv_aload_n hx hb dX11_init_114 rfl (lv_at hl 0 rfl) ?_
  refine lv_bipush (v := 7) hx hb dX11_init_115 (by decide) ?_
  refine xmkI hx hb (hts (.arrayClass .int) (List.mem_of_getElem? (i := 4) rfl)) hK hP hD hS hA 7 (by decide) (by decide) (by decide) (Nat.le_of_ble_eq_true rfl) (Nat.le_of_ble_eq_true rfl) dX11_init_117 (fun q14 H hP hD hS => ?_)
  obtain ⟨tt_14, htt_14⟩ : ∃ z : va_W, z = tt_13 ++ [(q14, .inl (X.2.2.1, 7, .inl (fun _ => 0)))] := ⟨_, rfl⟩
  have hP : va_P X.1 vwCl ((h, .inr (11, fs_14)) :: tt_14) H := by rw [htt_14]; exact hP
  have hD : va_D A ((h, .inr (11, fs_14)) :: tt_14) := by rw [htt_14]; exact hD
  refine va_putF (D := X.1) (ci := 11) (v := .ref q14) (ty := tyX11 31) (ref := "AbsentPraiseModel") (C := RX11) (T := TX11) (N := 41) hx hb hts hin_X11 tyX11 tyX11_ok nmX11 hown hK hP hD hS 0 rfl rfl 31 (by decide) (hts _ (List.mem_of_getElem? (i := 19) rfl)) (fun _ h => h) rfl hin rfl rfl rfl rfl (Nat.lt_of_lt_of_eq (by decide) hlen_14.symm) dX11_init_119 (fun H locs hP hD hS => ?_)
  obtain ⟨fs_15, hfs_15⟩ : ∃ z : List Value, z = fs_14.set 31 (.ref q14) := ⟨_, rfl⟩
  have hlen_15 : fs_15.length = 41 := by rw [hfs_15, List.length_set]; exact hlen_14
  have hP : va_P X.1 vwCl ((h, .inr (11, fs_15)) :: tt_14) H := by rw [hfs_15]; exact hP
  have hD : va_D A ((h, .inr (11, fs_15)) :: tt_14) := by rw [hfs_15]; exact hD
  refine lv_aload_n hx hb dX11_init_122 rfl (lv_at hl 0 rfl) ?_
  refine lv_bipush (v := 7) hx hb dX11_init_123 (by decide) ?_
  refine xmkI hx hb (hts (.arrayClass .int) (List.mem_of_getElem? (i := 4) rfl)) hK hP hD hS hA 7 (by decide) (by decide) (by decide) (Nat.le_of_ble_eq_true rfl) (Nat.le_of_ble_eq_true rfl) dX11_init_125 (fun q15 H hP hD hS => ?_)
  obtain ⟨tt_15, htt_15⟩ : ∃ z : va_W, z = tt_14 ++ [(q15, .inl (X.2.2.1, 7, .inl (fun _ => 0)))] := ⟨_, rfl⟩
  have hP : va_P X.1 vwCl ((h, .inr (11, fs_15)) :: tt_15) H := by rw [htt_15]; exact hP
  have hD : va_D A ((h, .inr (11, fs_15)) :: tt_15) := by rw [htt_15]; exact hD
  refine va_putF (D := X.1) (ci := 11) (v := .ref q15) (ty := tyX11 32) (ref := "AbsentPraiseModel") (C := RX11) (T := TX11) (N := 41) hx hb hts hin_X11 tyX11 tyX11_ok nmX11 hown hK hP hD hS 0 rfl rfl 32 (by decide) (hts _ (List.mem_of_getElem? (i := 20) rfl)) (fun _ h => h) rfl hin rfl rfl rfl rfl (Nat.lt_of_lt_of_eq (by decide) hlen_15.symm) dX11_init_127 (fun H locs hP hD hS => ?_)
  obtain ⟨fs_16, hfs_16⟩ : ∃ z : List Value, z = fs_15.set 32 (.ref q15) := ⟨_, rfl⟩
  have hlen_16 : fs_16.length = 41 := by rw [hfs_16, List.length_set]; exact hlen_15
  have hP : va_P X.1 vwCl ((h, .inr (11, fs_16)) :: tt_15) H := by rw [hfs_16]; exact hP
  have hD : va_D A ((h, .inr (11, fs_16)) :: tt_15) := by rw [hfs_16]; exact hD
  refine lv_aload_n hx hb dX11_init_130 rfl (lv_at hl 0 rfl) ?_
  refine lv_bipush (v := 49) hx hb dX11_init_131 (by decide) ?_
  refine xmkI hx hb (hts (.arrayClass .int) (List.mem_of_getElem? (i := 4) rfl)) hK hP hD hS hA 49 (by decide) (by decide) (by decide) (Nat.le_of_ble_eq_true rfl) (Nat.le_of_ble_eq_true rfl) dX11_init_133 (fun q16 H hP hD hS => ?_)
  obtain ⟨tt_16, htt_16⟩ : ∃ z : va_W, z = tt_15 ++ [(q16, .inl (X.2.2.1, 49, .inl (fun _ => 0)))] := ⟨_, rfl⟩
  have hP : va_P X.1 vwCl ((h, .inr (11, fs_16)) :: tt_16) H := by rw [htt_16]; exact hP
  have hD : va_D A ((h, .inr (11, fs_16)) :: tt_16) := by rw [htt_16]; exact hD
  refine va_putF (D := X.1) (ci := 11) (v := .ref q16) (ty := tyX11 34) (ref := "AbsentPraiseModel") (C := RX11) (T := TX11) (N := 41) hx hb hts hin_X11 tyX11 tyX11_ok nmX11 hown hK hP hD hS 0 rfl rfl 34 (by decide) (hts _ (List.mem_of_getElem? (i := 21) rfl)) (fun _ h => h) rfl hin rfl rfl rfl rfl (Nat.lt_of_lt_of_eq (by decide) hlen_16.symm) dX11_init_135 (fun H locs hP hD hS => ?_)
  obtain ⟨fs_17, hfs_17⟩ : ∃ z : List Value, z = fs_16.set 34 (.ref q16) := ⟨_, rfl⟩
  have hlen_17 : fs_17.length = 41 := by rw [hfs_17, List.length_set]; exact hlen_16
  have hP : va_P X.1 vwCl ((h, .inr (11, fs_17)) :: tt_16) H := by rw [hfs_17]; exact hP
  have hD : va_D A ((h, .inr (11, fs_17)) :: tt_16) := by rw [hfs_17]; exact hD
  refine lv_aload_n hx hb dX11_init_138 rfl (lv_at hl 0 rfl) ?_
  refine lv_sipush (v := 1152) hx hb dX11_init_139 (by decide) ?_
  refine xmkI hx hb (hts (.arrayClass .int) (List.mem_of_getElem? (i := 4) rfl)) hK hP hD hS hA 1152 (by decide) (by decide) (by decide) (Nat.le_of_ble_eq_true rfl) (Nat.le_of_ble_eq_true rfl) dX11_init_142 (fun q17 H hP hD hS => ?_)
  obtain ⟨tt_17, htt_17⟩ : ∃ z : va_W, z = tt_16 ++ [(q17, .inl (X.2.2.1, 1152, .inl (fun _ => 0)))] := ⟨_, rfl⟩
  have hP : va_P X.1 vwCl ((h, .inr (11, fs_17)) :: tt_17) H := by rw [htt_17]; exact hP
  have hD : va_D A ((h, .inr (11, fs_17)) :: tt_17) := by rw [htt_17]; exact hD
  refine va_putF (D := X.1) (ci := 11) (v := .ref q17) (ty := tyX11 37) (ref := "AbsentPraiseModel") (C := RX11) (T := TX11) (N := 41) hx hb hts hin_X11 tyX11 tyX11_ok nmX11 hown hK hP hD hS 0 rfl rfl 37 (by decide) (hts _ (List.mem_of_getElem? (i := 22) rfl)) (fun _ h => h) rfl hin rfl rfl rfl rfl (Nat.lt_of_lt_of_eq (by decide) hlen_17.symm) dX11_init_144 (fun H locs hP hD hS => ?_)
  obtain ⟨fs_18, hfs_18⟩ : ∃ z : List Value, z = fs_17.set 37 (.ref q17) := ⟨_, rfl⟩
  have hlen_18 : fs_18.length = 41 := by rw [hfs_18, List.length_set]; exact hlen_17
  have hP : va_P X.1 vwCl ((h, .inr (11, fs_18)) :: tt_17) H := by rw [hfs_18]; exact hP
  have hD : va_D A ((h, .inr (11, fs_18)) :: tt_17) := by rw [hfs_18]; exact hD
  refine lv_aload_n hx hb dX11_init_147 rfl (lv_at hl 0 rfl) ?_
  refine lv_bipush (v := 54) hx hb dX11_init_148 (by decide) ?_
  refine xmkI hx hb (hts (.arrayClass .int) (List.mem_of_getElem? (i := 4) rfl)) hK hP hD hS hA 54 (by decide) (by decide) (by decide) (Nat.le_of_ble_eq_true rfl) (Nat.le_of_ble_eq_true rfl) dX11_init_150 (fun q18 H hP hD hS => ?_)
  obtain ⟨tt_18, htt_18⟩ : ∃ z : va_W, z = tt_17 ++ [(q18, .inl (X.2.2.1, 54, .inl (fun _ => 0)))] := ⟨_, rfl⟩
  have hP : va_P X.1 vwCl ((h, .inr (11, fs_18)) :: tt_18) H := by rw [htt_18]; exact hP
  have hD : va_D A ((h, .inr (11, fs_18)) :: tt_18) := by rw [htt_18]; exact hD
  refine va_putF (D := X.1) (ci := 11) (v := .ref q18) (ty := tyX11 38) (ref := "AbsentPraiseModel") (C := RX11) (T := TX11) (N := 41) hx hb hts hin_X11 tyX11 tyX11_ok nmX11 hown hK hP hD hS 0 rfl rfl 38 (by decide) (hts _ (List.mem_of_getElem? (i := 23) rfl)) (fun _ h => h) rfl hin rfl rfl rfl rfl (Nat.lt_of_lt_of_eq (by decide) hlen_18.symm) dX11_init_152 (fun H locs hP hD hS => ?_)
  obtain ⟨fs_19, hfs_19⟩ : ∃ z : List Value, z = fs_18.set 38 (.ref q18) := ⟨_, rfl⟩
  have hlen_19 : fs_19.length = 41 := by rw [hfs_19, List.length_set]; exact hlen_18
  have hP : va_P X.1 vwCl ((h, .inr (11, fs_19)) :: tt_18) H := by rw [hfs_19]; exact hP
  have hD : va_D A ((h, .inr (11, fs_19)) :: tt_18) := by rw [hfs_19]; exact hD
  refine lv_aload_n hx hb dX11_init_155 rfl (lv_at hl 0 rfl) ?_
  refine lv_sipush (v := 146) hx hb dX11_init_156 (by decide) ?_
  refine xmkI hx hb (hts (.arrayClass .int) (List.mem_of_getElem? (i := 4) rfl)) hK hP hD hS hA 146 (by decide) (by decide) (by decide) (Nat.le_of_ble_eq_true rfl) (Nat.le_of_ble_eq_true rfl) dX11_init_159 (fun q19 H hP hD hS => ?_)
  obtain ⟨tt_19, htt_19⟩ : ∃ z : va_W, z = tt_18 ++ [(q19, .inl (X.2.2.1, 146, .inl (fun _ => 0)))] := ⟨_, rfl⟩
  have hP : va_P X.1 vwCl ((h, .inr (11, fs_19)) :: tt_19) H := by rw [htt_19]; exact hP
  have hD : va_D A ((h, .inr (11, fs_19)) :: tt_19) := by rw [htt_19]; exact hD
  refine va_putF (D := X.1) (ci := 11) (v := .ref q19) (ty := tyX11 39) (ref := "AbsentPraiseModel") (C := RX11) (T := TX11) (N := 41) hx hb hts hin_X11 tyX11 tyX11_ok nmX11 hown hK hP hD hS 0 rfl rfl 39 (by decide) (hts _ (List.mem_of_getElem? (i := 24) rfl)) (fun _ h => h) rfl hin rfl rfl rfl rfl (Nat.lt_of_lt_of_eq (by decide) hlen_19.symm) dX11_init_161 (fun H locs hP hD hS => ?_)
  obtain ⟨fs_20, hfs_20⟩ : ∃ z : List Value, z = fs_19.set 39 (.ref q19) := ⟨_, rfl⟩
  have hlen_20 : fs_20.length = 41 := by rw [hfs_20, List.length_set]; exact hlen_19
  have hP : va_P X.1 vwCl ((h, .inr (11, fs_20)) :: tt_19) H := by rw [hfs_20]; exact hP
  have hD : va_D A ((h, .inr (11, fs_20)) :: tt_19) := by rw [hfs_20]; exact hD
  refine lv_aload_n hx hb dX11_init_164 rfl (lv_at hl 0 rfl) ?_
  refine lv_iconst (v := 2) hx hb dX11_init_165 (by decide) ?_
  refine xmkZ hx hb (hts (.arrayClass .boolean) (List.mem_of_getElem? (i := 25) rfl)) hK hP hD hS hA 2 (by decide) (by decide) (by decide) (Nat.le_of_ble_eq_true rfl) (Nat.le_of_ble_eq_true rfl) dX11_init_166 (fun q20 H hP hD hS => ?_)
  obtain ⟨tt_20, htt_20⟩ : ∃ z : va_W, z = tt_19 ++ [(q20, .inl (X.2.2.2.1, 2, .inl (fun _ => 0)))] := ⟨_, rfl⟩
  have hP : va_P X.1 vwCl ((h, .inr (11, fs_20)) :: tt_20) H := by rw [htt_20]; exact hP
  have hD : va_D A ((h, .inr (11, fs_20)) :: tt_20) := by rw [htt_20]; exact hD
  refine va_putF (D := X.1) (ci := 11) (v := .ref q20) (ty := tyX11 40) (ref := "AbsentPraiseModel") (C := RX11) (T := TX11) (N := 41) hx hb hts hin_X11 tyX11 tyX11_ok nmX11 hown hK hP hD hS 0 rfl rfl 40 (by decide) (hts _ (List.mem_of_getElem? (i := 26) rfl)) (fun _ h => h) rfl hin rfl rfl rfl rfl (Nat.lt_of_lt_of_eq (by decide) hlen_20.symm) dX11_init_168 (fun H locs hP hD hS => ?_)
  obtain ⟨fs_21, hfs_21⟩ : ∃ z : List Value, z = fs_20.set 40 (.ref q20) := ⟨_, rfl⟩
  have hlen_21 : fs_21.length = 41 := by rw [hfs_21, List.length_set]; exact hlen_20
  have hP : va_P X.1 vwCl ((h, .inr (11, fs_21)) :: tt_20) H := by rw [hfs_21]; exact hP
  have hD : va_D A ((h, .inr (11, fs_21)) :: tt_20) := by rw [hfs_21]; exact hD
  refine lv_aload_n hx hb dX11_init_171 rfl (lv_at hl 0 rfl) ?_
  refine lv_iconst (v := 0) hx hb dX11_init_172 (by decide) ?_
  refine va_put (D := X.1) (ci := 11) (v := .int 0) (ty := tyX11 0) (ref := "AbsentPraiseModel") (C := RX11) (T := TX11) (N := 41) hx hb hts hin_X11 tyX11 tyX11_ok nmX11 hown hK hP hD hS 0 rfl rfl 0 (by decide) (hts _ (List.mem_of_getElem? (i := 27) rfl)) (fun _ h => h) rfl rfl rfl rfl (Nat.lt_of_lt_of_eq (by decide) hlen_21.symm) dX11_init_173 (fun H locs hP hD hS => ?_)
  obtain ⟨fs_22, hfs_22⟩ : ∃ z : List Value, z = fs_21.set 0 (.int 0) := ⟨_, rfl⟩
  have hlen_22 : fs_22.length = 41 := by rw [hfs_22, List.length_set]; exact hlen_21
  have hP : va_P X.1 vwCl ((h, .inr (11, fs_22)) :: tt_20) H := by rw [hfs_22]; exact hP
  have hD : va_D A ((h, .inr (11, fs_22)) :: tt_20) := by rw [hfs_22]; exact hD
  rw [hfs_22, hfs_21, hfs_20, hfs_19, hfs_18, hfs_17, hfs_16, hfs_15, hfs_14, hfs_13, hfs_12, hfs_11, hfs_10, hfs_9, hfs_8, hfs_7, hfs_6, hfs_5, hfs_4, hfs_3, hfs_2, hfs_1, hfs_0] at hP hD
  rw [fs_fin] at hP hD
  obtain ⟨U, hU⟩ : ∃ z : xU, z = mkU [q1, q2, q3, q4, q5, q6, q7, q8, q9, q10, q11, q12, q13, q14, q15, q16, q17, q18, q19, q20] [] := ⟨_, rfl⟩
  rw [htt_20, htt_19, htt_18, htt_17, htt_16, htt_15, htt_14, htt_13, htt_12, htt_11, htt_10, htt_9, htt_8, htt_7, htt_6, htt_5, htt_4, htt_3, htt_2, htt_1, htt_0] at hP hD
  rw [tt_fin X h q1 q2 q3 q4 q5 q6 q7 q8 q9 q10 q11 q12 q13 q14 q15 q16 q17 q18 q19 q20 U (by rw [hU]; exact eu_0 q1 q2 q3 q4 q5 q6 q7 q8 q9 q10 q11 q12 q13 q14 q15 q16 q17 q18 q19 q20) (by rw [hU]; exact eu_1 q1 q2 q3 q4 q5 q6 q7 q8 q9 q10 q11 q12 q13 q14 q15 q16 q17 q18 q19 q20) (by rw [hU]; exact eu_2 q1 q2 q3 q4 q5 q6 q7 q8 q9 q10 q11 q12 q13 q14 q15 q16 q17 q18 q19 q20) (by rw [hU]; exact eu_3 q1 q2 q3 q4 q5 q6 q7 q8 q9 q10 q11 q12 q13 q14 q15 q16 q17 q18 q19 q20) (by rw [hU]; exact eu_4 q1 q2 q3 q4 q5 q6 q7 q8 q9 q10 q11 q12 q13 q14 q15 q16 q17 q18 q19 q20) (by rw [hU]; exact eu_5 q1 q2 q3 q4 q5 q6 q7 q8 q9 q10 q11 q12 q13 q14 q15 q16 q17 q18 q19 q20) (by rw [hU]; exact eu_6 q1 q2 q3 q4 q5 q6 q7 q8 q9 q10 q11 q12 q13 q14 q15 q16 q17 q18 q19 q20) (by rw [hU]; exact eu_7 q1 q2 q3 q4 q5 q6 q7 q8 q9 q10 q11 q12 q13 q14 q15 q16 q17 q18 q19 q20) (by rw [hU]; exact eu_8 q1 q2 q3 q4 q5 q6 q7 q8 q9 q10 q11 q12 q13 q14 q15 q16 q17 q18 q19 q20) (by rw [hU]; exact eu_9 q1 q2 q3 q4 q5 q6 q7 q8 q9 q10 q11 q12 q13 q14 q15 q16 q17 q18 q19 q20) (by rw [hU]; exact eu_10 q1 q2 q3 q4 q5 q6 q7 q8 q9 q10 q11 q12 q13 q14 q15 q16 q17 q18 q19 q20) (by rw [hU]; exact eu_11 q1 q2 q3 q4 q5 q6 q7 q8 q9 q10 q11 q12 q13 q14 q15 q16 q17 q18 q19 q20) (by rw [hU]; exact eu_12 q1 q2 q3 q4 q5 q6 q7 q8 q9 q10 q11 q12 q13 q14 q15 q16 q17 q18 q19 q20) (by rw [hU]; exact eu_13 q1 q2 q3 q4 q5 q6 q7 q8 q9 q10 q11 q12 q13 q14 q15 q16 q17 q18 q19 q20) (by rw [hU]; exact eu_14 q1 q2 q3 q4 q5 q6 q7 q8 q9 q10 q11 q12 q13 q14 q15 q16 q17 q18 q19 q20) (by rw [hU]; exact eu_15 q1 q2 q3 q4 q5 q6 q7 q8 q9 q10 q11 q12 q13 q14 q15 q16 q17 q18 q19 q20) (by rw [hU]; exact eu_16 q1 q2 q3 q4 q5 q6 q7 q8 q9 q10 q11 q12 q13 q14 q15 q16 q17 q18 q19 q20) (by rw [hU]; exact eu_17 q1 q2 q3 q4 q5 q6 q7 q8 q9 q10 q11 q12 q13 q14 q15 q16 q17 q18 q19 q20) (by rw [hU]; exact eu_18 q1 q2 q3 q4 q5 q6 q7 q8 q9 q10 q11 q12 q13 q14 q15 q16 q17 q18 q19 q20) (by rw [hU]; exact eu_19 q1 q2 q3 q4 q5 q6 q7 q8 q9 q10 q11 q12 q13 q14 q15 q16 q17 q18 q19 q20)] at hP hD
  rw [← hAe] at hD hS ⊢
  refine xcend (cw := cw_X11 X h) (mc := 20) (ms := 1880) U hx hb hr hP hD hS rfl ?_ ?_ dX11_init_176 hlocks
  · exact Nat.le_of_ble_eq_true rfl
  · exact Nat.le_of_ble_eq_true rfl
