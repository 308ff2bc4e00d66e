/-! kinds of cells -/
theorem isT_I {b : Nat} (h : isT b = true) : isI (b + 1) = true ∧ isI (b + 2) = true ∧ isI (b + 3) = true ∧ isI (b + 4) = true := by
  simp only [isT, Bool.and_eq_true, decide_eq_true_eq] at h
  obtain ⟨⟨h1, h2⟩, h3⟩ := h
  have h4 : b ≤ 122 := by omega
  have e1 : (b + 1 - 32) % 5 = 1 := by omega
  have e2 : (b + 2 - 32) % 5 = 2 := by omega
  have e3 : (b + 3 - 32) % 5 = 3 := by omega
  have e4 : (b + 4 - 32) % 5 = 4 := by omega
  refine ⟨?_, ?_, ?_, ?_⟩ <;> simp only [isI, Bool.or_eq_true, Bool.and_eq_true, decide_eq_true_eq, beq_iff_eq, Bool.not_eq_true', decide_eq_false_iff_not] <;> omega
theorem isI_T1 {b : Nat} (h : isT b = true) : isI (b + 1) = true := (isT_I h).1
theorem isI_T2 {b : Nat} (h : isT b = true) : isI (b + 2) = true := (isT_I h).2.1
theorem isI_T3 {b : Nat} (h : isT b = true) : isI (b + 3) = true := (isT_I h).2.2.1
theorem isI_T4 {b : Nat} (h : isT b = true) : isI (b + 4) = true := (isT_I h).2.2.2
theorem isH_or {b : Nat} (h : isH b = true) : b = 3 ∨ b = 9 := by
  simpa only [isH, Bool.or_eq_true, beq_iff_eq] using h
theorem isM_or {b : Nat} (h : isM b = true) : b = 30 ∨ b = 31 := by
  simpa only [isM, Bool.or_eq_true, beq_iff_eq] using h
theorem isI_H1 {b : Nat} (h : isH b = true) : isI (b + 1) = true := by rcases isH_or h with rfl | rfl <;> rfl
theorem isI_H2 {b : Nat} (h : isH b = true) : isI (b + 2) = true := by rcases isH_or h with rfl | rfl <;> rfl
theorem isI_H3 {b : Nat} (h : isH b = true) : isI (b + 3) = true := by rcases isH_or h with rfl | rfl <;> rfl
theorem isI_H4 {b : Nat} (h : isH b = true) : isI (b + 4) = true := by rcases isH_or h with rfl | rfl <;> rfl
theorem isI_H5 {b : Nat} (h : isH b = true) : isI (b + 5) = true := by rcases isH_or h with rfl | rfl <;> rfl
theorem isT_M {b : Nat} (h : isM b = true) : isT (117 + 5 * (b - 30)) = true := by rcases isM_or h with rfl | rfl <;> rfl
theorem isH_lt {b : Nat} (h : isH b = true) : b < 148 := by rcases isH_or h with rfl | rfl <;> decide
theorem isM_lt {b : Nat} (h : isM b = true) : b < 148 := by rcases isM_or h with rfl | rfl <;> decide
theorem isT_nI {b : Nat} (h : isT b = true) : isI b = false := by
  simp only [isT, Bool.and_eq_true, decide_eq_true_eq] at h
  obtain ⟨⟨h1, h2⟩, h3⟩ := h
  rw [Bool.eq_false_iff]
  intro h4
  simp only [isI, Bool.or_eq_true, Bool.and_eq_true, decide_eq_true_eq, beq_iff_eq, Bool.not_eq_true', decide_eq_false_iff_not] at h4
  omega
section XO
variable {X : xX} {S : xS} {b : Nat}
theorem xE_T (f : Nat → Int32) (h : isT b = true) : xE X b f = .inr (7, [.ref (X.2.1 (b + 1)), .ref (X.2.1 (b + 2)), .ref (X.2.1 (b + 3)), .ref (X.2.1 (b + 4)), .int (f 4), .int (f 5)]) := by
  unfold xE
  rw [if_neg (by rw [isT_nI h]; decide), if_pos h]
theorem xE_H (f : Nat → Int32) (h : isH b = true) : xE X b f = .inr (2, [.ref (X.2.1 (b + 1)), .ref (X.2.1 (b + 2)), .ref (X.2.1 (b + 3)), .ref (X.2.1 (b + 4)), .ref (X.2.1 (b + 5)), .int (f 5), .int (f 6), .int (f 7), .int (f 8), .int (f 9)]) := by
  rcases isH_or h with rfl | rfl <;> rfl
theorem xE_M (f : Nat → Int32) (h : isM b = true) : xE X b f = .inr (3, [.ref (X.2.1 (117 + 5 * (b - 30))), .int (f 1), .int (f 2)]) := by
  rcases isM_or h with rfl | rfl <;> rfl
theorem xo_T (h : isT b = true) : (xW X S)[b]? = some (X.2.1 b, .inr (7, [.ref (X.2.1 (b + 1)), .ref (X.2.1 (b + 2)), .ref (X.2.1 (b + 3)), .ref (X.2.1 (b + 4)), .int (S b 4), .int (S b 5)])) := by
  rw [xW_at X S (isT_lt h), xE_T _ h]
theorem xo_H (h : isH b = true) : (xW X S)[b]? = some (X.2.1 b, .inr (2, [.ref (X.2.1 (b + 1)), .ref (X.2.1 (b + 2)), .ref (X.2.1 (b + 3)), .ref (X.2.1 (b + 4)), .ref (X.2.1 (b + 5)), .int (S b 5), .int (S b 6), .int (S b 7), .int (S b 8), .int (S b 9)])) := by
  rw [xW_at X S (isH_lt h), xE_H _ h]
theorem xo_M (h : isM b = true) : (xW X S)[b]? = some (X.2.1 b, .inr (3, [.ref (X.2.1 (117 + 5 * (b - 30))), .int (S b 1), .int (S b 2)])) := by
  rw [xW_at X S (isM_lt h), xE_M _ h]
theorem xo_X0 : (xW X S)[23]? = some (X.2.1 23, .inr (0, [.ref (X.2.1 24), .ref (X.2.1 25), .int (S 23 2)])) := xW_at X S (by decide)
theorem xo_X1 : (xW X S)[26]? = some (X.2.1 26, .inr (1, [.int (S 26 0)])) := xW_at X S (by decide)
theorem xo_X4 : (xW X S)[15]? = some (X.2.1 15, .inr (4, [.ref (X.2.1 9), .ref (X.2.1 32)])) := xW_at X S (by decide)
theorem xo_X5 : (xW X S)[19]? = some (X.2.1 19, .inr (5, [.ref (X.2.1 20), .ref (X.2.1 21), .ref (X.2.1 22), .int (S 19 3)])) := xW_at X S (by decide)
theorem xo_X6 : (xW X S)[27]? = some (X.2.1 27, .inr (6, [.ref (X.2.1 28), .int (S 27 1), .int (S 27 2)])) := xW_at X S (by decide)
theorem xo_X8 : (xW X S)[1]? = some (X.2.1 1, .inr (8, [.ref (X.2.1 2), .ref (X.2.1 3), .int (S 1 2), .int (S 1 3), .int (S 1 4), .int (S 1 5), .int (S 1 6), .int (S 1 7)])) := xW_at X S (by decide)
theorem xo_X9 : (xW X S)[16]? = some (X.2.1 16, .inr (9, [.ref (X.2.1 9), .ref (X.2.1 32), .ref (X.2.1 15), .ref (X.2.1 17), .ref (X.2.1 18)])) := xW_at X S (by decide)
theorem xo_X10 : (xW X S)[0]? = some (X.2.1 0, .inr (10, [.ref (X.2.1 1), .ref (X.2.1 9), .ref (X.2.1 32), .ref (X.2.1 15), .ref (X.2.1 16), .ref (X.2.1 27), .ref (X.2.1 19), .ref (X.2.1 23), .ref (X.2.1 26), .ref (X.2.1 29)])) := xW_at X S (by decide)
theorem xo_X11 : (xW X S)[127]? = some (X.2.1 127, .inr (11, [.int (S 127 0), .int (S 127 1), .int (S 127 2), .int (S 127 3), .ref (X.2.1 128), .ref (X.2.1 129), .int (S 127 6), .ref (X.2.1 130), .ref (X.2.1 131), .ref (X.2.1 132), .int (S 127 10), .int (S 127 11), .ref (X.2.1 133), .ref (X.2.1 134), .ref (X.2.1 135), .int (S 127 15), .ref (X.2.1 136), .ref (X.2.1 137), .ref (X.2.1 138), .int (S 127 19), .int (S 127 20), .int (S 127 21), .int (S 127 22), .int (S 127 23), .int (S 127 24), .int (S 127 25), .int (S 127 26), .int (S 127 27), .ref (X.2.1 139), .ref (X.2.1 140), .int (S 127 30), .ref (X.2.1 141), .ref (X.2.1 142), .int (S 127 33), .ref (X.2.1 143), .int (S 127 35), .int (S 127 36), .ref (X.2.1 144), .ref (X.2.1 145), .ref (X.2.1 146), .ref (X.2.1 147)])) := xW_at X S (by decide)
theorem xn_X2_5 {v : Int32} (h : isH b = true) : (.inr (2, ([.ref (X.2.1 (b + 1)), .ref (X.2.1 (b + 2)), .ref (X.2.1 (b + 3)), .ref (X.2.1 (b + 4)), .ref (X.2.1 (b + 5)), .int (S b 5), .int (S b 6), .int (S b 7), .int (S b 8), .int (S b 9)] : List Value).set 5 (.int v)) : va_E) = xE X b (upd (S b) 5 v) := by rw [xE_H _ h]; rfl
theorem xn_X2_6 {v : Int32} (h : isH b = true) : (.inr (2, ([.ref (X.2.1 (b + 1)), .ref (X.2.1 (b + 2)), .ref (X.2.1 (b + 3)), .ref (X.2.1 (b + 4)), .ref (X.2.1 (b + 5)), .int (S b 5), .int (S b 6), .int (S b 7), .int (S b 8), .int (S b 9)] : List Value).set 6 (.int v)) : va_E) = xE X b (upd (S b) 6 v) := by rw [xE_H _ h]; rfl
theorem xn_X2_7 {v : Int32} (h : isH b = true) : (.inr (2, ([.ref (X.2.1 (b + 1)), .ref (X.2.1 (b + 2)), .ref (X.2.1 (b + 3)), .ref (X.2.1 (b + 4)), .ref (X.2.1 (b + 5)), .int (S b 5), .int (S b 6), .int (S b 7), .int (S b 8), .int (S b 9)] : List Value).set 7 (.int v)) : va_E) = xE X b (upd (S b) 7 v) := by rw [xE_H _ h]; rfl
theorem xn_X2_8 {v : Int32} (h : isH b = true) : (.inr (2, ([.ref (X.2.1 (b + 1)), .ref (X.2.1 (b + 2)), .ref (X.2.1 (b + 3)), .ref (X.2.1 (b + 4)), .ref (X.2.1 (b + 5)), .int (S b 5), .int (S b 6), .int (S b 7), .int (S b 8), .int (S b 9)] : List Value).set 8 (.int v)) : va_E) = xE X b (upd (S b) 8 v) := by rw [xE_H _ h]; rfl
theorem xn_X2_9 {v : Int32} (h : isH b = true) : (.inr (2, ([.ref (X.2.1 (b + 1)), .ref (X.2.1 (b + 2)), .ref (X.2.1 (b + 3)), .ref (X.2.1 (b + 4)), .ref (X.2.1 (b + 5)), .int (S b 5), .int (S b 6), .int (S b 7), .int (S b 8), .int (S b 9)] : List Value).set 9 (.int v)) : va_E) = xE X b (upd (S b) 9 v) := by rw [xE_H _ h]; rfl
theorem xn_X7_4 {v : Int32} (h : isT b = true) : (.inr (7, ([.ref (X.2.1 (b + 1)), .ref (X.2.1 (b + 2)), .ref (X.2.1 (b + 3)), .ref (X.2.1 (b + 4)), .int (S b 4), .int (S b 5)] : List Value).set 4 (.int v)) : va_E) = xE X b (upd (S b) 4 v) := by rw [xE_T _ h]; rfl
theorem xn_X7_5 {v : Int32} (h : isT b = true) : (.inr (7, ([.ref (X.2.1 (b + 1)), .ref (X.2.1 (b + 2)), .ref (X.2.1 (b + 3)), .ref (X.2.1 (b + 4)), .int (S b 4), .int (S b 5)] : List Value).set 5 (.int v)) : va_E) = xE X b (upd (S b) 5 v) := by rw [xE_T _ h]; rfl
theorem xn_X3_1 {v : Int32} (h : isM b = true) : (.inr (3, ([.ref (X.2.1 (117 + 5 * (b - 30))), .int (S b 1), .int (S b 2)] : List Value).set 1 (.int v)) : va_E) = xE X b (upd (S b) 1 v) := by rw [xE_M _ h]; rfl
theorem xn_X3_2 {v : Int32} (h : isM b = true) : (.inr (3, ([.ref (X.2.1 (117 + 5 * (b - 30))), .int (S b 1), .int (S b 2)] : List Value).set 2 (.int v)) : va_E) = xE X b (upd (S b) 2 v) := by rw [xE_M _ h]; rfl
end XO
section XR
variable {p : Program} {l : Launch} {e : Env} {R : Room} {s : State} {m : MethodId} {args : Array Value} {below : List Frame} {meth : Method} {c : Code} {H : Heap} {locs : List Loc} {Q : State → Prop} {X : xX} {S : xS} {cc : ByteArray} {nL : Nat} {Ts : List Cond} {own : String} {pc : Nat} {ls : Array Slot} {rest : List Value}
theorem xalen28 (hC : xC X p m c cc nL s args Ts own) (hP : va_P X.1 vwCl (xW X S) H) (hdg : decode cc pc = .ok (.arraylength, 1))
    (kk : W p l e R s m args below meth c H locs 0 0 Q (F0 m (pc + 1) ls (.int (nI 16) :: rest))) : W p l e R s m args below meth c H locs 0 0 Q (F0 m pc ls (.ref (X.2.1 28) :: rest)) :=
  va_alen hC.1.1 hC.1.2.1 hC.2.1 hP 28 3 (xW_at X S (by decide)) (ty := .object "AbsentPraise$Talk") rfl rfl hdg kk
theorem xalen29 (hC : xC X p m c cc nL s args Ts own) (hP : va_P X.1 vwCl (xW X S) H) (hdg : decode cc pc = .ok (.arraylength, 1))
    (kk : W p l e R s m args below meth c H locs 0 0 Q (F0 m (pc + 1) ls (.int (nI 2) :: rest))) : W p l e R s m args below meth c H locs 0 0 Q (F0 m pc ls (.ref (X.2.1 29) :: rest)) :=
  va_alen hC.1.1 hC.1.2.1 hC.2.1 hP 29 2 (xW_at X S (by decide)) (ty := .object "AbsentPraise$Image") rfl rfl hdg kk
theorem xaald28 (hC : xC X p m c cc nL s args Ts own) (hP : va_P X.1 vwCl (xW X S) H) {i : Int32} (hin : vp_in i 16) (hdg : decode cc pc = .ok (.aaload, 1))
    (kk : isT (37 + 5 * i.toNatClampNeg) = true → W p l e R s m args below meth c H locs 0 0 Q (F0 m (pc + 1) ls (.ref (X.2.1 (37 + 5 * i.toNatClampNeg)) :: rest))) : W p l e R s m args below meth c H locs 0 0 Q (F0 m pc ls (.int i :: .ref (X.2.1 28) :: rest)) := by
  refine va_aldq hC.1.1 hC.1.2.1 hC.2.1 hP 28 3 (C := "AbsentPraise$Talk") (f := fun i => some (X.2.1 (37 + 5 * i))) (xW_at X S (by decide)) rfl hin hdg (kk ?_)
  obtain ⟨j, h1, rfl⟩ := vp_in_of hin (by decide)
  rw [nI_clamp (by omega)]
  simp only [isT, Bool.and_eq_true, decide_eq_true_eq]
  omega
theorem xaald29 (hC : xC X p m c cc nL s args Ts own) (hP : va_P X.1 vwCl (xW X S) H) {i : Int32} (hin : vp_in i 2) (hdg : decode cc pc = .ok (.aaload, 1))
    (kk : isM (30 + i.toNatClampNeg) = true → W p l e R s m args below meth c H locs 0 0 Q (F0 m (pc + 1) ls (.ref (X.2.1 (30 + i.toNatClampNeg)) :: rest))) : W p l e R s m args below meth c H locs 0 0 Q (F0 m pc ls (.int i :: .ref (X.2.1 29) :: rest)) := by
  refine va_aldq hC.1.1 hC.1.2.1 hC.2.1 hP 29 2 (C := "AbsentPraise$Image") (f := fun i => some (X.2.1 (30 + i))) (xW_at X S (by decide)) rfl hin hdg (kk ?_)
  obtain ⟨j, h1, rfl⟩ := vp_in_of hin (by decide)
  rw [nI_clamp (by omega)]
  simp only [isM, Bool.or_eq_true, beq_iff_eq]
  omega
theorem xzast (hC : xC X p m c cc nL s args Ts own) (hP : va_P X.1 vwCl (xW X S) H) (hS : va_S (xA X) s.heap H locs) {i v : Int32} (hin : vp_in i 2) (hv : vp_nar .boolean v = v) (hdg : decode cc pc = .ok (.bastore, 1))
    (kk : ∀ (S1 : xS) (_ : S1 = xu S 147 i.toNatClampNeg v) (H1 : Heap) (locs1 : List Loc), va_P X.1 vwCl (xW X S1) H1 → va_S (xA X) s.heap H1 locs1 → W p l e R s m args below meth c H1 locs1 0 0 Q (F0 m (pc + 1) ls rest)) : W p l e R s m args below meth c H locs 0 0 Q (F0 m pc ls (.int v :: .int i :: .ref (X.2.1 147) :: rest)) := by
  refine va_zast hC.1.1 hC.1.2.1 hC.2.1 hP (xD_of X S hC.2.2.2) hS 147 1 xZ_in rfl hin hdg (fun H1 locs1 h1 h2 h3 => ?_)
  refine kk _ rfl H1 locs1 ?_ h3
  rw [hv] at h1
  have he : (Sum.inl (X.2.2.2.1, 2, Sum.inl (upd (S 147) i.toNatClampNeg v)) : va_E) = xE X 147 (upd (S 147) i.toNatClampNeg v) := rfl
  rw [he, xW_set X S (by decide)] at h1
  exact h1
theorem xcopy (hC : xC X p m c cc nL s args Ts own) (hP : va_P X.1 vwCl (xW X S) H) (hS : va_S (xA X) s.heap H locs) (hml : c.maxLocals = ls.size) {index k0 k1 : Nat} {n : Int32} (w1 : Cond.methodLink own index arraycopyName ∈ Ts) (w2 : Cond.native arraycopyName ∈ Ts) (w3 : Cond.static arraycopyName ∈ Ts) (w4 : Cond.initialized "java/lang/System" ∈ Ts) (h0 : isI k0 = true) (h1 : isI k1 = true)
    (hfr : 1 ≤ R.frames) (hlo : (rest.map fun v => v.category).sum + (nativeFrameWords "java/lang/System" "arraycopy" 5 + 11) ≤ R.locals) (hn : ¬ (n < 0) ∧ n.toNatClampNeg ≤ xlen k0 ∧ n.toNatClampNeg ≤ xlen k1) (hdg : decode cc pc = .ok (.invokestatic index, 3))
    (kk : ∀ (S1 : xS) (_ : S1 = xr S k1 (va_cpy (S k0) (S k1) 0 0 n.toNatClampNeg)) (H1 : Heap) (locs1 : List Loc), va_P X.1 vwCl (xW X S1) H1 → va_S (xA X) s.heap H1 locs1 → W p l e R s m args below meth c H1 locs1 0 0 Q (F0 m (pc + 3) ls rest)) : W p l e R s m args below meth c H locs 0 0 Q (F0 m pc ls (.int n :: .int 0 :: .ref (X.2.1 k1) :: .int 0 :: .ref (X.2.1 k0) :: rest)) := by
  have z : (0 : Int32).toNatClampNeg = 0 := rfl
  refine va_copyi hC.1.1 hC.1.2.1 hml hC.1.2.2.2.1 (hC.1.2.2.2.2 _ w1) (hC.1.2.2.2.2 _ w2) (hC.1.2.2.2.2 _ w3) (hC.1.2.2.2.2 _ w4) hC.2.1 hP (xD_of X S hC.2.2.2) hS k0 k1 0 0 (ty := .int) (xI_in h0 (isI_lt h0)) (xI_in h1 (isI_lt h1)) rfl rfl rfl (by decide) (by decide) hn.1 (by rw [z, Nat.zero_add]; exact hn.2.1) (by rw [z, Nat.zero_add]; exact hn.2.2) (fun _ _ => rfl) hfr hlo hdg (fun H1 locs1 g1 g2 g3 => ?_)
  refine kk _ rfl H1 locs1 ?_ g3
  have he : (Sum.inl (X.2.2.1, xlen k1, Sum.inl (va_cpy (S k0) (S k1) (0 : Int32).toNatClampNeg (0 : Int32).toNatClampNeg n.toNatClampNeg)) : va_E) = xE X k1 (va_cpy (S k0) (S k1) 0 0 n.toNatClampNeg) := by unfold xE; rw [if_pos h1]; rfl
  rw [he, xW_set X S (isI_lt h1)] at g1
  exact g1
theorem xPreV {b ci : Nat} {q : vw_C} {fs : List Value} {As : List Value} (hC : xC X p m c cc nL s args Ts own) (hP : va_P X.1 vwCl (xW X S) H) (he : (xW X S)[b]? = some (X.2.1 b, .inr (ci, fs))) (hc : vwCl[ci]? = some q) : PreV s H q.1 (X.2.1 b) (va_Pc (.ref (X.2.1 b) :: As) (xI X S)) As :=
  ⟨xI_blind X S _, va_recv hC.2.1 hP hc he, fun U hU hW => ⟨rfl, xI_at hP hC.2.1 hC.2.2.1 hC.2.2.2 hU hW⟩⟩
theorem xPreS {As : List Value} (hC : xC X p m c cc nL s args Ts own) (hP : va_P X.1 vwCl (xW X S) H) : PreS s H (va_Pc As (xI X S)) As :=
  ⟨xI_blind X S _, fun U hU hW => ⟨rfl, xI_at hP hC.2.1 hC.2.2.1 hC.2.2.2 hU hW⟩⟩
theorem xcV_iR {b ci N : Nat} {T : u_T} {fs : List Value} {C : String} {As st0 : List Value} {y : MethodName} {bytes : ByteArray} {maxL index n : Nat} {ret : Option FieldType} {ws : List Cond} {rm : Room} {P : Int32 → Prop} (hC : xC X p m c cc nL s args Ts own) (hP : va_P X.1 vwCl (xW X S) H) (hS : va_S (xA X) s.heap H locs) (hM : Met l y ws rm (va_Pc (.ref (X.2.1 b) :: As) (xI X S)) (va_Qi (fun (r : Int32) (u : xS) => P r ∧ u = S) (xI X) (xA X)) 0 0 (xA X)) (cw : CallW R s args own C index y bytes maxL ret ws rm 0 0 n) (he : (xW X S)[b]? = some (X.2.1 b, .inr (ci, fs))) (hc : vwCl[ci]? = some (C, T, N)) (hn : As.length = n) (hst : st0 = As.reverse ++ .ref (X.2.1 b) :: rest) (hsz : ls.size = nL) (hcat : (rest.map fun v => v.category).sum ≤ 8) (hdg : decode cc pc = .ok (.invokevirtual index, 3))
    (kk : ∀ (r : Int32) (_ : P r) (H1 : Heap) (locs1 : List Loc), va_P X.1 vwCl (xW X S) H1 → va_S (xA X) s.heap H1 locs1 → W p l e R s m args below meth c H1 locs1 0 0 Q (F0 m (pc + 3) ls (.int r :: rest))) : W p l e R s m args below meth c H locs 0 0 Q (F0 m pc ls st0) := by
  refine va_calli (va_runV hC.1 hM cw (xPreV hC hP he hc) rfl hn hsz (show st0 = _ from hst) (lv_room hcat) hdg ⟨Nat.zero_le _, Nat.zero_le _⟩) hS (fun q _ h => h) (fun q h => h) (fun r u t H1 locs1 ht hvm hw hB hz1 hk1 hS1 => ?_)
  obtain ⟨hP1, -, -, -⟩ := hB
  rw [ht] at hP1
  obtain ⟨hw, rfl⟩ := hw
  exact kk r hw H1 locs1 hP1 hS1
theorem xcV_iW {b ci N : Nat} {T : u_T} {fs : List Value} {C : String} {As st0 : List Value} {y : MethodName} {bytes : ByteArray} {maxL index n : Nat} {ret : Option FieldType} {ws : List Cond} {rm : Room} {P : Int32 → xS → Prop} (hC : xC X p m c cc nL s args Ts own) (hP : va_P X.1 vwCl (xW X S) H) (hS : va_S (xA X) s.heap H locs) (hM : Met l y ws rm (va_Pc (.ref (X.2.1 b) :: As) (xI X S)) (va_Qi (fun (r : Int32) (u : xS) => P r u) (xI X) (xA X)) 0 0 (xA X)) (cw : CallW R s args own C index y bytes maxL ret ws rm 0 0 n) (he : (xW X S)[b]? = some (X.2.1 b, .inr (ci, fs))) (hc : vwCl[ci]? = some (C, T, N)) (hn : As.length = n) (hst : st0 = As.reverse ++ .ref (X.2.1 b) :: rest) (hsz : ls.size = nL) (hcat : (rest.map fun v => v.category).sum ≤ 8) (hdg : decode cc pc = .ok (.invokevirtual index, 3))
    (kk : ∀ (r : Int32) (S1 : xS) (_ : P r S1) (H1 : Heap) (locs1 : List Loc), va_P X.1 vwCl (xW X S1) H1 → va_S (xA X) s.heap H1 locs1 → W p l e R s m args below meth c H1 locs1 0 0 Q (F0 m (pc + 3) ls (.int r :: rest))) : W p l e R s m args below meth c H locs 0 0 Q (F0 m pc ls st0) := by
  refine va_calli (va_runV hC.1 hM cw (xPreV hC hP he hc) rfl hn hsz (show st0 = _ from hst) (lv_room hcat) hdg ⟨Nat.zero_le _, Nat.zero_le _⟩) hS (fun q _ h => h) (fun q h => h) (fun r u t H1 locs1 ht hvm hw hB hz1 hk1 hS1 => ?_)
  obtain ⟨hP1, -, -, -⟩ := hB
  rw [ht] at hP1
  exact kk r u hw H1 locs1 hP1 hS1
theorem xcV_vW {b ci N : Nat} {T : u_T} {fs : List Value} {C : String} {As st0 : List Value} {y : MethodName} {bytes : ByteArray} {maxL index n : Nat} {ret : Option FieldType} {ws : List Cond} {rm : Room} {F : xS} (hC : xC X p m c cc nL s args Ts own) (hP : va_P X.1 vwCl (xW X S) H) (hS : va_S (xA X) s.heap H locs) (hM : Met l y ws rm (va_Pc (.ref (X.2.1 b) :: As) (xI X S)) (va_Qv (fun u : xS => u = F) (xI X) (xA X)) 0 0 (xA X)) (cw : CallW R s args own C index y bytes maxL ret ws rm 0 0 n) (he : (xW X S)[b]? = some (X.2.1 b, .inr (ci, fs))) (hc : vwCl[ci]? = some (C, T, N)) (hn : As.length = n) (hst : st0 = As.reverse ++ .ref (X.2.1 b) :: rest) (hsz : ls.size = nL) (hcat : (rest.map fun v => v.category).sum ≤ 8) (hdg : decode cc pc = .ok (.invokevirtual index, 3))
    (kk : ∀ (S1 : xS) (_ : S1 = F) (H1 : Heap) (locs1 : List Loc), va_P X.1 vwCl (xW X S1) H1 → va_S (xA X) s.heap H1 locs1 → W p l e R s m args below meth c H1 locs1 0 0 Q (F0 m (pc + 3) ls rest)) : W p l e R s m args below meth c H locs 0 0 Q (F0 m pc ls st0) := by
  refine va_callv (va_runV hC.1 hM cw (xPreV hC hP he hc) rfl hn hsz (show st0 = _ from hst) (lv_room hcat) hdg ⟨Nat.zero_le _, Nat.zero_le _⟩) hS (fun q _ h => h) (fun q h => h) (fun u t H1 locs1 ht hvm hw hB hz1 hk1 hS1 => ?_)
  obtain ⟨hP1, -, -, -⟩ := hB
  rw [ht] at hP1
  exact kk u hw H1 locs1 hP1 hS1
theorem xcV_qR {b ci N : Nat} {T : u_T} {fs : List Value} {C : String} {As st0 : List Value} {y : MethodName} {bytes : ByteArray} {maxL index n : Nat} {ret : Option FieldType} {ws : List Cond} {rm : Room} {P : Option Nat → Prop} (hC : xC X p m c cc nL s args Ts own) (hP : va_P X.1 vwCl (xW X S) H) (hS : va_S (xA X) s.heap H locs) (hM : Met l y ws rm (va_Pc (.ref (X.2.1 b) :: As) (xI X S)) (va_Qq (fun (r : Option Nat) (u : xS) => P r ∧ u = S) (xI X) (xA X)) 0 0 (xA X)) (cw : CallW R s args own C index y bytes maxL ret ws rm 0 0 n) (he : (xW X S)[b]? = some (X.2.1 b, .inr (ci, fs))) (hc : vwCl[ci]? = some (C, T, N)) (hn : As.length = n) (hst : st0 = As.reverse ++ .ref (X.2.1 b) :: rest) (hsz : ls.size = nL) (hcat : (rest.map fun v => v.category).sum ≤ 8) (hdg : decode cc pc = .ok (.invokevirtual index, 3))
    (kk : ∀ (r : Option Nat) (_ : P r) (H1 : Heap) (locs1 : List Loc), va_P X.1 vwCl (xW X S) H1 → va_S (xA X) s.heap H1 locs1 → W p l e R s m args below meth c H1 locs1 0 0 Q (F0 m (pc + 3) ls (va_rf r :: rest))) : W p l e R s m args below meth c H locs 0 0 Q (F0 m pc ls st0) := by
  refine va_callq (va_runV hC.1 hM cw (xPreV hC hP he hc) rfl hn hsz (show st0 = _ from hst) (lv_room hcat) hdg ⟨Nat.zero_le _, Nat.zero_le _⟩) hS (fun q _ h => h) (fun q h => h) (fun r u t H1 locs1 ht hvm hw hB hz1 hk1 hS1 => ?_)
  obtain ⟨hP1, -, -, -⟩ := hB
  rw [ht] at hP1
  obtain ⟨hw, rfl⟩ := hw
  exact kk r hw H1 locs1 hP1 hS1
theorem xcSN_iR {host : String} {As st0 : List Value} {y : MethodName} {bytes : ByteArray} {maxL index n : Nat} {ret : Option FieldType} {ws : List Cond} {rm : Room} {P : Int32 → Prop} (hC : xC X p m c cc nL s args Ts own) (hP : va_P X.1 vwCl (xW X S) H) (hS : va_S (xA X) s.heap H locs) (hM : Met l y ws rm (va_Pc As (xI X S)) (va_Qi (fun (r : Int32) (u : xS) => P r ∧ u = S) (xI X) (xA X)) 0 0 (xA X)) (cw : va_CN R s args own index y host bytes maxL ret ws rm 0 0 n) (hst1 : (Cond.static y).before args s = true) (hn : As.length = n) (hst : st0 = As.reverse ++ rest) (hsz : ls.size = nL) (hcat : (rest.map fun v => v.category).sum ≤ 8) (hdg : decode cc pc = .ok (.invokestatic index, 3))
    (kk : ∀ (r : Int32) (_ : P r) (H1 : Heap) (locs1 : List Loc), va_P X.1 vwCl (xW X S) H1 → va_S (xA X) s.heap H1 locs1 → W p l e R s m args below meth c H1 locs1 0 0 Q (F0 m (pc + 3) ls (.int r :: rest))) : W p l e R s m args below meth c H locs 0 0 Q (F0 m pc ls st0) := by
  refine va_calli (va_runSN hC.1 hM ⟨cw, hst1, trivial⟩ (xPreS hC hP) rfl hn hsz (show st0 = _ from hst) (lv_room hcat) hdg ⟨Nat.zero_le _, Nat.zero_le _⟩) hS (fun q _ h => h) (fun q h => h) (fun r u t H1 locs1 ht hvm hw hB hz1 hk1 hS1 => ?_)
  obtain ⟨hP1, -, -, -⟩ := hB
  rw [ht] at hP1
  obtain ⟨hw, rfl⟩ := hw
  exact kk r hw H1 locs1 hP1 hS1
theorem xcSN_iW {host : String} {As st0 : List Value} {y : MethodName} {bytes : ByteArray} {maxL index n : Nat} {ret : Option FieldType} {ws : List Cond} {rm : Room} {P : Int32 → xS → Prop} (hC : xC X p m c cc nL s args Ts own) (hP : va_P X.1 vwCl (xW X S) H) (hS : va_S (xA X) s.heap H locs) (hM : Met l y ws rm (va_Pc As (xI X S)) (va_Qi (fun (r : Int32) (u : xS) => P r u) (xI X) (xA X)) 0 0 (xA X)) (cw : va_CN R s args own index y host bytes maxL ret ws rm 0 0 n) (hst1 : (Cond.static y).before args s = true) (hn : As.length = n) (hst : st0 = As.reverse ++ rest) (hsz : ls.size = nL) (hcat : (rest.map fun v => v.category).sum ≤ 8) (hdg : decode cc pc = .ok (.invokestatic index, 3))
    (kk : ∀ (r : Int32) (S1 : xS) (_ : P r S1) (H1 : Heap) (locs1 : List Loc), va_P X.1 vwCl (xW X S1) H1 → va_S (xA X) s.heap H1 locs1 → W p l e R s m args below meth c H1 locs1 0 0 Q (F0 m (pc + 3) ls (.int r :: rest))) : W p l e R s m args below meth c H locs 0 0 Q (F0 m pc ls st0) := by
  refine va_calli (va_runSN hC.1 hM ⟨cw, hst1, trivial⟩ (xPreS hC hP) rfl hn hsz (show st0 = _ from hst) (lv_room hcat) hdg ⟨Nat.zero_le _, Nat.zero_le _⟩) hS (fun q _ h => h) (fun q h => h) (fun r u t H1 locs1 ht hvm hw hB hz1 hk1 hS1 => ?_)
  obtain ⟨hP1, -, -, -⟩ := hB
  rw [ht] at hP1
  exact kk r u hw H1 locs1 hP1 hS1
theorem xcSN_vW {host : String} {As st0 : List Value} {y : MethodName} {bytes : ByteArray} {maxL index n : Nat} {ret : Option FieldType} {ws : List Cond} {rm : Room} {F : xS} (hC : xC X p m c cc nL s args Ts own) (hP : va_P X.1 vwCl (xW X S) H) (hS : va_S (xA X) s.heap H locs) (hM : Met l y ws rm (va_Pc As (xI X S)) (va_Qv (fun u : xS => u = F) (xI X) (xA X)) 0 0 (xA X)) (cw : va_CN R s args own index y host bytes maxL ret ws rm 0 0 n) (hst1 : (Cond.static y).before args s = true) (hn : As.length = n) (hst : st0 = As.reverse ++ rest) (hsz : ls.size = nL) (hcat : (rest.map fun v => v.category).sum ≤ 8) (hdg : decode cc pc = .ok (.invokestatic index, 3))
    (kk : ∀ (S1 : xS) (_ : S1 = F) (H1 : Heap) (locs1 : List Loc), va_P X.1 vwCl (xW X S1) H1 → va_S (xA X) s.heap H1 locs1 → W p l e R s m args below meth c H1 locs1 0 0 Q (F0 m (pc + 3) ls rest)) : W p l e R s m args below meth c H locs 0 0 Q (F0 m pc ls st0) := by
  refine va_callv (va_runSN hC.1 hM ⟨cw, hst1, trivial⟩ (xPreS hC hP) rfl hn hsz (show st0 = _ from hst) (lv_room hcat) hdg ⟨Nat.zero_le _, Nat.zero_le _⟩) hS (fun q _ h => h) (fun q h => h) (fun u t H1 locs1 ht hvm hw hB hz1 hk1 hS1 => ?_)
  obtain ⟨hP1, -, -, -⟩ := hB
  rw [ht] at hP1
  exact kk u hw H1 locs1 hP1 hS1
theorem xcSN_qR {host : String} {As st0 : List Value} {y : MethodName} {bytes : ByteArray} {maxL index n : Nat} {ret : Option FieldType} {ws : List Cond} {rm : Room} {P : Option Nat → Prop} (hC : xC X p m c cc nL s args Ts own) (hP : va_P X.1 vwCl (xW X S) H) (hS : va_S (xA X) s.heap H locs) (hM : Met l y ws rm (va_Pc As (xI X S)) (va_Qq (fun (r : Option Nat) (u : xS) => P r ∧ u = S) (xI X) (xA X)) 0 0 (xA X)) (cw : va_CN R s args own index y host bytes maxL ret ws rm 0 0 n) (hst1 : (Cond.static y).before args s = true) (hn : As.length = n) (hst : st0 = As.reverse ++ rest) (hsz : ls.size = nL) (hcat : (rest.map fun v => v.category).sum ≤ 8) (hdg : decode cc pc = .ok (.invokestatic index, 3))
    (kk : ∀ (r : Option Nat) (_ : P r) (H1 : Heap) (locs1 : List Loc), va_P X.1 vwCl (xW X S) H1 → va_S (xA X) s.heap H1 locs1 → W p l e R s m args below meth c H1 locs1 0 0 Q (F0 m (pc + 3) ls (va_rf r :: rest))) : W p l e R s m args below meth c H locs 0 0 Q (F0 m pc ls st0) := by
  refine va_callq (va_runSN hC.1 hM ⟨cw, hst1, trivial⟩ (xPreS hC hP) rfl hn hsz (show st0 = _ from hst) (lv_room hcat) hdg ⟨Nat.zero_le _, Nat.zero_le _⟩) hS (fun q _ h => h) (fun q h => h) (fun r u t H1 locs1 ht hvm hw hB hz1 hk1 hS1 => ?_)
  obtain ⟨hP1, -, -, -⟩ := hB
  rw [ht] at hP1
  obtain ⟨hw, rfl⟩ := hw
  exact kk r hw H1 locs1 hP1 hS1
theorem xcS_iR  {As st0 : List Value} {y : MethodName} {bytes : ByteArray} {maxL index n : Nat} {ret : Option FieldType} {ws : List Cond} {rm : Room} {P : Int32 → Prop} (hC : xC X p m c cc nL s args Ts own) (hP : va_P X.1 vwCl (xW X S) H) (hS : va_S (xA X) s.heap H locs) (hM : Met l y ws rm (va_Pc As (xI X S)) (va_Qi (fun (r : Int32) (u : xS) => P r ∧ u = S) (xI X) (xA X)) 0 0 (xA X)) (cw : CallB R s args own index y bytes maxL ret ws rm 0 0 n ∧ (Cond.static y).before args s = true) (hn : As.length = n) (hst : st0 = As.reverse ++ rest) (hsz : ls.size = nL) (hcat : (rest.map fun v => v.category).sum ≤ 8) (hdg : decode cc pc = .ok (.invokestatic index, 3))
    (kk : ∀ (r : Int32) (_ : P r) (H1 : Heap) (locs1 : List Loc), va_P X.1 vwCl (xW X S) H1 → va_S (xA X) s.heap H1 locs1 → W p l e R s m args below meth c H1 locs1 0 0 Q (F0 m (pc + 3) ls (.int r :: rest))) : W p l e R s m args below meth c H locs 0 0 Q (F0 m pc ls st0) := by
  refine va_calli (va_runS hC.1 hM cw (xPreS hC hP) rfl hn hsz (show st0 = _ from hst) (lv_room hcat) hdg ⟨Nat.zero_le _, Nat.zero_le _⟩) hS (fun q _ h => h) (fun q h => h) (fun r u t H1 locs1 ht hvm hw hB hz1 hk1 hS1 => ?_)
  obtain ⟨hP1, -, -, -⟩ := hB
  rw [ht] at hP1
  obtain ⟨hw, rfl⟩ := hw
  exact kk r hw H1 locs1 hP1 hS1
theorem xcS_iW  {As st0 : List Value} {y : MethodName} {bytes : ByteArray} {maxL index n : Nat} {ret : Option FieldType} {ws : List Cond} {rm : Room} {P : Int32 → xS → Prop} (hC : xC X p m c cc nL s args Ts own) (hP : va_P X.1 vwCl (xW X S) H) (hS : va_S (xA X) s.heap H locs) (hM : Met l y ws rm (va_Pc As (xI X S)) (va_Qi (fun (r : Int32) (u : xS) => P r u) (xI X) (xA X)) 0 0 (xA X)) (cw : CallB R s args own index y bytes maxL ret ws rm 0 0 n ∧ (Cond.static y).before args s = true) (hn : As.length = n) (hst : st0 = As.reverse ++ rest) (hsz : ls.size = nL) (hcat : (rest.map fun v => v.category).sum ≤ 8) (hdg : decode cc pc = .ok (.invokestatic index, 3))
    (kk : ∀ (r : Int32) (S1 : xS) (_ : P r S1) (H1 : Heap) (locs1 : List Loc), va_P X.1 vwCl (xW X S1) H1 → va_S (xA X) s.heap H1 locs1 → W p l e R s m args below meth c H1 locs1 0 0 Q (F0 m (pc + 3) ls (.int r :: rest))) : W p l e R s m args below meth c H locs 0 0 Q (F0 m pc ls st0) := by
  refine va_calli (va_runS hC.1 hM cw (xPreS hC hP) rfl hn hsz (show st0 = _ from hst) (lv_room hcat) hdg ⟨Nat.zero_le _, Nat.zero_le _⟩) hS (fun q _ h => h) (fun q h => h) (fun r u t H1 locs1 ht hvm hw hB hz1 hk1 hS1 => ?_)
  obtain ⟨hP1, -, -, -⟩ := hB
  rw [ht] at hP1
  exact kk r u hw H1 locs1 hP1 hS1
theorem xcS_vW  {As st0 : List Value} {y : MethodName} {bytes : ByteArray} {maxL index n : Nat} {ret : Option FieldType} {ws : List Cond} {rm : Room} {F : xS} (hC : xC X p m c cc nL s args Ts own) (hP : va_P X.1 vwCl (xW X S) H) (hS : va_S (xA X) s.heap H locs) (hM : Met l y ws rm (va_Pc As (xI X S)) (va_Qv (fun u : xS => u = F) (xI X) (xA X)) 0 0 (xA X)) (cw : CallB R s args own index y bytes maxL ret ws rm 0 0 n ∧ (Cond.static y).before args s = true) (hn : As.length = n) (hst : st0 = As.reverse ++ rest) (hsz : ls.size = nL) (hcat : (rest.map fun v => v.category).sum ≤ 8) (hdg : decode cc pc = .ok (.invokestatic index, 3))
    (kk : ∀ (S1 : xS) (_ : S1 = F) (H1 : Heap) (locs1 : List Loc), va_P X.1 vwCl (xW X S1) H1 → va_S (xA X) s.heap H1 locs1 → W p l e R s m args below meth c H1 locs1 0 0 Q (F0 m (pc + 3) ls rest)) : W p l e R s m args below meth c H locs 0 0 Q (F0 m pc ls st0) := by
  refine va_callv (va_runS hC.1 hM cw (xPreS hC hP) rfl hn hsz (show st0 = _ from hst) (lv_room hcat) hdg ⟨Nat.zero_le _, Nat.zero_le _⟩) hS (fun q _ h => h) (fun q h => h) (fun u t H1 locs1 ht hvm hw hB hz1 hk1 hS1 => ?_)
  obtain ⟨hP1, -, -, -⟩ := hB
  rw [ht] at hP1
  exact kk u hw H1 locs1 hP1 hS1
theorem xcS_qR  {As st0 : List Value} {y : MethodName} {bytes : ByteArray} {maxL index n : Nat} {ret : Option FieldType} {ws : List Cond} {rm : Room} {P : Option Nat → Prop} (hC : xC X p m c cc nL s args Ts own) (hP : va_P X.1 vwCl (xW X S) H) (hS : va_S (xA X) s.heap H locs) (hM : Met l y ws rm (va_Pc As (xI X S)) (va_Qq (fun (r : Option Nat) (u : xS) => P r ∧ u = S) (xI X) (xA X)) 0 0 (xA X)) (cw : CallB R s args own index y bytes maxL ret ws rm 0 0 n ∧ (Cond.static y).before args s = true) (hn : As.length = n) (hst : st0 = As.reverse ++ rest) (hsz : ls.size = nL) (hcat : (rest.map fun v => v.category).sum ≤ 8) (hdg : decode cc pc = .ok (.invokestatic index, 3))
    (kk : ∀ (r : Option Nat) (_ : P r) (H1 : Heap) (locs1 : List Loc), va_P X.1 vwCl (xW X S) H1 → va_S (xA X) s.heap H1 locs1 → W p l e R s m args below meth c H1 locs1 0 0 Q (F0 m (pc + 3) ls (va_rf r :: rest))) : W p l e R s m args below meth c H locs 0 0 Q (F0 m pc ls st0) := by
  refine va_callq (va_runS hC.1 hM cw (xPreS hC hP) rfl hn hsz (show st0 = _ from hst) (lv_room hcat) hdg ⟨Nat.zero_le _, Nat.zero_le _⟩) hS (fun q _ h => h) (fun q h => h) (fun r u t H1 locs1 ht hvm hw hB hz1 hk1 hS1 => ?_)
  obtain ⟨hP1, -, -, -⟩ := hB
  rw [ht] at hP1
  obtain ⟨hw, rfl⟩ := hw
  exact kk r hw H1 locs1 hP1 hS1
/-! returns -/
theorem xI_end {S1 : xS} {t : State} (hC : xC X p m c cc nL s args Ts own) (hP : va_P X.1 vwCl (xW X S1) H) (ht : t.heap = H) (hW : s.WarmedH t.vm) : xI X S1 t := xI_at hP hC.2.1 hC.2.2.1 hC.2.2.2 ht hW
theorem xret_iR {f v : Int32} (hC : xC X p m c cc nL s args Ts own) (hP : va_P X.1 vwCl (xW X S) H) (hS : va_S (xA X) s.heap H locs) (hb : c.code = cc) (hr : meth.sig.returnType = some .int) (hv : f = v) (hdg : decode cc pc = .ok (.ireturn, 1)) (hlocks : meth.locks = false) : W p l e R s m args below meth c H locs 0 0 (MQ below (va_Qi (fun (r : Int32) (u : xS) => r = f ∧ u = S) (xI X) (xA X)) args s 0 0 (xA X)) (F0 m pc ls [.int v]) :=
  W.iret (v := v) hC.1.1 hb hr (fun t ht hW => ⟨⟨v, S, rfl, ⟨hv.symm, rfl⟩, xI_end hC hP ht hW⟩, hS.F ht⟩) hS.2.2 hdg hlocks
theorem xret_iW {f : Int32 × xS} {S1 : xS} {v : Int32} (hC : xC X p m c cc nL s args Ts own) (hP : va_P X.1 vwCl (xW X S1) H) (hS : va_S (xA X) s.heap H locs) (hb : c.code = cc) (hr : meth.sig.returnType = some .int) (hv : f = (v, S1)) (hdg : decode cc pc = .ok (.ireturn, 1)) (hlocks : meth.locks = false) : W p l e R s m args below meth c H locs 0 0 (MQ below (va_Qi (fun (r : Int32) (u : xS) => r = f.1 ∧ u = f.2) (xI X) (xA X)) args s 0 0 (xA X)) (F0 m pc ls [.int v]) :=
  W.iret (v := v) hC.1.1 hb hr (fun t ht hW => ⟨⟨v, S1, rfl, ⟨by rw [hv], by rw [hv]⟩, xI_end hC hP ht hW⟩, hS.F ht⟩) hS.2.2 hdg hlocks
theorem bool_nar {v : Int32} (h : v = 0 ∨ v = 1) : narrow .boolean (.int v) = .int v := by rcases h with rfl | rfl <;> rfl
theorem xret_zR {f v : Int32} (hC : xC X p m c cc nL s args Ts own) (hP : va_P X.1 vwCl (xW X S) H) (hS : va_S (xA X) s.heap H locs) (hb : c.code = cc) (hr : meth.sig.returnType = some .boolean) (hz : v = 0 ∨ v = 1) (hv : f = v) (hdg : decode cc pc = .ok (.ireturn, 1)) (hlocks : meth.locks = false) : W p l e R s m args below meth c H locs 0 0 (MQ below (va_Qi (fun (r : Int32) (u : xS) => (r = f ∧ (r = 0 ∨ r = 1)) ∧ u = S) (xI X) (xA X)) args s 0 0 (xA X)) (F0 m pc ls [.int v]) :=
  W.zret (v := v) hC.1.1 hb hr (bool_nar hz) (fun t ht hW => ⟨⟨v, S, rfl, ⟨⟨hv.symm, hz⟩, rfl⟩, xI_end hC hP ht hW⟩, hS.F ht⟩) hS.2.2 hdg hlocks
theorem xret_zW {f : Int32 × xS} {S1 : xS} {v : Int32} (hC : xC X p m c cc nL s args Ts own) (hP : va_P X.1 vwCl (xW X S1) H) (hS : va_S (xA X) s.heap H locs) (hb : c.code = cc) (hr : meth.sig.returnType = some .boolean) (hz : v = 0 ∨ v = 1) (hv : f = (v, S1)) (hdg : decode cc pc = .ok (.ireturn, 1)) (hlocks : meth.locks = false) : W p l e R s m args below meth c H locs 0 0 (MQ below (va_Qi (fun (r : Int32) (u : xS) => r = f.1 ∧ u = f.2 ∧ (r = 0 ∨ r = 1)) (xI X) (xA X)) args s 0 0 (xA X)) (F0 m pc ls [.int v]) :=
  W.zret (v := v) hC.1.1 hb hr (bool_nar hz) (fun t ht hW => ⟨⟨v, S1, rfl, ⟨by rw [hv], by rw [hv], hz⟩, xI_end hC hP ht hW⟩, hS.F ht⟩) hS.2.2 hdg hlocks
theorem xret_v {f S1 : xS} (hC : xC X p m c cc nL s args Ts own) (hP : va_P X.1 vwCl (xW X S1) H) (hS : va_S (xA X) s.heap H locs) (hb : c.code = cc) (hr : meth.sig.returnType = none) (hv : f = S1) (hdg : decode cc pc = .ok (.return_, 1)) (hlocks : meth.locks = false) : W p l e R s m args below meth c H locs 0 0 (MQ below (va_Qv (fun u : xS => u = f) (xI X) (xA X)) args s 0 0 (xA X)) (F0 m pc ls []) :=
  W.vret hC.1.1 hb hr (fun t ht hW => ⟨⟨S1, rfl, hv.symm, xI_end hC hP ht hW⟩, hS.F ht⟩) hS.2.2 hdg hlocks
theorem xret_q {f : Option Nat} {b : Nat} {rt : FieldType} (hC : xC X p m c cc nL s args Ts own) (hP : va_P X.1 vwCl (xW X S) H) (hS : va_S (xA X) s.heap H locs) (hb : c.code = cc) (hr : meth.sig.returnType = some rt) (hrt : (∃ n, rt = .object n) ∨ ∃ t, rt = .array t) (hv : f = some b) (hdg : decode cc pc = .ok (.areturn, 1)) (hlocks : meth.locks = false) : W p l e R s m args below meth c H locs 0 0 (MQ below (va_Qq (fun (r : Option Nat) (u : xS) => r = f.map X.2.1 ∧ u = S) (xI X) (xA X)) args s 0 0 (xA X)) (F0 m pc ls [.ref (X.2.1 b)]) :=
  W.aret (v := .ref (X.2.1 b)) hC.1.1 hb hr hrt (.inr ⟨_, rfl⟩) (fun t ht hW => ⟨⟨some (X.2.1 b), S, rfl, ⟨by rw [hv]; rfl, rfl⟩, xI_end hC hP ht hW⟩, hS.F ht⟩) hS.2.2 hdg hlocks
theorem xret_qN {f : Option Nat} {rt : FieldType} (hC : xC X p m c cc nL s args Ts own) (hP : va_P X.1 vwCl (xW X S) H) (hS : va_S (xA X) s.heap H locs) (hb : c.code = cc) (hr : meth.sig.returnType = some rt) (hrt : (∃ n, rt = .object n) ∨ ∃ t, rt = .array t) (hv : f = none) (hdg : decode cc pc = .ok (.areturn, 1)) (hlocks : meth.locks = false) : W p l e R s m args below meth c H locs 0 0 (MQ below (va_Qq (fun (r : Option Nat) (u : xS) => r = f.map X.2.1 ∧ u = S) (xI X) (xA X)) args s 0 0 (xA X)) (F0 m pc ls [.null]) :=
  W.aret (v := .null) hC.1.1 hb hr hrt (.inl rfl) (fun t ht hW => ⟨⟨none, S, rfl, ⟨by rw [hv]; rfl, rfl⟩, xI_end hC hP ht hW⟩, hS.F ht⟩) hS.2.2 hdg hlocks
end XR
