/-! THE WORLD of the state S -/
abbrev xX : Type := va_G × (Nat → Nat) × (ClassId × ClassId × ClassId × ClassId)
def xE (X : xX) (k : Nat) (f : Nat → Int32) : va_E :=
  if isI k = true then .inl (X.2.2.1, xlen k, .inl f)
  else if isT k = true then .inr (7, [.ref (X.2.1 (k + 1)), .ref (X.2.1 (k + 2)), .ref (X.2.1 (k + 3)), .ref (X.2.1 (k + 4)), .int (f 4), .int (f 5)])
  else if isH k = true then .inr (2, [.ref (X.2.1 (k + 1)), .ref (X.2.1 (k + 2)), .ref (X.2.1 (k + 3)), .ref (X.2.1 (k + 4)), .ref (X.2.1 (k + 5)), .int (f 5), .int (f 6), .int (f 7), .int (f 8), .int (f 9)])
  else if isM k = true then .inr (3, [.ref (X.2.1 (117 + 5 * (k - 30))), .int (f 1), .int (f 2)])
  else if k = 0 then .inr (10, [.ref (X.2.1 1), .ref (X.2.1 9), .ref (X.2.1 32), .ref (X.2.1 15), .ref (X.2.1 16), .ref (X.2.1 27), .ref (X.2.1 19), .ref (X.2.1 23), .ref (X.2.1 26), .ref (X.2.1 29)])
  else if k = 1 then .inr (8, [.ref (X.2.1 2), .ref (X.2.1 3), .int (f 2), .int (f 3), .int (f 4), .int (f 5), .int (f 6), .int (f 7)])
  else if k = 15 then .inr (4, [.ref (X.2.1 9), .ref (X.2.1 32)])
  else if k = 16 then .inr (9, [.ref (X.2.1 9), .ref (X.2.1 32), .ref (X.2.1 15), .ref (X.2.1 17), .ref (X.2.1 18)])
  else if k = 19 then .inr (5, [.ref (X.2.1 20), .ref (X.2.1 21), .ref (X.2.1 22), .int (f 3)])
  else if k = 23 then .inr (0, [.ref (X.2.1 24), .ref (X.2.1 25), .int (f 2)])
  else if k = 26 then .inr (1, [.int (f 0)])
  else if k = 27 then .inr (6, [.ref (X.2.1 28), .int (f 1), .int (f 2)])
  else if k = 28 then .inl (X.2.2.2.2.2, 16, .inr (.inr (.inr (.inr (fun i => some (X.2.1 (37 + 5 * i)))))))
  else if k = 29 then .inl (X.2.2.2.2.1, 2, .inr (.inr (.inr (.inr (fun i => some (X.2.1 (30 + i)))))))
  else if k = 147 then .inl (X.2.2.2.1, 2, .inl f)
  else .inr (11, [.int (f 0), .int (f 1), .int (f 2), .int (f 3), .ref (X.2.1 128), .ref (X.2.1 129), .int (f 6), .ref (X.2.1 130), .ref (X.2.1 131), .ref (X.2.1 132), .int (f 10), .int (f 11), .ref (X.2.1 133), .ref (X.2.1 134), .ref (X.2.1 135), .int (f 15), .ref (X.2.1 136), .ref (X.2.1 137), .ref (X.2.1 138), .int (f 19), .int (f 20), .int (f 21), .int (f 22), .int (f 23), .int (f 24), .int (f 25), .int (f 26), .int (f 27), .ref (X.2.1 139), .ref (X.2.1 140), .int (f 30), .ref (X.2.1 141), .ref (X.2.1 142), .int (f 33), .ref (X.2.1 143), .int (f 35), .int (f 36), .ref (X.2.1 144), .ref (X.2.1 145), .ref (X.2.1 146), .ref (X.2.1 147)])
def xW (X : xX) (S : xS) : va_W := (List.range 148).map (fun k => (X.2.1 k, xE X k (S k)))
def xtys (X : xX) : List (ClassId × FieldType) := [(X.2.2.1, .int), (X.2.2.2.1, .boolean), (X.2.2.2.2.1, .object "AbsentPraise$Image"), (X.2.2.2.2.2, .object "AbsentPraise$Talk")]
def xA (X : xX) : Nat → Prop := fun q => ∃ k, k < 148 ∧ q = X.2.1 k
theorem xW_at (X : xX) (S : xS) {k : Nat} (h : k < 148) : (xW X S)[k]? = some (X.2.1 k, xE X k (S k)) := by
  unfold xW
  rw [List.getElem?_map, List.getElem?_range h]
  rfl
theorem xW_set (X : xX) (S : xS) {k : Nat} (h : k < 148) (f : Nat → Int32) : (xW X S).set k (X.2.1 k, xE X k f) = xW X (xr S k f) := by
  apply List.ext_getElem?
  intro i
  rw [List.getElem?_set]
  by_cases hi : k = i
  · subst hi
    have hl : k < (xW X S).length := by unfold xW; rw [List.length_map, List.length_range]; exact h
    rw [if_pos rfl, if_pos hl, xW_at X _ h]
    unfold xr
    rw [if_pos rfl]
  · rw [if_neg hi]
    by_cases h2 : i < 148
    · rw [xW_at X _ h2, xW_at X _ h2]
      unfold xr
      rw [if_neg (fun e => hi e.symm)]
    · unfold xW
      rw [List.getElem?_eq_none (by rw [List.length_map, List.length_range]; omega), List.getElem?_eq_none (by rw [List.length_map, List.length_range]; omega)]
theorem xW_adr (X : xX) (S : xS) {k : Nat} {q : Nat × va_E} (h : (xW X S)[k]? = some q) : k < 148 ∧ q.1 = X.2.1 k := by
  have hk : k < 148 := by
    rcases Nat.lt_or_ge k 148 with a | a
    · exact a
    · unfold xW at h
      rw [List.getElem?_eq_none (by rw [List.length_map, List.length_range]; exact a)] at h
      cases h
  rw [xW_at X S hk] at h
  cases h
  exact ⟨hk, rfl⟩
def xJ (X : xX) : Prop := ∀ i j, i < 148 → j < 148 → X.2.1 i = X.2.1 j → i = j
theorem xD_of (X : xX) (S : xS) (hJ : xJ X) : va_D (xA X) (xW X S) := by
  refine ⟨fun i j p q hp hq e => ?_, fun k q hq => ?_⟩
  · obtain ⟨a1, a2⟩ := xW_adr X S hp
    obtain ⟨b1, b2⟩ := xW_adr X S hq
    exact hJ i j a1 b1 (by rw [← a2, ← b2]; exact e)
  · obtain ⟨a1, a2⟩ := xW_adr X S hq
    exact ⟨k, a1, a2⟩
/-- the nest links that the walks use -/
noncomputable def xNL : List (String × Nat × MethodName × String) := [(RX8, 29, yX10_put, "AbsentPraise"), (RX8, 130, yX10_within, "AbsentPraise"), (RX8, 98, yX10_bit, "AbsentPraise"), (RX2, 57, yX10_at, "AbsentPraise"), (RX2, 61, yX10_has, "AbsentPraise"), (RX2, 65, yX10_bit, "AbsentPraise"), (RX2, 69, yX10_put, "AbsentPraise"), (RX2, 73, yX10_pairIndex, "AbsentPraise"), (RX2, 49, yX10_copy, "AbsentPraise"), (RX7, 29, yX10_copy, "AbsentPraise"), (RX4, 31, yX10_at, "AbsentPraise"), (RX4, 35, yX10_has, "AbsentPraise"), (RX4, 55, yX10_pairIndex, "AbsentPraise"), (RX4, 59, yX10_words, "AbsentPraise"), (RX9, 106, yX10_bit, "AbsentPraise"), (RX9, 56, yX10_has, "AbsentPraise"), (RX9, 45, yX10_at, "AbsentPraise"), (RX9, 109, yX10_isSmaller, "AbsentPraise"), (RX4, 39, yX10_bit, "AbsentPraise"), (RX4, 100, yX10_bounded, "AbsentPraise"), (RX4, 90, yX10_put, "AbsentPraise"), (RX9, 86, yX10_put, "AbsentPraise"), (RX5, 25, yX10_put, "AbsentPraise"), (RX5, 37, yX10_at, "AbsentPraise"), (RX5, 41, yX10_words, "AbsentPraise"), (RX5, 33, yX10_bit, "AbsentPraise"), (RX5, 49, yX10_has, "AbsentPraise"), (RX0, 22, yX10_put, "AbsentPraise"), (RX0, 26, yX10_at, "AbsentPraise")]
def xN (U : State) : Prop := ∀ (i : Nat) (q : String × Nat × MethodName × String), xNL[i]? = some q → va_Nw (.methodLinkNest q.1 q.2.1 q.2.2.1 q.2.2.2) U
/-- the world holds the state S -/
def xI (X : xX) (S : xS) (U : State) : Prop := va_P X.1 vwCl (xW X S) U.heap ∧ va_K X.1 vwCl (xtys X) U ∧ xN U ∧ xJ X
theorem xN.warm {s U : State} (hW : s.WarmedH U.vm) (h : xN s) : xN U := fun i q hq => va_Nw.warmM hW (h i q hq)
theorem xN.same {u U : State} (hv : u.vm = U.vm) (h : xN u) : xN U := fun i q hq => va_Nw.same rfl hv (h i q hq)
theorem xI_blind (X : xX) (S : xS) (av : List Value) : FrameBlind (va_Pc av (xI X S)) := fun a U g mk q => by
  obtain ⟨q0, q1, q2, q3, q4⟩ := q
  exact ⟨q0, q1, va_K.moved (u := U) (U := U.calling g mk a) (Vm.Alike.refl U.vm) q2, xN.same (u := U) (U := U.calling g mk a) rfl q3, q4⟩
theorem xI_at {X : xX} {S : xS} {s U : State} {H : Heap} (hP : va_P X.1 vwCl (xW X S) H) (hK : va_K X.1 vwCl (xtys X) s) (hN : xN s) (hJ : xJ X) (hU : U.heap = H) (hW : s.WarmedH U.vm) : xI X S U := ⟨by rw [hU]; exact hP, va_K.moved hW.alike hK, xN.warm hW hN, hJ⟩
/-- what a walk stands on -/
def xC (X : xX) (p : Program) (m : MethodId) (c : Code) (cc : ByteArray) (nL : Nat) (s : State) (args : Array Value) (Ts : List Cond) (own : String) : Prop := CallFix p m c cc nL s args Ts own ∧ va_K X.1 vwCl (xtys X) s ∧ xN s ∧ xJ X
section XW
variable {p : Program} {l : Launch} {e : Env} {R : Room} {s : State} {m : MethodId} {args : Array Value} {below : List Frame} {meth : Method} {c : Code} {H : Heap} {locs : List Loc} {Q : State → Prop} {X : xX} {S : xS} {cc : ByteArray} {nL : Nat} {Ts : List Cond} {own : String} {pc : Nat} {ls : Array Slot} {rest : List Value}
/-- an int field is read -/
theorem xget (hC : xC X p m c cc nL s args Ts own) (hP : va_P X.1 vwCl (xW X S) H) {ref C : String} {T : u_T} {N ci index b : Nat} {fs : List Value} (hin : ∀ w ∈ u_ws C T N, w ∈ Ts) (he : (xW X S)[b]? = some (X.2.1 b, .inr (ci, fs))) (hc : vwCl[ci]? = some (C, T, N)) (k : Nat) (hk : k < N) (hlink : (Cond.fieldLink own index ref (T k).2.1 (T k).2.2.1) ∈ Ts) (hsame : (T k).1 = ref) {v : Value} (hv : fs[k]? = some v) (hdg : decode cc pc = .ok (.getfield index, 3))
    (kk : W p l e R s m args below meth c H locs 0 0 Q (F0 m (pc + 3) ls (v :: rest))) : W p l e R s m args below meth c H locs 0 0 Q (F0 m pc ls (.ref (X.2.1 b) :: rest)) := by
  subst hsame
  exact va_get hC.1.1 hC.1.2.1 hC.1.2.2.2.2 hin hC.1.2.2.2.1 hC.2.1 hP b he hc k hk (hC.1.2.2.2.2 _ hlink) (fun _ h => h) hv hdg kk
/-- an int field is written -/
theorem xput (hC : xC X p m c cc nL s args Ts own) (hP : va_P X.1 vwCl (xW X S) H) (hS : va_S (xA X) s.heap H locs) {ref C : String} {T : u_T} {N ci index b : Nat} {fs : List Value} (hb : b < 148) (hin : ∀ w ∈ u_ws C T N, w ∈ Ts) (ty0 : Nat → FieldType) (hty : ∀ k, k < N → parseFieldDescriptor (T k).2.2.1 = some (ty0 k)) (hnm : ∀ a, a < N → ∀ b, b < N → a ≠ b → (T a).2.1 ≠ (T b).2.1) (he : (xW X S)[b]? = some (X.2.1 b, .inr (ci, fs))) (hc : vwCl[ci]? = some (C, T, N)) (k : Nat) (hk : k < N) (hlink : (Cond.fieldLink own index ref (T k).2.1 (T k).2.2.1) ∈ Ts) (hsame : (T k).1 = ref) (hfin : (T k).2.2.2 = false) {ty : FieldType} {v : Int32} (hd : parseFieldDescriptor (T k).2.2.1 = some ty) (hn : narrow ty (.int v) = .int v) (hfit : fits ty (.int v) = true) (hl : k < fs.length) (hdg : decode cc pc = .ok (.putfield index, 3)) (hnew : .inr (ci, fs.set k (.int v)) = xE X b (upd (S b) k v))
    (kk : ∀ (S1 : xS) (_ : S1 = xu S b k v) (H1 : Heap) (locs1 : List Loc), va_P X.1 vwCl (xW X S1) H1 → va_S (xA X) s.heap H1 locs1 → W p l e R s m args below meth c H1 locs1 0 0 Q (F0 m (pc + 3) ls rest)) : W p l e R s m args below meth c H locs 0 0 Q (F0 m pc ls (.int v :: .ref (X.2.1 b) :: rest)) := by
  subst hsame
  refine va_put hC.1.1 hC.1.2.1 hC.1.2.2.2.2 hin ty0 hty hnm hC.1.2.2.2.1 hC.2.1 hP (xD_of X S hC.2.2.2) hS b he hc k hk (hC.1.2.2.2.2 _ hlink) (fun _ h => h) hfin hd hn hfit hl hdg (fun H1 locs1 h1 h2 h3 => ?_)
  refine kk _ rfl H1 locs1 ?_ h3
  rw [hnew, xW_set X S hb] at h1
  exact h1
theorem xI_in {k : Nat} (h : isI k = true) (h2 : k < 148) : (xW X S)[k]? = some (X.2.1 k, .inl (X.2.2.1, xlen k, .inl (S k))) := by
  rw [xW_at X S h2]
  unfold xE
  rw [if_pos h]
theorem isI_lt {k : Nat} (h : isI k = true) : k < 148 := by
  simp only [isI, Bool.or_eq_true, Bool.and_eq_true, decide_eq_true_eq, beq_iff_eq] at h
  omega
theorem isT_lt {k : Nat} (h : isT k = true) : k < 148 := by
  simp only [isT, Bool.and_eq_true, decide_eq_true_eq] at h
  omega
/-- an int array is read -/
theorem xiald (hC : xC X p m c cc nL s args Ts own) (hP : va_P X.1 vwCl (xW X S) H) {k : Nat} (hI : isI k = true) {i : Int32} (hin : vp_in i (xlen k)) (hdg : decode cc pc = .ok (.iaload, 1))
    (kk : W p l e R s m args below meth c H locs 0 0 Q (F0 m (pc + 1) ls (.int (S k i.toNatClampNeg) :: rest))) : W p l e R s m args below meth c H locs 0 0 Q (F0 m pc ls (.int i :: .ref (X.2.1 k) :: rest)) :=
  va_iald hC.1.1 hC.1.2.1 hC.2.1 hP k 0 (xI_in hI (isI_lt hI)) rfl hin hdg kk
theorem xiast (hC : xC X p m c cc nL s args Ts own) (hP : va_P X.1 vwCl (xW X S) H) (hS : va_S (xA X) s.heap H locs) {k : Nat} (hI : isI k = true) {i v : Int32} (hin : vp_in i (xlen k)) (hdg : decode cc pc = .ok (.iastore, 1))
    (kk : ∀ (S1 : xS) (_ : S1 = xu S k i.toNatClampNeg v) (H1 : Heap) (locs1 : List Loc), va_P X.1 vwCl (xW X S1) H1 → va_S (xA X) s.heap H1 locs1 → W p l e R s m args below meth c H1 locs1 0 0 Q (F0 m (pc + 1) ls rest)) : W p l e R s m args below meth c H locs 0 0 Q (F0 m pc ls (.int v :: .int i :: .ref (X.2.1 k) :: rest)) := by
  refine va_iast hC.1.1 hC.1.2.1 hC.2.1 hP (xD_of X S hC.2.2.2) hS k 0 (xI_in hI (isI_lt hI)) rfl hin hdg (fun H1 locs1 h1 h2 h3 => ?_)
  refine kk _ rfl H1 locs1 ?_ h3
  have he : (Sum.inl (X.2.2.1, xlen k, Sum.inl (upd (S k) i.toNatClampNeg v)) : va_E) = xE X k (upd (S k) i.toNatClampNeg v) := by unfold xE; rw [if_pos hI]
  rw [he, xW_set X S (isI_lt hI)] at h1
  exact h1
theorem xalen (hC : xC X p m c cc nL s args Ts own) (hP : va_P X.1 vwCl (xW X S) H) {k : Nat} (hI : isI k = true) (hdg : decode cc pc = .ok (.arraylength, 1))
    (kk : W p l e R s m args below meth c H locs 0 0 Q (F0 m (pc + 1) ls (.int (nI (xlen k)) :: rest))) : W p l e R s m args below meth c H locs 0 0 Q (F0 m pc ls (.ref (X.2.1 k) :: rest)) :=
  va_alen hC.1.1 hC.1.2.1 hC.2.1 hP k 0 (xI_in hI (isI_lt hI)) (ty := .int) rfl rfl hdg kk
theorem xZ_in : (xW X S)[147]? = some (X.2.1 147, .inl (X.2.2.2.1, 2, .inl (S 147))) := xW_at X S (by decide)
theorem xzald (hC : xC X p m c cc nL s args Ts own) (hP : va_P X.1 vwCl (xW X S) H) {i : Int32} (hin : vp_in i 2) (hdg : decode cc pc = .ok (.baload, 1))
    (kk : W p l e R s m args below meth c H locs 0 0 Q (F0 m (pc + 1) ls (.int (S 147 i.toNatClampNeg) :: rest))) : W p l e R s m args below meth c H locs 0 0 Q (F0 m pc ls (.int i :: .ref (X.2.1 147) :: rest)) :=
  va_zald hC.1.1 hC.1.2.1 hC.2.1 hP 147 1 xZ_in rfl hin hdg kk
theorem xmeth_out {A : Nat → Prop} {H0 : Heap} (h : va_S A H0 H locs) : ∀ q ∈ locs, A q.base := h.2.2
end XW
