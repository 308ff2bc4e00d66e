set_option linter.all false
/-! CONSTRUCTORS: rows of our own -/
/-- the addresses that a constructor made, by paths: [0, j] the j-th that it made itself, i + 1 :: p what its i-th made object's constructor made at p -/
abbrev xU : Type := List Nat → Nat
def mkU (qs : List Nat) (us : List xU) : xU
  | [] => 0
  | 0 :: p => qs.getD (p.getD 0 0) 0
  | (i + 1) :: p => (us.getD i (fun _ => 0)) p
noncomputable def xNLC : List (String × Nat × MethodName × String) := [(RX10, 11, yX8_init, "AbsentPraise"), (RX8, 17, yX2_init, "AbsentPraise"), (RX10, 18, yX2_init, "AbsentPraise"), (RX10, 25, yX7_init, "AbsentPraise"), (RX6, 17, yX7_init, "AbsentPraise"), (RX10, 57, yX5_init, "AbsentPraise"), (RX10, 64, yX0_init, "AbsentPraise"), (RX10, 71, yX1_init, "AbsentPraise"), (RX10, 82, yX3_init, "AbsentPraise"), (RX3, 9, yX7_init, "AbsentPraise")]
def xNC (U : State) : Prop := (∀ (i : Nat) (q : String × Nat × MethodName × String), xNLC[i]? = some q → va_Nw (.methodLinkNest q.1 q.2.1 q.2.2.1 q.2.2.2) U) ∧ va_AO "AbsentPraise$Talk" U ∧ va_AO "AbsentPraise$Image" U
theorem xNC.warm {s U : State} (hW : s.WarmedH U.vm) (h : xNC s) : xNC U := ⟨fun i q hq => va_Nw.warmM hW (h.1 i q hq), va_AO.moved hW.alike h.2.1, va_AO.moved hW.alike h.2.2⟩
def xB (X : xX) (ws : va_W) (U : State) : Prop := va_P X.1 vwCl ws U.heap ∧ va_K X.1 vwCl (xtys X) U ∧ xNC U
theorem xB_blind (X : xX) (ws : va_W) (sz : Nat) (av : List Value) : FrameBlind (va_Pc av (fun U => U.heap.size = sz ∧ xB X ws U)) := fun a U g mk q => by
  obtain ⟨q0, q1, q2, q3, q4, q5, q6⟩ := q
  exact ⟨q0, q1, q2, va_K.moved (u := U) (U := U.calling g mk a) (Vm.Alike.refl U.vm) q3, fun i q hq => va_Nw.same (u := U) (U := U.calling g mk a) rfl rfl (q4 i q hq), va_AO.moved (u := U) (U := U.calling g mk a) (Vm.Alike.refl U.vm) q5, va_AO.moved (u := U) (U := U.calling g mk a) (Vm.Alike.refl U.vm) q6⟩
theorem at_K {o k : Nat × va_E} {t0 t1 : va_W} : (o :: (t0 ++ (k :: t1)))[1 + t0.length]? = some k := by
  rw [Nat.add_comm, List.getElem?_cons_succ, List.getElem?_append_right (Nat.le_refl _), Nat.sub_self]
  rfl
theorem set_K {o k k' : Nat × va_E} {t0 t1 : va_W} : (o :: (t0 ++ (k :: t1))).set (1 + t0.length) k' = o :: (t0 ++ (k' :: t1)) := by
  rw [Nat.add_comm, List.set_cons_succ, List.set_append_right _ _ (Nat.le_refl _), Nat.sub_self]
  rfl
theorem app_K {o k : Nat × va_E} {t0 t1 r : va_W} : (o :: (t0 ++ (k :: t1))) ++ r = o :: (t0 ++ (k :: (t1 ++ r))) := by
  rw [List.cons_append, List.append_assoc, List.cons_append]
theorem at_V {o k x : Nat × va_E} {t0 t1 r : va_W} : (o :: (t0 ++ (k :: (t1 ++ (x :: r)))))[1 + t0.length + 1 + t1.length]? = some x := by
  rw [show 1 + t0.length + 1 + t1.length = (t0.length + (t1.length + 1)) + 1 by omega, List.getElem?_cons_succ, List.getElem?_append_right (by omega), show t0.length + (t1.length + 1) - t0.length = t1.length + 1 by omega, List.getElem?_cons_succ, List.getElem?_append_right (Nat.le_refl _), Nat.sub_self]
  rfl
theorem vaD1 {q : Nat × va_E} : va_D (fun _ => True) [q] := by
  refine ⟨fun i j x y h1 h2 _ => ?_, fun _ _ _ => trivial⟩
  have a1 := (List.getElem?_eq_some_iff.mp h1).1
  have a2 := (List.getElem?_eq_some_iff.mp h2).1
  rw [List.length_singleton] at a1 a2
  omega
section XK
variable {D : va_G} {cl : List vw_C} {ws0 w1 : va_W} {x : Nat × va_E} {H H1 H0 : Heap} {A : Nat → Prop} {locs : List Loc}
theorem xlast_at : (ws0 ++ [x])[ws0.length]? = some x := by rw [List.getElem?_append_right (Nat.le_refl _), Nat.sub_self]; rfl
theorem xlast_P (hP : va_P D cl (ws0 ++ [x]) H) : va_P D cl [x] H := fun k q hk => by
  match k, hk with
  | 0, hk => cases hk; exact hP ws0.length x xlast_at
  | k + 1, hk => cases hk
theorem xlast_F (hD : va_D A (ws0 ++ [x])) (hS : va_S A H0 H locs) (hA : ∀ q, H0.size ≤ q → A q) : ∀ q, va_A [x] H.size q → A q :=
  va_free hD hS hA [ws0.length] (by rw [List.map_cons, xlast_at]; rfl)
theorem nd_range : ∀ n : Nat, va_nd (List.range n) = true := by
  have inj : ∀ l : List Nat, l.Nodup → va_nd l = true := by
    intro l h
    induction l with
    | nil => rfl
    | cons a l ih =>
      rw [List.nodup_cons] at h
      have := ih h.2
      simp [va_nd, this, h.1]
  exact fun n => inj _ List.nodup_range
theorem xlast_J (hP : va_P D cl (ws0 ++ [x]) H) (hD : va_D A (ws0 ++ [x])) (hF : ∀ q, va_A [x] H.size q → A q) (hk : ∀ q : Nat, q < H.size → ¬ va_A [x] H.size q → H1[q]? = H[q]?) (hP1 : va_P D cl w1 H1) (hD1 : va_D (va_A [x] H.size) w1) : va_P D cl (ws0 ++ w1) H1 ∧ va_D A (ws0 ++ w1) := by
  refine va_join hP hD [ws0.length] (List.range ws0.length) (by rw [List.map_cons, xlast_at]; rfl) ?_ (nd_range _) ?_ hk hF hP1 hD1
  · apply List.ext_getElem?
    intro i
    rw [List.getElem?_map, List.getElem?_map]
    by_cases hi : i < ws0.length
    · rw [List.getElem?_range hi]
      show some ((ws0 ++ [x])[i]?) = _
      rw [List.getElem?_append_left hi, List.getElem?_eq_getElem hi]
      rfl
    · rw [List.getElem?_eq_none (by rw [List.length_range]; omega), List.getElem?_eq_none (by omega)]
      rfl
  · intro i hi hc
    rw [List.mem_range] at hi
    rw [List.mem_singleton] at hc
    omega
end XK
section XM
variable {p : Program} {l : Launch} {e : Env} {R : Room} {s : State} {m : MethodId} {args : Array Value} {below : List Frame} {meth : Method} {c : Code} {H : Heap} {locs : List Loc} {Q : State → Prop} {X : xX} {cc : ByteArray} {nL : Nat} {Ts : List Cond} {own : String} {pc : Nat} {ls : Array Slot} {rest : List Value} {A : Nat → Prop} {ws0 ws : va_W} {cells slots mc ms : Nat}
theorem ra_int {U : State} {c1 c2 : ClassId} (h1 : va_RA U c1 .int) (h2 : va_RA U c2 .int) : c1 = c2 := Option.some.inj (h1.symm.trans h2)
theorem ra_bool {U : State} {c1 c2 : ClassId} (h1 : va_RA U c1 .boolean) (h2 : va_RA U c2 .boolean) : c1 = c2 := Option.some.inj (h1.symm.trans h2)
theorem ra_obj {U : State} {C : String} {c1 c2 : ClassId} (h1 : va_RA U c1 (.object C)) (h2 : va_RA U c2 (.object C)) : c1 = c2 := by
  obtain ⟨-, -, -, -, -, g1⟩ := h1
  obtain ⟨-, -, -, -, -, g2⟩ := h2
  exact Option.some.inj (g1.symm.trans g2)
/-- an int array is made -/
theorem xmkI (hx : p.tables.exec = Jvm.exec) (hb : c.code = cc) (harr : (Cond.arrayClass .int).before args s = true) (hK : va_K X.1 vwCl (xtys X) s) (hP : va_P X.1 vwCl ws H) (hD : va_D A ws) (hS : va_S A s.heap H locs) (hA : ∀ q, s.heap.size ≤ q → A q) {n : Int32} (N : Nat) (hn : ¬ n < 0) (hN : n.toNatClampNeg = N) (hby : N * 4 ≤ 536870912) (hc : cells + 1 ≤ R.cells) (hs : slots + N ≤ R.slots) (hdg : decode cc pc = .ok (.newarray .int, 2))
    (kk : ∀ (q : Nat) (H1 : Heap), va_P X.1 vwCl (ws ++ [(q, .inl (X.2.2.1, N, .inl (fun _ => 0)))]) H1 → va_D A (ws ++ [(q, .inl (X.2.2.1, N, .inl (fun _ => 0)))]) → va_S A s.heap H1 locs → W p l e R s m args below meth c H1 locs (cells + 1) (slots + N) Q (F0 m (pc + 2) ls (.ref q :: rest))) : W p l e R s m args below meth c H locs cells slots Q (F0 m pc ls (.int n :: rest)) := by
  refine va_newa hx hb (atype := .int) harr (ty := .int) rfl hK hP hD hS hA (N' := N) (a0 := (N, .inl (fun _ => 0))) (fun _ => rfl) hn hN hby hc hs hdg (fun q cA H1 k1 p1 d1 s1 => ?_)
  have e1 := (k1.2 4 (cA, .int) rfl).2
  have e2 := (hK.2 0 (X.2.2.1, .int) rfl).2
  have e3 : cA = X.2.2.1 := ra_int e1 e2
  subst e3
  exact kk q H1 p1 d1 s1
theorem xmkZ (hx : p.tables.exec = Jvm.exec) (hb : c.code = cc) (harr : (Cond.arrayClass .boolean).before args s = true) (hK : va_K X.1 vwCl (xtys X) s) (hP : va_P X.1 vwCl ws H) (hD : va_D A ws) (hS : va_S A s.heap H locs) (hA : ∀ q, s.heap.size ≤ q → A q) {n : Int32} (N : Nat) (hn : ¬ n < 0) (hN : n.toNatClampNeg = N) (hby : N * 1 ≤ 536870912) (hc : cells + 1 ≤ R.cells) (hs : slots + N ≤ R.slots) (hdg : decode cc pc = .ok (.newarray .boolean, 2))
    (kk : ∀ (q : Nat) (H1 : Heap), va_P X.1 vwCl (ws ++ [(q, .inl (X.2.2.2.1, N, .inl (fun _ => 0)))]) H1 → va_D A (ws ++ [(q, .inl (X.2.2.2.1, N, .inl (fun _ => 0)))]) → va_S A s.heap H1 locs → W p l e R s m args below meth c H1 locs (cells + 1) (slots + N) Q (F0 m (pc + 2) ls (.ref q :: rest))) : W p l e R s m args below meth c H locs cells slots Q (F0 m pc ls (.int n :: rest)) := by
  refine va_newa hx hb (atype := .boolean) harr (ty := .boolean) rfl hK hP hD hS hA (N' := N) (a0 := (N, .inl (fun _ => 0))) (fun _ => rfl) hn hN hby hc hs hdg (fun q cA H1 k1 p1 d1 s1 => ?_)
  have e1 := (k1.2 4 (cA, .boolean) rfl).2
  have e2 := (hK.2 1 (X.2.2.2.1, .boolean) rfl).2
  have e3 : cA = X.2.2.2.1 := ra_bool e1 e2
  subst e3
  exact kk q H1 p1 d1 s1
theorem xmkT (hx : p.tables.exec = Jvm.exec) (hb : c.code = cc) (hown : s.vm.findClass own = some m.cls) {index : Nat} (hcl : (Cond.classLink own index "AbsentPraise$Talk").before args s = true) (hAO : va_AO "AbsentPraise$Talk" s) (hK : va_K X.1 vwCl (xtys X) s) (hP : va_P X.1 vwCl ws H) (hD : va_D A ws) (hS : va_S A s.heap H locs) (hA : ∀ q, s.heap.size ≤ q → A q) {n : Int32} (N : Nat) (hn : ¬ n < 0) (hN : n.toNatClampNeg = N) (hby : N * 4 ≤ 536870912) (hc : cells + 1 ≤ R.cells) (hs : slots + N ≤ R.slots) (hdg : decode cc pc = .ok (.anewarray index, 3))
    (kk : ∀ (q : Nat) (H1 : Heap), va_P X.1 vwCl (ws ++ [(q, .inl (X.2.2.2.2.2, N, .inr (.inr (.inr (.inr (fun _ => none))))))]) H1 → va_D A (ws ++ [(q, .inl (X.2.2.2.2.2, N, .inr (.inr (.inr (.inr (fun _ => none))))))]) → va_S A s.heap H1 locs → W p l e R s m args below meth c H1 locs (cells + 1) (slots + N) Q (F0 m (pc + 3) ls (.ref q :: rest))) : W p l e R s m args below meth c H locs cells slots Q (F0 m pc ls (.int n :: rest)) := by
  refine va_newq hx hb hown hcl hAO hK hP hD hS hA (N' := N) hn hN hby hc hs hdg (fun q cA H1 k1 p1 d1 s1 => ?_)
  have e1 := (k1.2 4 (cA, .object "AbsentPraise$Talk") rfl).2
  have e2 := (hK.2 3 (X.2.2.2.2.2, .object "AbsentPraise$Talk") rfl).2
  have e3 : cA = X.2.2.2.2.2 := ra_obj e1 e2
  subst e3
  exact kk q H1 p1 d1 s1
theorem xmkM (hx : p.tables.exec = Jvm.exec) (hb : c.code = cc) (hown : s.vm.findClass own = some m.cls) {index : Nat} (hcl : (Cond.classLink own index "AbsentPraise$Image").before args s = true) (hAO : va_AO "AbsentPraise$Image" s) (hK : va_K X.1 vwCl (xtys X) s) (hP : va_P X.1 vwCl ws H) (hD : va_D A ws) (hS : va_S A s.heap H locs) (hA : ∀ q, s.heap.size ≤ q → A q) {n : Int32} (N : Nat) (hn : ¬ n < 0) (hN : n.toNatClampNeg = N) (hby : N * 4 ≤ 536870912) (hc : cells + 1 ≤ R.cells) (hs : slots + N ≤ R.slots) (hdg : decode cc pc = .ok (.anewarray index, 3))
    (kk : ∀ (q : Nat) (H1 : Heap), va_P X.1 vwCl (ws ++ [(q, .inl (X.2.2.2.2.1, N, .inr (.inr (.inr (.inr (fun _ => none))))))]) H1 → va_D A (ws ++ [(q, .inl (X.2.2.2.2.1, N, .inr (.inr (.inr (.inr (fun _ => none))))))]) → va_S A s.heap H1 locs → W p l e R s m args below meth c H1 locs (cells + 1) (slots + N) Q (F0 m (pc + 3) ls (.ref q :: rest))) : W p l e R s m args below meth c H locs cells slots Q (F0 m pc ls (.int n :: rest)) := by
  refine va_newq hx hb hown hcl hAO hK hP hD hS hA (N' := N) hn hN hby hc hs hdg (fun q cA H1 k1 p1 d1 s1 => ?_)
  have e1 := (k1.2 4 (cA, .object "AbsentPraise$Image") rfl).2
  have e2 := (hK.2 2 (X.2.2.2.2.1, .object "AbsentPraise$Image") rfl).2
  have e3 : cA = X.2.2.2.2.1 := ra_obj e1 e2
  subst e3
  exact kk q H1 p1 d1 s1
/-- what a constructor promises -/
abbrev xMade (X : xX) (sz h : Nat) (ei : va_E) (cw : xU → va_W) : Array Value → State → Outcome → State → Prop := va_Qv (fun _ : xU => True) (fun u t => va_P X.1 vwCl (cw u) t.heap ∧ va_D (va_A [(h, ei)] sz) (cw u)) (va_A [(h, ei)] sz)
theorem xPreC {h : Nat} {ei : va_E} {As : List Value} (hK : va_K X.1 vwCl (xtys X) s) (hNC : xNC s) (hP : va_P X.1 vwCl [(h, ei)] H) : PreS s H (va_Pc (.ref h :: As) (fun U => U.heap.size = H.size ∧ xB X [(h, ei)] U)) (.ref h :: As) :=
  ⟨xB_blind X _ _ _, fun U hU hW => ⟨rfl, by rw [hU], by rw [hU]; exact hP, va_K.moved hW.alike hK, xNC.warm hW hNC⟩⟩
theorem xci_end {h : Nat} {ei : va_E} {cw : xU → va_W} {st0 : List Value} {a : Array Value} (hr : va_Run p l e R s m args below meth c H locs cells slots mc ms (F0 m pc ls st0) rest (xMade X H.size h ei cw a) (va_A [(h, ei)] H.size)) (hP : va_P X.1 vwCl (ws0 ++ [(h, ei)]) H) (hD : va_D A (ws0 ++ [(h, ei)])) (hS : va_S A s.heap H locs) (hA : ∀ q, s.heap.size ≤ q → A q)
    (kk : ∀ (u : xU) (H1 : Heap) (locs1 : List Loc), va_P X.1 vwCl (ws0 ++ cw u) H1 → va_D A (ws0 ++ cw u) → va_S A s.heap H1 locs1 → W p l e R s m args below meth c H1 locs1 (cells + mc) (slots + ms) Q (F0 m (pc + 3) ls rest)) : W p l e R s m args below meth c H locs cells slots Q (F0 m pc ls st0) := by
  have hF := xlast_F hD hS hA
  refine va_callv hr hS (fun q _ h => hF q h) hF (fun u t H1 locs1 ht hvm hw hB hz1 hk1 hS1 => ?_)
  obtain ⟨hP1, hD1⟩ := hB
  rw [ht] at hP1
  obtain ⟨hP2, hD2⟩ := xlast_J hP hD hF hk1 hP1 hD1
  exact kk u H1 locs1 hP2 hD2 hS1
theorem xciN {h index n maxL : Nat} {ei : va_E} {cw : xU → va_W} {As st0 : List Value} {y : MethodName} {bytes : ByteArray} {wsy : List Cond} {rm : Room} {host : String} (hf : CallFix p m c cc nL s args Ts own) (hK : va_K X.1 vwCl (xtys X) s) (hNC : xNC s) (hP : va_P X.1 vwCl (ws0 ++ [(h, ei)]) H) (hD : va_D A (ws0 ++ [(h, ei)])) (hS : va_S A s.heap H locs) (hA : ∀ q, s.heap.size ≤ q → A q)
    (hM : Met l y wsy rm (va_Pc (.ref h :: As) (fun U => U.heap.size = H.size ∧ xB X [(h, ei)] U)) (xMade X H.size h ei cw) mc ms (va_A [(h, ei)] H.size)) (cw1 : va_CN R s args own index y host bytes maxL none wsy rm mc ms n) (cw2 : y.name = "<init>") (cw3 : (Cond.instanceMethod y).before args s = true) (hn : As.length = n) (hst : st0 = As.reverse ++ .ref h :: rest) (hsz : ls.size = nL) (hcat : (rest.map fun v => v.category).sum ≤ 8) (hdg : decode cc pc = .ok (.invokespecial index, 3)) (hc : cells + mc ≤ R.cells) (hs : slots + ms ≤ R.slots)
    (kk : ∀ (u : xU) (H1 : Heap) (locs1 : List Loc), va_P X.1 vwCl (ws0 ++ cw u) H1 → va_D A (ws0 ++ cw u) → va_S A s.heap H1 locs1 → W p l e R s m args below meth c H1 locs1 (cells + mc) (slots + ms) Q (F0 m (pc + 3) ls rest)) : W p l e R s m args below meth c H locs cells slots Q (F0 m pc ls st0) :=
  xci_end (va_runIN hf hM ⟨cw1, cw2, cw3⟩ (xPreC hK hNC (xlast_P hP)) rfl hn hsz (show st0 = _ from hst) (lv_room hcat) hdg ⟨hc, hs⟩) hP hD hS hA kk
theorem xciP {h index n maxL : Nat} {ei : va_E} {cw : xU → va_W} {As st0 : List Value} {y : MethodName} {bytes : ByteArray} {wsy : List Cond} {rm : Room} (hf : CallFix p m c cc nL s args Ts own) (hK : va_K X.1 vwCl (xtys X) s) (hNC : xNC s) (hP : va_P X.1 vwCl (ws0 ++ [(h, ei)]) H) (hD : va_D A (ws0 ++ [(h, ei)])) (hS : va_S A s.heap H locs) (hA : ∀ q, s.heap.size ≤ q → A q)
    (hM : Met l y wsy rm (va_Pc (.ref h :: As) (fun U => U.heap.size = H.size ∧ xB X [(h, ei)] U)) (xMade X H.size h ei cw) mc ms (va_A [(h, ei)] H.size)) (cw1 : CallB R s args own index y bytes maxL none wsy rm mc ms n ∧ y.name = "<init>" ∧ (Cond.instanceMethod y).before args s = true) (hn : As.length = n) (hst : st0 = As.reverse ++ .ref h :: rest) (hsz : ls.size = nL) (hcat : (rest.map fun v => v.category).sum ≤ 8) (hdg : decode cc pc = .ok (.invokespecial index, 3)) (hc : cells + mc ≤ R.cells) (hs : slots + ms ≤ R.slots)
    (kk : ∀ (u : xU) (H1 : Heap) (locs1 : List Loc), va_P X.1 vwCl (ws0 ++ cw u) H1 → va_D A (ws0 ++ cw u) → va_S A s.heap H1 locs1 → W p l e R s m args below meth c H1 locs1 (cells + mc) (slots + ms) Q (F0 m (pc + 3) ls rest)) : W p l e R s m args below meth c H locs cells slots Q (F0 m pc ls st0) :=
  xci_end (va_runI hf hM cw1 (xPreC hK hNC (xlast_P hP)) rfl hn hsz (show st0 = _ from hst) (lv_room hcat) hdg ⟨hc, hs⟩) hP hD hS hA kk
/-- a constructor's end -/
theorem xcend {sz h : Nat} {ei : va_E} {cw : xU → va_W} (u : xU) (hx : p.tables.exec = Jvm.exec) (hb : c.code = cc) (hr : meth.sig.returnType = none) (hP : va_P X.1 vwCl ws H) (hD : va_D (va_A [(h, ei)] sz) ws) (hS : va_S (va_A [(h, ei)] sz) s.heap H locs) (hw : ws = cw u) (hc : cells ≤ mc) (hs : slots ≤ ms) (hdg : decode cc pc = .ok (.return_, 1)) (hlocks : meth.locks = false) : W p l e R s m args below meth c H locs cells slots (MQ below (xMade X sz h ei cw) args s mc ms (va_A [(h, ei)] sz)) (F0 m pc ls []) := by
  refine W.widen (k := mc) (n := ms) hc hs ?_
  subst hw
  exact W.vret hx hb hr (fun t ht hW => ⟨⟨u, rfl, trivial, by rw [ht]; exact hP, hD⟩, hS.F ht⟩) hS.2.2 hdg hlocks
end XM
