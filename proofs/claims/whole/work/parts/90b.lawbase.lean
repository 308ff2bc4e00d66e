/-! THE LAW: rows of our own -/
abbrev lwA (s : State) : Nat → Prop := fun q => s.heap.size ≤ q
/-- what the law's walk stands on, behind the two constructors -/
def lwC (X : xX) (p : Program) (s : State) (m : MethodId) (meth : Method) (c : Code) (b L : Nat) (xs : Nat → Int32) : Prop :=
  CallFix p m c cL_law 4 s #[Value.ref b] wsL_law RL ∧ va_K X.1 vwCl (xtys X) s ∧ xN s ∧ xJ X ∧ (∀ k, k < 148 → s.heap.size ≤ X.2.1 k) ∧ va_X b L xs s s.heap ∧ b < s.heap.size ∧ meth.sig.returnType = ret ∧ meth.locks = false ∧ L ≤ 2048
section LW
variable {p : Program} {l : Launch} {e : Env} {s : State} {m : MethodId} {args : Array Value} {below : List Frame} {meth : Method} {c : Code} {H : Heap} {locs : List Loc} {Q : State → Prop} {X : xX} {S : xS} {pc : Nat} {ls : Array Slot} {rest : List Value} {b L cells slots : Nat} {xs : Nat → Int32} {R : Room}
theorem lw_xA (hC : lwC X p s m meth c b L xs) : ∀ q, xA X q → lwA s q := by
  rintro q ⟨k, hk, rfl⟩
  exact hC.2.2.2.2.1 k hk
theorem lwPreV {bb ci : Nat} {q : vw_C} {fs : List Value} {As : List Value} (hC : lwC X p s m meth c b L xs) (hP : va_P X.1 vwCl (xW X S) H) (he : (xW X S)[bb]? = some (X.2.1 bb, .inr (ci, fs))) (hc : vwCl[ci]? = some q) : PreV s H q.1 (X.2.1 bb) (va_Pc (.ref (X.2.1 bb) :: As) (xI X S)) As :=
  ⟨xI_blind X S _, va_recv hC.2.1 hP hc he, fun U hU hW => ⟨rfl, xI_at hP hC.2.1 hC.2.2.1 hC.2.2.2.1 hU hW⟩⟩
/-- a call out of the law -/
theorem lwcall {bb ci N : Nat} {T : u_T} {fs : List Value} {C : String} {As st0 : List Value} {y : MethodName} {bytes : ByteArray} {maxL index n : Nat} {wsy : List Cond} {rm : Room} {P : Int32 → xS → Prop} (hC : lwC X p s m meth c b L xs) (hP : va_P X.1 vwCl (xW X S) H) (hS : va_S (lwA s) s.heap H locs)
    (hM : Met l y wsy rm (va_Pc (.ref (X.2.1 bb) :: As) (xI X S)) (va_Qi (fun (r : Int32) (u : xS) => P r u) (xI X) (xA X)) 0 0 (xA X)) (cw : CallW R s #[Value.ref b] RL C index y bytes maxL (some .int) wsy rm 0 0 n) (he : (xW X S)[bb]? = some (X.2.1 bb, .inr (ci, fs))) (hc : vwCl[ci]? = some (C, T, N)) (hn : As.length = n) (hst : st0 = As.reverse ++ .ref (X.2.1 bb) :: rest) (hsz : ls.size = 4) (hcat : (rest.map fun v => v.category).sum ≤ 8) (hdg : decode cL_law pc = .ok (.invokevirtual index, 3)) (hcl : cells ≤ R.cells) (hsl : slots ≤ R.slots)
    (kk : ∀ (r : Int32) (S1 : xS) (_ : P r S1) (H1 : Heap) (locs1 : List Loc), va_P X.1 vwCl (xW X S1) H1 → va_S (lwA s) s.heap H1 locs1 → W p l e R s m #[Value.ref b] below meth c H1 locs1 cells slots Q (F0 m (pc + 3) ls (.int r :: rest))) : W p l e R s m #[Value.ref b] below meth c H locs cells slots Q (F0 m pc ls st0) := by
  refine va_calli (va_runV hC.1 hM cw (lwPreV hC hP he hc) rfl hn hsz (show st0 = _ from hst) (lv_room hcat) hdg ⟨hcl, hsl⟩) hS (fun q _ h => lw_xA hC q h) (fun q h => lw_xA hC q h) (fun r u t H1 locs1 ht hvm hw hB hz1 hk1 hS1 => ?_)
  obtain ⟨hP1, -, -, -⟩ := hB
  rw [ht] at hP1
  exact kk r u hw H1 locs1 hP1 hS1
theorem nI_idx {k j L : Nat} (h : k + j < L) (hL : L ≤ 2048) : vp_in (nI k + nI j) L := by
  rw [nI_add]; exact vp_in_nI h (by omega)
theorem law_ok {k L : Nat} (hk : k ≤ 2048) (hL : L ≤ 2048) (h : ¬ nI L - 4 < nI k) : k + 4 ≤ L := by
  rw [Int32.lt_iff_toInt_lt] at h
  have e4 : (4 : Int32) = nI 4 := rfl
  rw [e4, pk_sub_toInt (by omega) (by omega), nI_toInt (by omega)] at h
  omega
theorem law_no {k L : Nat} (hk : k ≤ 2048) (hL : L ≤ 2048) (h : nI L - 4 < nI k) : L < k + 4 := by
  rw [Int32.lt_iff_toInt_lt] at h
  have e4 : (4 : Int32) = nI 4 := rfl
  rw [e4, pk_sub_toInt (by omega) (by omega), nI_toInt (by omega)] at h
  omega
theorem nI_4 (k : Nat) : nI k + 4 = nI (k + 4) := nI_add k 4
theorem and31 (x : Int32) : ∃ j : Nat, j < 32 ∧ x &&& 31 = nI j := by
  obtain ⟨j, h1, h2⟩ := pk_andE x (m := 31) 5 (by decide)
  exact ⟨j, h1, h2⟩
end LW
