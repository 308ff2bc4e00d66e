/-- the state behind the two constructors -/
def xS0 : xS := fun k => if k = 1 then (fun j => if j = 4 then -1 else 0) else if k = 127 then (fun j => if j = 20 then -1 else 0) else (fun _ => 0)
def xpl (k : Nat) : Nat := ([0, 1, 2, 3, 4, 5, 6, 7, 8, 9, 10, 11, 12, 13, 14, 20, 21, 22, 23, 106, 107, 108, 109, 110, 111, 112, 113, 24, 25, 114, 115, 121, 15, 16, 17, 18, 19, 26, 27, 28, 29, 30, 31, 32, 33, 34, 35, 36, 37, 38, 39, 40, 41, 42, 43, 44, 45, 46, 47, 48, 49, 50, 51, 52, 53, 54, 55, 56, 57, 58, 59, 60, 61, 62, 63, 64, 65, 66, 67, 68, 69, 70, 71, 72, 73, 74, 75, 76, 77, 78, 79, 80, 81, 82, 83, 84, 85, 86, 87, 88, 89, 90, 91, 92, 93, 94, 95, 96, 97, 98, 99, 100, 101, 102, 103, 104, 105, 116, 117, 118, 119, 120, 122, 123, 124, 125, 126, 127, 128, 129, 130, 131, 132, 133, 134, 135, 136, 137, 138, 139, 140, 141, 142, 143, 144, 145, 146, 147] : List Nat).getD k 0
theorem xpl_inj : ∀ i, i < 148 → ∀ j, j < 148 → xpl i = xpl j → i = j := by decide +kernel
def xad (q0 q1 : Nat) (u0 u1 : xU) (k : Nat) : Nat := ([q0, (u0 [0, 0]), (u0 [1, 0, 0]), (u0 [1, 0, 1]), (u0 [1, 1, 0, 0]), (u0 [1, 1, 0, 1]), (u0 [1, 1, 0, 2]), (u0 [1, 1, 0, 3]), (u0 [1, 1, 0, 4]), (u0 [0, 1]), (u0 [2, 0, 0]), (u0 [2, 0, 1]), (u0 [2, 0, 2]), (u0 [2, 0, 3]), (u0 [2, 0, 4]), (u0 [0, 3]), (u0 [0, 4]), (u0 [5, 0, 0]), (u0 [5, 0, 1]), (u0 [0, 6]), (u0 [7, 0, 0]), (u0 [7, 0, 1]), (u0 [7, 0, 2]), (u0 [0, 7]), (u0 [8, 0, 0]), (u0 [8, 0, 1]), (u0 [0, 8]), (u0 [0, 5]), (u0 [6, 0, 0]), (u0 [0, 9]), (u0 [0, 10]), (u0 [0, 11]), (u0 [0, 2]), (u0 [3, 0, 0]), (u0 [3, 0, 1]), (u0 [3, 0, 2]), (u0 [3, 0, 3]), (u0 [6, 0, 1]), (u0 [6, 1, 0, 0]), (u0 [6, 1, 0, 1]), (u0 [6, 1, 0, 2]), (u0 [6, 1, 0, 3]), (u0 [6, 0, 2]), (u0 [6, 2, 0, 0]), (u0 [6, 2, 0, 1]), (u0 [6, 2, 0, 2]), (u0 [6, 2, 0, 3]), (u0 [6, 0, 3]), (u0 [6, 3, 0, 0]), (u0 [6, 3, 0, 1]), (u0 [6, 3, 0, 2]), (u0 [6, 3, 0, 3]), (u0 [6, 0, 4]), (u0 [6, 4, 0, 0]), (u0 [6, 4, 0, 1]), (u0 [6, 4, 0, 2]), (u0 [6, 4, 0, 3]), (u0 [6, 0, 5]), (u0 [6, 5, 0, 0]), (u0 [6, 5, 0, 1]), (u0 [6, 5, 0, 2]), (u0 [6, 5, 0, 3]), (u0 [6, 0, 6]), (u0 [6, 6, 0, 0]), (u0 [6, 6, 0, 1]), (u0 [6, 6, 0, 2]), (u0 [6, 6, 0, 3]), (u0 [6, 0, 7]), (u0 [6, 7, 0, 0]), (u0 [6, 7, 0, 1]), (u0 [6, 7, 0, 2]), (u0 [6, 7, 0, 3]), (u0 [6, 0, 8]), (u0 [6, 8, 0, 0]), (u0 [6, 8, 0, 1]), (u0 [6, 8, 0, 2]), (u0 [6, 8, 0, 3]), (u0 [6, 0, 9]), (u0 [6, 9, 0, 0]), (u0 [6, 9, 0, 1]), (u0 [6, 9, 0, 2]), (u0 [6, 9, 0, 3]), (u0 [6, 0, 10]), (u0 [6, 10, 0, 0]), (u0 [6, 10, 0, 1]), (u0 [6, 10, 0, 2]), (u0 [6, 10, 0, 3]), (u0 [6, 0, 11]), (u0 [6, 11, 0, 0]), (u0 [6, 11, 0, 1]), (u0 [6, 11, 0, 2]), (u0 [6, 11, 0, 3]), (u0 [6, 0, 12]), (u0 [6, 12, 0, 0]), (u0 [6, 12, 0, 1]), (u0 [6, 12, 0, 2]), (u0 [6, 12, 0, 3]), (u0 [6, 0, 13]), (u0 [6, 13, 0, 0]), (u0 [6, 13, 0, 1]), (u0 [6, 13, 0, 2]), (u0 [6, 13, 0, 3]), (u0 [6, 0, 14]), (u0 [6, 14, 0, 0]), (u0 [6, 14, 0, 1]), (u0 [6, 14, 0, 2]), (u0 [6, 14, 0, 3]), (u0 [6, 0, 15]), (u0 [6, 15, 0, 0]), (u0 [6, 15, 0, 1]), (u0 [6, 15, 0, 2]), (u0 [6, 15, 0, 3]), (u0 [6, 0, 16]), (u0 [6, 16, 0, 0]), (u0 [6, 16, 0, 1]), (u0 [6, 16, 0, 2]), (u0 [6, 16, 0, 3]), (u0 [10, 0, 0]), (u0 [10, 1, 0, 0]), (u0 [10, 1, 0, 1]), (u0 [10, 1, 0, 2]), (u0 [10, 1, 0, 3]), (u0 [11, 0, 0]), (u0 [11, 1, 0, 0]), (u0 [11, 1, 0, 1]), (u0 [11, 1, 0, 2]), (u0 [11, 1, 0, 3]), q1, (u1 [0, 0]), (u1 [0, 1]), (u1 [0, 2]), (u1 [0, 3]), (u1 [0, 4]), (u1 [0, 5]), (u1 [0, 6]), (u1 [0, 7]), (u1 [0, 8]), (u1 [0, 9]), (u1 [0, 10]), (u1 [0, 11]), (u1 [0, 12]), (u1 [0, 13]), (u1 [0, 14]), (u1 [0, 15]), (u1 [0, 16]), (u1 [0, 17]), (u1 [0, 18]), (u1 [0, 19])] : List Nat).getD k 0
theorem xNL_in : ∀ q ∈ xNL, Cond.methodLinkNest q.1 q.2.1 q.2.2.1 q.2.2.2 ∈ lw_tbl := by decide +kernel
theorem xNLC_in : ∀ q ∈ xNLC, Cond.methodLinkNest q.1 q.2.1 q.2.2.1 q.2.2.2 ∈ lw_tbl := by decide +kernel
theorem ao_T_in : Cond.arrayOver (.object "AbsentPraise$Talk") ∈ lw_tbl := by decide +kernel
theorem ao_M_in : Cond.arrayOver (.object "AbsentPraise$Image") ∈ lw_tbl := by decide +kernel
theorem ac_I_in : Cond.arrayClass .int ∈ lw_tbl := by decide +kernel
theorem ac_Z_in : Cond.arrayClass .boolean ∈ lw_tbl := by decide +kernel
theorem cell_cg (cA : ClassId) (n : Nat) (f g : Nat → Option Nat) (h : ∀ j, j < n → f j = g j) : vp_cell cA (n, .inr (.inr (.inr (.inr f)))) = vp_cell cA (n, .inr (.inr (.inr (.inr g)))) := by
  have e : (fun j : Fin n => va_rf (f j.val)) = (fun j : Fin n => va_rf (g j.val)) := funext fun j => by rw [h j.val j.isLt]
  rw [vp_cell_q, vp_cell_q]
  unfold arrV
  exact congrArg (fun z : Fin n → Value => ({ cls := cA, slots := Array.ofFn z, vm := .none } : Cell)) e
def xfl (X : xX) (q0 q1 : Nat) (u0 u1 : xU) : va_W := [(q0, .inr (10, [.ref (u0 [0, 0]), .ref (u0 [0, 1]), .ref (u0 [0, 2]), .ref (u0 [0, 3]), .ref (u0 [0, 4]), .ref (u0 [0, 5]), .ref (u0 [0, 6]), .ref (u0 [0, 7]), .ref (u0 [0, 8]), .ref (u0 [0, 9])])), ((u0 [0, 0]), .inr (8, [.ref (u0 [1, 0, 0]), .ref (u0 [1, 0, 1]), .int 0, .int 0, .int (-1), .int 0, .int 0, .int 0])), ((u0 [1, 0, 0]), .inl (X.2.2.1, 240, .inl (fun _ => 0))), ((u0 [1, 0, 1]), .inr (2, [.ref (u0 [1, 1, 0, 0]), .ref (u0 [1, 1, 0, 1]), .ref (u0 [1, 1, 0, 2]), .ref (u0 [1, 1, 0, 3]), .ref (u0 [1, 1, 0, 4]), .int 0, .int 0, .int 0, .int 0, .int 0])), ((u0 [1, 1, 0, 0]), .inl (X.2.2.1, 6, .inl (fun _ => 0))), ((u0 [1, 1, 0, 1]), .inl (X.2.2.1, 6, .inl (fun _ => 0))), ((u0 [1, 1, 0, 2]), .inl (X.2.2.1, 7, .inl (fun _ => 0))), ((u0 [1, 1, 0, 3]), .inl (X.2.2.1, 7, .inl (fun _ => 0))), ((u0 [1, 1, 0, 4]), .inl (X.2.2.1, 49, .inl (fun _ => 0))), ((u0 [0, 1]), .inr (2, [.ref (u0 [2, 0, 0]), .ref (u0 [2, 0, 1]), .ref (u0 [2, 0, 2]), .ref (u0 [2, 0, 3]), .ref (u0 [2, 0, 4]), .int 0, .int 0, .int 0, .int 0, .int 0])), ((u0 [2, 0, 0]), .inl (X.2.2.1, 6, .inl (fun _ => 0))), ((u0 [2, 0, 1]), .inl (X.2.2.1, 6, .inl (fun _ => 0))), ((u0 [2, 0, 2]), .inl (X.2.2.1, 7, .inl (fun _ => 0))), ((u0 [2, 0, 3]), .inl (X.2.2.1, 7, .inl (fun _ => 0))), ((u0 [2, 0, 4]), .inl (X.2.2.1, 49, .inl (fun _ => 0))), ((u0 [0, 2]), .inr (7, [.ref (u0 [3, 0, 0]), .ref (u0 [3, 0, 1]), .ref (u0 [3, 0, 2]), .ref (u0 [3, 0, 3]), .int 0, .int 0])), ((u0 [3, 0, 0]), .inl (X.2.2.1, 7, .inl (fun _ => 0))), ((u0 [3, 0, 1]), .inl (X.2.2.1, 7, .inl (fun _ => 0))), ((u0 [3, 0, 2]), .inl (X.2.2.1, 7, .inl (fun _ => 0))), ((u0 [3, 0, 3]), .inl (X.2.2.1, 49, .inl (fun _ => 0))), ((u0 [0, 3]), .inr (4, [.ref (u0 [0, 1]), .ref (u0 [0, 2])])), ((u0 [0, 4]), .inr (9, [.ref (u0 [0, 1]), .ref (u0 [0, 2]), .ref (u0 [0, 3]), .ref (u0 [5, 0, 0]), .ref (u0 [5, 0, 1])])), ((u0 [5, 0, 0]), .inl (X.2.2.1, 6, .inl (fun _ => 0))), ((u0 [5, 0, 1]), .inl (X.2.2.1, 6, .inl (fun _ => 0))), ((u0 [0, 5]), .inr (6, [.ref (u0 [6, 0, 0]), .int 0, .int 0])), ((u0 [6, 0, 0]), .inl (X.2.2.2.2.2, 16, .inr (.inr (.inr (.inr (va_up (va_up (va_up (va_up (va_up (va_up (va_up (va_up (va_up (va_up (va_up (va_up (va_up (va_up (va_up (va_up (fun _ => none) 0 (some (u0 [6, 0, 1]))) 1 (some (u0 [6, 0, 2]))) 2 (some (u0 [6, 0, 3]))) 3 (some (u0 [6, 0, 4]))) 4 (some (u0 [6, 0, 5]))) 5 (some (u0 [6, 0, 6]))) 6 (some (u0 [6, 0, 7]))) 7 (some (u0 [6, 0, 8]))) 8 (some (u0 [6, 0, 9]))) 9 (some (u0 [6, 0, 10]))) 10 (some (u0 [6, 0, 11]))) 11 (some (u0 [6, 0, 12]))) 12 (some (u0 [6, 0, 13]))) 13 (some (u0 [6, 0, 14]))) 14 (some (u0 [6, 0, 15]))) 15 (some (u0 [6, 0, 16])))))))), ((u0 [6, 0, 1]), .inr (7, [.ref (u0 [6, 1, 0, 0]), .ref (u0 [6, 1, 0, 1]), .ref (u0 [6, 1, 0, 2]), .ref (u0 [6, 1, 0, 3]), .int 0, .int 0])), ((u0 [6, 1, 0, 0]), .inl (X.2.2.1, 7, .inl (fun _ => 0))), ((u0 [6, 1, 0, 1]), .inl (X.2.2.1, 7, .inl (fun _ => 0))), ((u0 [6, 1, 0, 2]), .inl (X.2.2.1, 7, .inl (fun _ => 0))), ((u0 [6, 1, 0, 3]), .inl (X.2.2.1, 49, .inl (fun _ => 0))), ((u0 [6, 0, 2]), .inr (7, [.ref (u0 [6, 2, 0, 0]), .ref (u0 [6, 2, 0, 1]), .ref (u0 [6, 2, 0, 2]), .ref (u0 [6, 2, 0, 3]), .int 0, .int 0])), ((u0 [6, 2, 0, 0]), .inl (X.2.2.1, 7, .inl (fun _ => 0))), ((u0 [6, 2, 0, 1]), .inl (X.2.2.1, 7, .inl (fun _ => 0))), ((u0 [6, 2, 0, 2]), .inl (X.2.2.1, 7, .inl (fun _ => 0))), ((u0 [6, 2, 0, 3]), .inl (X.2.2.1, 49, .inl (fun _ => 0))), ((u0 [6, 0, 3]), .inr (7, [.ref (u0 [6, 3, 0, 0]), .ref (u0 [6, 3, 0, 1]), .ref (u0 [6, 3, 0, 2]), .ref (u0 [6, 3, 0, 3]), .int 0, .int 0])), ((u0 [6, 3, 0, 0]), .inl (X.2.2.1, 7, .inl (fun _ => 0))), ((u0 [6, 3, 0, 1]), .inl (X.2.2.1, 7, .inl (fun _ => 0))), ((u0 [6, 3, 0, 2]), .inl (X.2.2.1, 7, .inl (fun _ => 0))), ((u0 [6, 3, 0, 3]), .inl (X.2.2.1, 49, .inl (fun _ => 0))), ((u0 [6, 0, 4]), .inr (7, [.ref (u0 [6, 4, 0, 0]), .ref (u0 [6, 4, 0, 1]), .ref (u0 [6, 4, 0, 2]), .ref (u0 [6, 4, 0, 3]), .int 0, .int 0])), ((u0 [6, 4, 0, 0]), .inl (X.2.2.1, 7, .inl (fun _ => 0))), ((u0 [6, 4, 0, 1]), .inl (X.2.2.1, 7, .inl (fun _ => 0))), ((u0 [6, 4, 0, 2]), .inl (X.2.2.1, 7, .inl (fun _ => 0))), ((u0 [6, 4, 0, 3]), .inl (X.2.2.1, 49, .inl (fun _ => 0))), ((u0 [6, 0, 5]), .inr (7, [.ref (u0 [6, 5, 0, 0]), .ref (u0 [6, 5, 0, 1]), .ref (u0 [6, 5, 0, 2]), .ref (u0 [6, 5, 0, 3]), .int 0, .int 0])), ((u0 [6, 5, 0, 0]), .inl (X.2.2.1, 7, .inl (fun _ => 0))), ((u0 [6, 5, 0, 1]), .inl (X.2.2.1, 7, .inl (fun _ => 0))), ((u0 [6, 5, 0, 2]), .inl (X.2.2.1, 7, .inl (fun _ => 0))), ((u0 [6, 5, 0, 3]), .inl (X.2.2.1, 49, .inl (fun _ => 0))), ((u0 [6, 0, 6]), .inr (7, [.ref (u0 [6, 6, 0, 0]), .ref (u0 [6, 6, 0, 1]), .ref (u0 [6, 6, 0, 2]), .ref (u0 [6, 6, 0, 3]), .int 0, .int 0])), ((u0 [6, 6, 0, 0]), .inl (X.2.2.1, 7, .inl (fun _ => 0))), ((u0 [6, 6, 0, 1]), .inl (X.2.2.1, 7, .inl (fun _ => 0))), ((u0 [6, 6, 0, 2]), .inl (X.2.2.1, 7, .inl (fun _ => 0))), ((u0 [6, 6, 0, 3]), .inl (X.2.2.1, 49, .inl (fun _ => 0))), ((u0 [6, 0, 7]), .inr (7, [.ref (u0 [6, 7, 0, 0]), .ref (u0 [6, 7, 0, 1]), .ref (u0 [6, 7, 0, 2]), .ref (u0 [6, 7, 0, 3]), .int 0, .int 0])), ((u0 [6, 7, 0, 0]), .inl (X.2.2.1, 7, .inl (fun _ => 0))), ((u0 [6, 7, 0, 1]), .inl (X.2.2.1, 7, .inl (fun _ => 0))), ((u0 [6, 7, 0, 2]), .inl (X.2.2.1, 7, .inl (fun _ => 0))), ((u0 [6, 7, 0, 3]), .inl (X.2.2.1, 49, .inl (fun _ => 0))), ((u0 [6, 0, 8]), .inr (7, [.ref (u0 [6, 8, 0, 0]), .ref (u0 [6, 8, 0, 1]), .ref (u0 [6, 8, 0, 2]), .ref (u0 [6, 8, 0, 3]), .int 0, .int 0])), ((u0 [6, 8, 0, 0]), .inl (X.2.2.1, 7, .inl (fun _ => 0))), ((u0 [6, 8, 0, 1]), .inl (X.2.2.1, 7, .inl (fun _ => 0))), ((u0 [6, 8, 0, 2]), .inl (X.2.2.1, 7, .inl (fun _ => 0))), ((u0 [6, 8, 0, 3]), .inl (X.2.2.1, 49, .inl (fun _ => 0))), ((u0 [6, 0, 9]), .inr (7, [.ref (u0 [6, 9, 0, 0]), .ref (u0 [6, 9, 0, 1]), .ref (u0 [6, 9, 0, 2]), .ref (u0 [6, 9, 0, 3]), .int 0, .int 0])), ((u0 [6, 9, 0, 0]), .inl (X.2.2.1, 7, .inl (fun _ => 0))), ((u0 [6, 9, 0, 1]), .inl (X.2.2.1, 7, .inl (fun _ => 0))), ((u0 [6, 9, 0, 2]), .inl (X.2.2.1, 7, .inl (fun _ => 0))), ((u0 [6, 9, 0, 3]), .inl (X.2.2.1, 49, .inl (fun _ => 0))), ((u0 [6, 0, 10]), .inr (7, [.ref (u0 [6, 10, 0, 0]), .ref (u0 [6, 10, 0, 1]), .ref (u0 [6, 10, 0, 2]), .ref (u0 [6, 10, 0, 3]), .int 0, .int 0])), ((u0 [6, 10, 0, 0]), .inl (X.2.2.1, 7, .inl (fun _ => 0))), ((u0 [6, 10, 0, 1]), .inl (X.2.2.1, 7, .inl (fun _ => 0))), ((u0 [6, 10, 0, 2]), .inl (X.2.2.1, 7, .inl (fun _ => 0))), ((u0 [6, 10, 0, 3]), .inl (X.2.2.1, 49, .inl (fun _ => 0))), ((u0 [6, 0, 11]), .inr (7, [.ref (u0 [6, 11, 0, 0]), .ref (u0 [6, 11, 0, 1]), .ref (u0 [6, 11, 0, 2]), .ref (u0 [6, 11, 0, 3]), .int 0, .int 0])), ((u0 [6, 11, 0, 0]), .inl (X.2.2.1, 7, .inl (fun _ => 0))), ((u0 [6, 11, 0, 1]), .inl (X.2.2.1, 7, .inl (fun _ => 0))), ((u0 [6, 11, 0, 2]), .inl (X.2.2.1, 7, .inl (fun _ => 0))), ((u0 [6, 11, 0, 3]), .inl (X.2.2.1, 49, .inl (fun _ => 0))), ((u0 [6, 0, 12]), .inr (7, [.ref (u0 [6, 12, 0, 0]), .ref (u0 [6, 12, 0, 1]), .ref (u0 [6, 12, 0, 2]), .ref (u0 [6, 12, 0, 3]), .int 0, .int 0])), ((u0 [6, 12, 0, 0]), .inl (X.2.2.1, 7, .inl (fun _ => 0))), ((u0 [6, 12, 0, 1]), .inl (X.2.2.1, 7, .inl (fun _ => 0))), ((u0 [6, 12, 0, 2]), .inl (X.2.2.1, 7, .inl (fun _ => 0))), ((u0 [6, 12, 0, 3]), .inl (X.2.2.1, 49, .inl (fun _ => 0))), ((u0 [6, 0, 13]), .inr (7, [.ref (u0 [6, 13, 0, 0]), .ref (u0 [6, 13, 0, 1]), .ref (u0 [6, 13, 0, 2]), .ref (u0 [6, 13, 0, 3]), .int 0, .int 0])), ((u0 [6, 13, 0, 0]), .inl (X.2.2.1, 7, .inl (fun _ => 0))), ((u0 [6, 13, 0, 1]), .inl (X.2.2.1, 7, .inl (fun _ => 0))), ((u0 [6, 13, 0, 2]), .inl (X.2.2.1, 7, .inl (fun _ => 0))), ((u0 [6, 13, 0, 3]), .inl (X.2.2.1, 49, .inl (fun _ => 0))), ((u0 [6, 0, 14]), .inr (7, [.ref (u0 [6, 14, 0, 0]), .ref (u0 [6, 14, 0, 1]), .ref (u0 [6, 14, 0, 2]), .ref (u0 [6, 14, 0, 3]), .int 0, .int 0])), ((u0 [6, 14, 0, 0]), .inl (X.2.2.1, 7, .inl (fun _ => 0))), ((u0 [6, 14, 0, 1]), .inl (X.2.2.1, 7, .inl (fun _ => 0))), ((u0 [6, 14, 0, 2]), .inl (X.2.2.1, 7, .inl (fun _ => 0))), ((u0 [6, 14, 0, 3]), .inl (X.2.2.1, 49, .inl (fun _ => 0))), ((u0 [6, 0, 15]), .inr (7, [.ref (u0 [6, 15, 0, 0]), .ref (u0 [6, 15, 0, 1]), .ref (u0 [6, 15, 0, 2]), .ref (u0 [6, 15, 0, 3]), .int 0, .int 0])), ((u0 [6, 15, 0, 0]), .inl (X.2.2.1, 7, .inl (fun _ => 0))), ((u0 [6, 15, 0, 1]), .inl (X.2.2.1, 7, .inl (fun _ => 0))), ((u0 [6, 15, 0, 2]), .inl (X.2.2.1, 7, .inl (fun _ => 0))), ((u0 [6, 15, 0, 3]), .inl (X.2.2.1, 49, .inl (fun _ => 0))), ((u0 [6, 0, 16]), .inr (7, [.ref (u0 [6, 16, 0, 0]), .ref (u0 [6, 16, 0, 1]), .ref (u0 [6, 16, 0, 2]), .ref (u0 [6, 16, 0, 3]), .int 0, .int 0])), ((u0 [6, 16, 0, 0]), .inl (X.2.2.1, 7, .inl (fun _ => 0))), ((u0 [6, 16, 0, 1]), .inl (X.2.2.1, 7, .inl (fun _ => 0))), ((u0 [6, 16, 0, 2]), .inl (X.2.2.1, 7, .inl (fun _ => 0))), ((u0 [6, 16, 0, 3]), .inl (X.2.2.1, 49, .inl (fun _ => 0))), ((u0 [0, 6]), .inr (5, [.ref (u0 [7, 0, 0]), .ref (u0 [7, 0, 1]), .ref (u0 [7, 0, 2]), .int 0])), ((u0 [7, 0, 0]), .inl (X.2.2.1, 6, .inl (fun _ => 0))), ((u0 [7, 0, 1]), .inl (X.2.2.1, 6, .inl (fun _ => 0))), ((u0 [7, 0, 2]), .inl (X.2.2.1, 6, .inl (fun _ => 0))), ((u0 [0, 7]), .inr (0, [.ref (u0 [8, 0, 0]), .ref (u0 [8, 0, 1]), .int 0])), ((u0 [8, 0, 0]), .inl (X.2.2.1, 15, .inl (fun _ => 0))), ((u0 [8, 0, 1]), .inl (X.2.2.1, 15, .inl (fun _ => 0))), ((u0 [0, 8]), .inr (1, [.int 0])), ((u0 [0, 9]), .inl (X.2.2.2.2.1, 2, .inr (.inr (.inr (.inr (va_up (va_up (fun _ => none) 0 (some (u0 [0, 10]))) 1 (some (u0 [0, 11])))))))), ((u0 [0, 10]), .inr (3, [.ref (u0 [10, 0, 0]), .int 0, .int 0])), ((u0 [10, 0, 0]), .inr (7, [.ref (u0 [10, 1, 0, 0]), .ref (u0 [10, 1, 0, 1]), .ref (u0 [10, 1, 0, 2]), .ref (u0 [10, 1, 0, 3]), .int 0, .int 0])), ((u0 [10, 1, 0, 0]), .inl (X.2.2.1, 7, .inl (fun _ => 0))), ((u0 [10, 1, 0, 1]), .inl (X.2.2.1, 7, .inl (fun _ => 0))), ((u0 [10, 1, 0, 2]), .inl (X.2.2.1, 7, .inl (fun _ => 0))), ((u0 [10, 1, 0, 3]), .inl (X.2.2.1, 49, .inl (fun _ => 0))), ((u0 [0, 11]), .inr (3, [.ref (u0 [11, 0, 0]), .int 0, .int 0])), ((u0 [11, 0, 0]), .inr (7, [.ref (u0 [11, 1, 0, 0]), .ref (u0 [11, 1, 0, 1]), .ref (u0 [11, 1, 0, 2]), .ref (u0 [11, 1, 0, 3]), .int 0, .int 0])), ((u0 [11, 1, 0, 0]), .inl (X.2.2.1, 7, .inl (fun _ => 0))), ((u0 [11, 1, 0, 1]), .inl (X.2.2.1, 7, .inl (fun _ => 0))), ((u0 [11, 1, 0, 2]), .inl (X.2.2.1, 7, .inl (fun _ => 0))), ((u0 [11, 1, 0, 3]), .inl (X.2.2.1, 49, .inl (fun _ => 0))), (q1, .inr (11, [.int 0, .int 0, .int 0, .int 0, .ref (u1 [0, 0]), .ref (u1 [0, 1]), .int 0, .ref (u1 [0, 2]), .ref (u1 [0, 3]), .ref (u1 [0, 4]), .int 0, .int 0, .ref (u1 [0, 5]), .ref (u1 [0, 6]), .ref (u1 [0, 7]), .int 0, .ref (u1 [0, 8]), .ref (u1 [0, 9]), .ref (u1 [0, 10]), .int 0, .int (-1), .int 0, .int 0, .int 0, .int 0, .int 0, .int 0, .int 0, .ref (u1 [0, 11]), .ref (u1 [0, 12]), .int 0, .ref (u1 [0, 13]), .ref (u1 [0, 14]), .int 0, .ref (u1 [0, 15]), .int 0, .int 0, .ref (u1 [0, 16]), .ref (u1 [0, 17]), .ref (u1 [0, 18]), .ref (u1 [0, 19])])), ((u1 [0, 0]), .inl (X.2.2.1, 6, .inl (fun _ => 0))), ((u1 [0, 1]), .inl (X.2.2.1, 6, .inl (fun _ => 0))), ((u1 [0, 2]), .inl (X.2.2.1, 7, .inl (fun _ => 0))), ((u1 [0, 3]), .inl (X.2.2.1, 72, .inl (fun _ => 0))), ((u1 [0, 4]), .inl (X.2.2.1, 72, .inl (fun _ => 0))), ((u1 [0, 5]), .inl (X.2.2.1, 6, .inl (fun _ => 0))), ((u1 [0, 6]), .inl (X.2.2.1, 6, .inl (fun _ => 0))), ((u1 [0, 7]), .inl (X.2.2.1, 6, .inl (fun _ => 0))), ((u1 [0, 8]), .inl (X.2.2.1, 15, .inl (fun _ => 0))), ((u1 [0, 9]), .inl (X.2.2.1, 15, .inl (fun _ => 0))), ((u1 [0, 10]), .inl (X.2.2.1, 240, .inl (fun _ => 0))), ((u1 [0, 11]), .inl (X.2.2.1, 6, .inl (fun _ => 0))), ((u1 [0, 12]), .inl (X.2.2.1, 6, .inl (fun _ => 0))), ((u1 [0, 13]), .inl (X.2.2.1, 7, .inl (fun _ => 0))), ((u1 [0, 14]), .inl (X.2.2.1, 7, .inl (fun _ => 0))), ((u1 [0, 15]), .inl (X.2.2.1, 49, .inl (fun _ => 0))), ((u1 [0, 16]), .inl (X.2.2.1, 1152, .inl (fun _ => 0))), ((u1 [0, 17]), .inl (X.2.2.1, 54, .inl (fun _ => 0))), ((u1 [0, 18]), .inl (X.2.2.1, 146, .inl (fun _ => 0))), ((u1 [0, 19]), .inl (X.2.2.2.1, 2, .inl (fun _ => 0)))]
set_option maxHeartbeats 8000000 in
set_option maxRecDepth 100000 in
theorem xflat (X : xX) (q0 q1 : Nat) (u0 u1 : xU) : ([] ++ cw_X10 X q0 u0 ++ cw_X11 X q1 u1) = xfl X q0 q1 u0 u1 := by
  (simp only [cw_X0, cw_X1, cw_X2, cw_X3, cw_X4, cw_X5, cw_X6, cw_X7, cw_X8, cw_X9, cw_X10, cw_X11, List.nil_append, List.append_assoc, List.cons_append]) <;> rfl
def xinP (D : va_G) (a0 : Nat → Nat) (cs : ClassId × ClassId × ClassId × ClassId) (q0 q1 : Nat) (u0 u1 : xU) (k : Nat) : Prop := ∃ e : va_E, (xfl (D, a0, cs) q0 q1 u0 u1)[xpl k]? = some (xad q0 q1 u0 u1 k, e) ∧ ∀ H, va_at D vwCl (xad q0 q1 u0 u1 k, e) H → va_at D vwCl (xad q0 q1 u0 u1 k, xE (D, xad q0 q1 u0 u1, cs) k (xS0 k)) H
set_option maxRecDepth 100000 in
theorem xin_0 (D : va_G) (a0 : Nat → Nat) (cs : ClassId × ClassId × ClassId × ClassId) (q0 q1 : Nat) (u0 u1 : xU) : xinP D a0 cs q0 q1 u0 u1 0 := ⟨_, rfl, fun _ h => h⟩
set_option maxRecDepth 100000 in
theorem xin_1 (D : va_G) (a0 : Nat → Nat) (cs : ClassId × ClassId × ClassId × ClassId) (q0 q1 : Nat) (u0 u1 : xU) : xinP D a0 cs q0 q1 u0 u1 1 := ⟨_, rfl, fun _ h => h⟩
set_option maxRecDepth 100000 in
theorem xin_2 (D : va_G) (a0 : Nat → Nat) (cs : ClassId × ClassId × ClassId × ClassId) (q0 q1 : Nat) (u0 u1 : xU) : xinP D a0 cs q0 q1 u0 u1 2 := ⟨_, rfl, fun _ h => h⟩
set_option maxRecDepth 100000 in
theorem xin_3 (D : va_G) (a0 : Nat → Nat) (cs : ClassId × ClassId × ClassId × ClassId) (q0 q1 : Nat) (u0 u1 : xU) : xinP D a0 cs q0 q1 u0 u1 3 := ⟨_, rfl, fun _ h => h⟩
set_option maxRecDepth 100000 in
theorem xin_4 (D : va_G) (a0 : Nat → Nat) (cs : ClassId × ClassId × ClassId × ClassId) (q0 q1 : Nat) (u0 u1 : xU) : xinP D a0 cs q0 q1 u0 u1 4 := ⟨_, rfl, fun _ h => h⟩
set_option maxRecDepth 100000 in
theorem xin_5 (D : va_G) (a0 : Nat → Nat) (cs : ClassId × ClassId × ClassId × ClassId) (q0 q1 : Nat) (u0 u1 : xU) : xinP D a0 cs q0 q1 u0 u1 5 := ⟨_, rfl, fun _ h => h⟩
set_option maxRecDepth 100000 in
theorem xin_6 (D : va_G) (a0 : Nat → Nat) (cs : ClassId × ClassId × ClassId × ClassId) (q0 q1 : Nat) (u0 u1 : xU) : xinP D a0 cs q0 q1 u0 u1 6 := ⟨_, rfl, fun _ h => h⟩
set_option maxRecDepth 100000 in
theorem xin_7 (D : va_G) (a0 : Nat → Nat) (cs : ClassId × ClassId × ClassId × ClassId) (q0 q1 : Nat) (u0 u1 : xU) : xinP D a0 cs q0 q1 u0 u1 7 := ⟨_, rfl, fun _ h => h⟩
set_option maxRecDepth 100000 in
theorem xin_8 (D : va_G) (a0 : Nat → Nat) (cs : ClassId × ClassId × ClassId × ClassId) (q0 q1 : Nat) (u0 u1 : xU) : xinP D a0 cs q0 q1 u0 u1 8 := ⟨_, rfl, fun _ h => h⟩
set_option maxRecDepth 100000 in
theorem xin_9 (D : va_G) (a0 : Nat → Nat) (cs : ClassId × ClassId × ClassId × ClassId) (q0 q1 : Nat) (u0 u1 : xU) : xinP D a0 cs q0 q1 u0 u1 9 := ⟨_, rfl, fun _ h => h⟩
set_option maxRecDepth 100000 in
theorem xin_10 (D : va_G) (a0 : Nat → Nat) (cs : ClassId × ClassId × ClassId × ClassId) (q0 q1 : Nat) (u0 u1 : xU) : xinP D a0 cs q0 q1 u0 u1 10 := ⟨_, rfl, fun _ h => h⟩
set_option maxRecDepth 100000 in
theorem xin_11 (D : va_G) (a0 : Nat → Nat) (cs : ClassId × ClassId × ClassId × ClassId) (q0 q1 : Nat) (u0 u1 : xU) : xinP D a0 cs q0 q1 u0 u1 11 := ⟨_, rfl, fun _ h => h⟩
set_option maxRecDepth 100000 in
theorem xin_12 (D : va_G) (a0 : Nat → Nat) (cs : ClassId × ClassId × ClassId × ClassId) (q0 q1 : Nat) (u0 u1 : xU) : xinP D a0 cs q0 q1 u0 u1 12 := ⟨_, rfl, fun _ h => h⟩
set_option maxRecDepth 100000 in
theorem xin_13 (D : va_G) (a0 : Nat → Nat) (cs : ClassId × ClassId × ClassId × ClassId) (q0 q1 : Nat) (u0 u1 : xU) : xinP D a0 cs q0 q1 u0 u1 13 := ⟨_, rfl, fun _ h => h⟩
set_option maxRecDepth 100000 in
theorem xin_14 (D : va_G) (a0 : Nat → Nat) (cs : ClassId × ClassId × ClassId × ClassId) (q0 q1 : Nat) (u0 u1 : xU) : xinP D a0 cs q0 q1 u0 u1 14 := ⟨_, rfl, fun _ h => h⟩
set_option maxRecDepth 100000 in
theorem xin_15 (D : va_G) (a0 : Nat → Nat) (cs : ClassId × ClassId × ClassId × ClassId) (q0 q1 : Nat) (u0 u1 : xU) : xinP D a0 cs q0 q1 u0 u1 15 := ⟨_, rfl, fun _ h => h⟩
set_option maxRecDepth 100000 in
theorem xin_16 (D : va_G) (a0 : Nat → Nat) (cs : ClassId × ClassId × ClassId × ClassId) (q0 q1 : Nat) (u0 u1 : xU) : xinP D a0 cs q0 q1 u0 u1 16 := ⟨_, rfl, fun _ h => h⟩
set_option maxRecDepth 100000 in
theorem xin_17 (D : va_G) (a0 : Nat → Nat) (cs : ClassId × ClassId × ClassId × ClassId) (q0 q1 : Nat) (u0 u1 : xU) : xinP D a0 cs q0 q1 u0 u1 17 := ⟨_, rfl, fun _ h => h⟩
set_option maxRecDepth 100000 in
theorem xin_18 (D : va_G) (a0 : Nat → Nat) (cs : ClassId × ClassId × ClassId × ClassId) (q0 q1 : Nat) (u0 u1 : xU) : xinP D a0 cs q0 q1 u0 u1 18 := ⟨_, rfl, fun _ h => h⟩
set_option maxRecDepth 100000 in
theorem xin_19 (D : va_G) (a0 : Nat → Nat) (cs : ClassId × ClassId × ClassId × ClassId) (q0 q1 : Nat) (u0 u1 : xU) : xinP D a0 cs q0 q1 u0 u1 19 := ⟨_, rfl, fun _ h => h⟩
set_option maxRecDepth 100000 in
theorem xin_20 (D : va_G) (a0 : Nat → Nat) (cs : ClassId × ClassId × ClassId × ClassId) (q0 q1 : Nat) (u0 u1 : xU) : xinP D a0 cs q0 q1 u0 u1 20 := ⟨_, rfl, fun _ h => h⟩
set_option maxRecDepth 100000 in
theorem xin_21 (D : va_G) (a0 : Nat → Nat) (cs : ClassId × ClassId × ClassId × ClassId) (q0 q1 : Nat) (u0 u1 : xU) : xinP D a0 cs q0 q1 u0 u1 21 := ⟨_, rfl, fun _ h => h⟩
set_option maxRecDepth 100000 in
theorem xin_22 (D : va_G) (a0 : Nat → Nat) (cs : ClassId × ClassId × ClassId × ClassId) (q0 q1 : Nat) (u0 u1 : xU) : xinP D a0 cs q0 q1 u0 u1 22 := ⟨_, rfl, fun _ h => h⟩
set_option maxRecDepth 100000 in
theorem xin_23 (D : va_G) (a0 : Nat → Nat) (cs : ClassId × ClassId × ClassId × ClassId) (q0 q1 : Nat) (u0 u1 : xU) : xinP D a0 cs q0 q1 u0 u1 23 := ⟨_, rfl, fun _ h => h⟩
set_option maxRecDepth 100000 in
theorem xin_24 (D : va_G) (a0 : Nat → Nat) (cs : ClassId × ClassId × ClassId × ClassId) (q0 q1 : Nat) (u0 u1 : xU) : xinP D a0 cs q0 q1 u0 u1 24 := ⟨_, rfl, fun _ h => h⟩
set_option maxRecDepth 100000 in
theorem xin_25 (D : va_G) (a0 : Nat → Nat) (cs : ClassId × ClassId × ClassId × ClassId) (q0 q1 : Nat) (u0 u1 : xU) : xinP D a0 cs q0 q1 u0 u1 25 := ⟨_, rfl, fun _ h => h⟩
set_option maxRecDepth 100000 in
theorem xin_26 (D : va_G) (a0 : Nat → Nat) (cs : ClassId × ClassId × ClassId × ClassId) (q0 q1 : Nat) (u0 u1 : xU) : xinP D a0 cs q0 q1 u0 u1 26 := ⟨_, rfl, fun _ h => h⟩
set_option maxRecDepth 100000 in
theorem xin_27 (D : va_G) (a0 : Nat → Nat) (cs : ClassId × ClassId × ClassId × ClassId) (q0 q1 : Nat) (u0 u1 : xU) : xinP D a0 cs q0 q1 u0 u1 27 := ⟨_, rfl, fun _ h => h⟩
set_option maxRecDepth 100000 in
theorem xin_28 (D : va_G) (a0 : Nat → Nat) (cs : ClassId × ClassId × ClassId × ClassId) (q0 q1 : Nat) (u0 u1 : xU) : xinP D a0 cs q0 q1 u0 u1 28 := ⟨_, rfl, fun H h => h.trans (congrArg some (cell_cg _ _ _ _ (fun j hj => by match j, hj with | 0, _ => rfl | 1, _ => rfl | 2, _ => rfl | 3, _ => rfl | 4, _ => rfl | 5, _ => rfl | 6, _ => rfl | 7, _ => rfl | 8, _ => rfl | 9, _ => rfl | 10, _ => rfl | 11, _ => rfl | 12, _ => rfl | 13, _ => rfl | 14, _ => rfl | 15, _ => rfl | j + 16, hj => exact absurd hj (by omega))))⟩
set_option maxRecDepth 100000 in
theorem xin_29 (D : va_G) (a0 : Nat → Nat) (cs : ClassId × ClassId × ClassId × ClassId) (q0 q1 : Nat) (u0 u1 : xU) : xinP D a0 cs q0 q1 u0 u1 29 := ⟨_, rfl, fun H h => h.trans (congrArg some (cell_cg _ _ _ _ (fun j hj => by match j, hj with | 0, _ => rfl | 1, _ => rfl | j + 2, hj => exact absurd hj (by omega))))⟩
set_option maxRecDepth 100000 in
theorem xin_30 (D : va_G) (a0 : Nat → Nat) (cs : ClassId × ClassId × ClassId × ClassId) (q0 q1 : Nat) (u0 u1 : xU) : xinP D a0 cs q0 q1 u0 u1 30 := ⟨_, rfl, fun _ h => h⟩
set_option maxRecDepth 100000 in
theorem xin_31 (D : va_G) (a0 : Nat → Nat) (cs : ClassId × ClassId × ClassId × ClassId) (q0 q1 : Nat) (u0 u1 : xU) : xinP D a0 cs q0 q1 u0 u1 31 := ⟨_, rfl, fun _ h => h⟩
set_option maxRecDepth 100000 in
theorem xin_32 (D : va_G) (a0 : Nat → Nat) (cs : ClassId × ClassId × ClassId × ClassId) (q0 q1 : Nat) (u0 u1 : xU) : xinP D a0 cs q0 q1 u0 u1 32 := ⟨_, rfl, fun _ h => h⟩
set_option maxRecDepth 100000 in
theorem xin_33 (D : va_G) (a0 : Nat → Nat) (cs : ClassId × ClassId × ClassId × ClassId) (q0 q1 : Nat) (u0 u1 : xU) : xinP D a0 cs q0 q1 u0 u1 33 := ⟨_, rfl, fun _ h => h⟩
set_option maxRecDepth 100000 in
theorem xin_34 (D : va_G) (a0 : Nat → Nat) (cs : ClassId × ClassId × ClassId × ClassId) (q0 q1 : Nat) (u0 u1 : xU) : xinP D a0 cs q0 q1 u0 u1 34 := ⟨_, rfl, fun _ h => h⟩
set_option maxRecDepth 100000 in
theorem xin_35 (D : va_G) (a0 : Nat → Nat) (cs : ClassId × ClassId × ClassId × ClassId) (q0 q1 : Nat) (u0 u1 : xU) : xinP D a0 cs q0 q1 u0 u1 35 := ⟨_, rfl, fun _ h => h⟩
set_option maxRecDepth 100000 in
theorem xin_36 (D : va_G) (a0 : Nat → Nat) (cs : ClassId × ClassId × ClassId × ClassId) (q0 q1 : Nat) (u0 u1 : xU) : xinP D a0 cs q0 q1 u0 u1 36 := ⟨_, rfl, fun _ h => h⟩
set_option maxRecDepth 100000 in
theorem xin_37 (D : va_G) (a0 : Nat → Nat) (cs : ClassId × ClassId × ClassId × ClassId) (q0 q1 : Nat) (u0 u1 : xU) : xinP D a0 cs q0 q1 u0 u1 37 := ⟨_, rfl, fun _ h => h⟩
set_option maxRecDepth 100000 in
theorem xin_38 (D : va_G) (a0 : Nat → Nat) (cs : ClassId × ClassId × ClassId × ClassId) (q0 q1 : Nat) (u0 u1 : xU) : xinP D a0 cs q0 q1 u0 u1 38 := ⟨_, rfl, fun _ h => h⟩
set_option maxRecDepth 100000 in
theorem xin_39 (D : va_G) (a0 : Nat → Nat) (cs : ClassId × ClassId × ClassId × ClassId) (q0 q1 : Nat) (u0 u1 : xU) : xinP D a0 cs q0 q1 u0 u1 39 := ⟨_, rfl, fun _ h => h⟩
set_option maxRecDepth 100000 in
theorem xin_40 (D : va_G) (a0 : Nat → Nat) (cs : ClassId × ClassId × ClassId × ClassId) (q0 q1 : Nat) (u0 u1 : xU) : xinP D a0 cs q0 q1 u0 u1 40 := ⟨_, rfl, fun _ h => h⟩
set_option maxRecDepth 100000 in
theorem xin_41 (D : va_G) (a0 : Nat → Nat) (cs : ClassId × ClassId × ClassId × ClassId) (q0 q1 : Nat) (u0 u1 : xU) : xinP D a0 cs q0 q1 u0 u1 41 := ⟨_, rfl, fun _ h => h⟩
set_option maxRecDepth 100000 in
theorem xin_42 (D : va_G) (a0 : Nat → Nat) (cs : ClassId × ClassId × ClassId × ClassId) (q0 q1 : Nat) (u0 u1 : xU) : xinP D a0 cs q0 q1 u0 u1 42 := ⟨_, rfl, fun _ h => h⟩
set_option maxRecDepth 100000 in
theorem xin_43 (D : va_G) (a0 : Nat → Nat) (cs : ClassId × ClassId × ClassId × ClassId) (q0 q1 : Nat) (u0 u1 : xU) : xinP D a0 cs q0 q1 u0 u1 43 := ⟨_, rfl, fun _ h => h⟩
set_option maxRecDepth 100000 in
theorem xin_44 (D : va_G) (a0 : Nat → Nat) (cs : ClassId × ClassId × ClassId × ClassId) (q0 q1 : Nat) (u0 u1 : xU) : xinP D a0 cs q0 q1 u0 u1 44 := ⟨_, rfl, fun _ h => h⟩
set_option maxRecDepth 100000 in
theorem xin_45 (D : va_G) (a0 : Nat → Nat) (cs : ClassId × ClassId × ClassId × ClassId) (q0 q1 : Nat) (u0 u1 : xU) : xinP D a0 cs q0 q1 u0 u1 45 := ⟨_, rfl, fun _ h => h⟩
set_option maxRecDepth 100000 in
theorem xin_46 (D : va_G) (a0 : Nat → Nat) (cs : ClassId × ClassId × ClassId × ClassId) (q0 q1 : Nat) (u0 u1 : xU) : xinP D a0 cs q0 q1 u0 u1 46 := ⟨_, rfl, fun _ h => h⟩
set_option maxRecDepth 100000 in
theorem xin_47 (D : va_G) (a0 : Nat → Nat) (cs : ClassId × ClassId × ClassId × ClassId) (q0 q1 : Nat) (u0 u1 : xU) : xinP D a0 cs q0 q1 u0 u1 47 := ⟨_, rfl, fun _ h => h⟩
set_option maxRecDepth 100000 in
theorem xin_48 (D : va_G) (a0 : Nat → Nat) (cs : ClassId × ClassId × ClassId × ClassId) (q0 q1 : Nat) (u0 u1 : xU) : xinP D a0 cs q0 q1 u0 u1 48 := ⟨_, rfl, fun _ h => h⟩
set_option maxRecDepth 100000 in
theorem xin_49 (D : va_G) (a0 : Nat → Nat) (cs : ClassId × ClassId × ClassId × ClassId) (q0 q1 : Nat) (u0 u1 : xU) : xinP D a0 cs q0 q1 u0 u1 49 := ⟨_, rfl, fun _ h => h⟩
set_option maxRecDepth 100000 in
theorem xin_50 (D : va_G) (a0 : Nat → Nat) (cs : ClassId × ClassId × ClassId × ClassId) (q0 q1 : Nat) (u0 u1 : xU) : xinP D a0 cs q0 q1 u0 u1 50 := ⟨_, rfl, fun _ h => h⟩
set_option maxRecDepth 100000 in
theorem xin_51 (D : va_G) (a0 : Nat → Nat) (cs : ClassId × ClassId × ClassId × ClassId) (q0 q1 : Nat) (u0 u1 : xU) : xinP D a0 cs q0 q1 u0 u1 51 := ⟨_, rfl, fun _ h => h⟩
set_option maxRecDepth 100000 in
theorem xin_52 (D : va_G) (a0 : Nat → Nat) (cs : ClassId × ClassId × ClassId × ClassId) (q0 q1 : Nat) (u0 u1 : xU) : xinP D a0 cs q0 q1 u0 u1 52 := ⟨_, rfl, fun _ h => h⟩
set_option maxRecDepth 100000 in
theorem xin_53 (D : va_G) (a0 : Nat → Nat) (cs : ClassId × ClassId × ClassId × ClassId) (q0 q1 : Nat) (u0 u1 : xU) : xinP D a0 cs q0 q1 u0 u1 53 := ⟨_, rfl, fun _ h => h⟩
set_option maxRecDepth 100000 in
theorem xin_54 (D : va_G) (a0 : Nat → Nat) (cs : ClassId × ClassId × ClassId × ClassId) (q0 q1 : Nat) (u0 u1 : xU) : xinP D a0 cs q0 q1 u0 u1 54 := ⟨_, rfl, fun _ h => h⟩
set_option maxRecDepth 100000 in
theorem xin_55 (D : va_G) (a0 : Nat → Nat) (cs : ClassId × ClassId × ClassId × ClassId) (q0 q1 : Nat) (u0 u1 : xU) : xinP D a0 cs q0 q1 u0 u1 55 := ⟨_, rfl, fun _ h => h⟩
set_option maxRecDepth 100000 in
theorem xin_56 (D : va_G) (a0 : Nat → Nat) (cs : ClassId × ClassId × ClassId × ClassId) (q0 q1 : Nat) (u0 u1 : xU) : xinP D a0 cs q0 q1 u0 u1 56 := ⟨_, rfl, fun _ h => h⟩
set_option maxRecDepth 100000 in
theorem xin_57 (D : va_G) (a0 : Nat → Nat) (cs : ClassId × ClassId × ClassId × ClassId) (q0 q1 : Nat) (u0 u1 : xU) : xinP D a0 cs q0 q1 u0 u1 57 := ⟨_, rfl, fun _ h => h⟩
set_option maxRecDepth 100000 in
theorem xin_58 (D : va_G) (a0 : Nat → Nat) (cs : ClassId × ClassId × ClassId × ClassId) (q0 q1 : Nat) (u0 u1 : xU) : xinP D a0 cs q0 q1 u0 u1 58 := ⟨_, rfl, fun _ h => h⟩
set_option maxRecDepth 100000 in
theorem xin_59 (D : va_G) (a0 : Nat → Nat) (cs : ClassId × ClassId × ClassId × ClassId) (q0 q1 : Nat) (u0 u1 : xU) : xinP D a0 cs q0 q1 u0 u1 59 := ⟨_, rfl, fun _ h => h⟩
set_option maxRecDepth 100000 in
theorem xin_60 (D : va_G) (a0 : Nat → Nat) (cs : ClassId × ClassId × ClassId × ClassId) (q0 q1 : Nat) (u0 u1 : xU) : xinP D a0 cs q0 q1 u0 u1 60 := ⟨_, rfl, fun _ h => h⟩
set_option maxRecDepth 100000 in
theorem xin_61 (D : va_G) (a0 : Nat → Nat) (cs : ClassId × ClassId × ClassId × ClassId) (q0 q1 : Nat) (u0 u1 : xU) : xinP D a0 cs q0 q1 u0 u1 61 := ⟨_, rfl, fun _ h => h⟩
set_option maxRecDepth 100000 in
theorem xin_62 (D : va_G) (a0 : Nat → Nat) (cs : ClassId × ClassId × ClassId × ClassId) (q0 q1 : Nat) (u0 u1 : xU) : xinP D a0 cs q0 q1 u0 u1 62 := ⟨_, rfl, fun _ h => h⟩
set_option maxRecDepth 100000 in
theorem xin_63 (D : va_G) (a0 : Nat → Nat) (cs : ClassId × ClassId × ClassId × ClassId) (q0 q1 : Nat) (u0 u1 : xU) : xinP D a0 cs q0 q1 u0 u1 63 := ⟨_, rfl, fun _ h => h⟩
set_option maxRecDepth 100000 in
theorem xin_64 (D : va_G) (a0 : Nat → Nat) (cs : ClassId × ClassId × ClassId × ClassId) (q0 q1 : Nat) (u0 u1 : xU) : xinP D a0 cs q0 q1 u0 u1 64 := ⟨_, rfl, fun _ h => h⟩
set_option maxRecDepth 100000 in
theorem xin_65 (D : va_G) (a0 : Nat → Nat) (cs : ClassId × ClassId × ClassId × ClassId) (q0 q1 : Nat) (u0 u1 : xU) : xinP D a0 cs q0 q1 u0 u1 65 := ⟨_, rfl, fun _ h => h⟩
set_option maxRecDepth 100000 in
theorem xin_66 (D : va_G) (a0 : Nat → Nat) (cs : ClassId × ClassId × ClassId × ClassId) (q0 q1 : Nat) (u0 u1 : xU) : xinP D a0 cs q0 q1 u0 u1 66 := ⟨_, rfl, fun _ h => h⟩
set_option maxRecDepth 100000 in
theorem xin_67 (D : va_G) (a0 : Nat → Nat) (cs : ClassId × ClassId × ClassId × ClassId) (q0 q1 : Nat) (u0 u1 : xU) : xinP D a0 cs q0 q1 u0 u1 67 := ⟨_, rfl, fun _ h => h⟩
set_option maxRecDepth 100000 in
theorem xin_68 (D : va_G) (a0 : Nat → Nat) (cs : ClassId × ClassId × ClassId × ClassId) (q0 q1 : Nat) (u0 u1 : xU) : xinP D a0 cs q0 q1 u0 u1 68 := ⟨_, rfl, fun _ h => h⟩
set_option maxRecDepth 100000 in
theorem xin_69 (D : va_G) (a0 : Nat → Nat) (cs : ClassId × ClassId × ClassId × ClassId) (q0 q1 : Nat) (u0 u1 : xU) : xinP D a0 cs q0 q1 u0 u1 69 := ⟨_, rfl, fun _ h => h⟩
set_option maxRecDepth 100000 in
theorem xin_70 (D : va_G) (a0 : Nat → Nat) (cs : ClassId × ClassId × ClassId × ClassId) (q0 q1 : Nat) (u0 u1 : xU) : xinP D a0 cs q0 q1 u0 u1 70 := ⟨_, rfl, fun _ h => h⟩
set_option maxRecDepth 100000 in
theorem xin_71 (D : va_G) (a0 : Nat → Nat) (cs : ClassId × ClassId × ClassId × ClassId) (q0 q1 : Nat) (u0 u1 : xU) : xinP D a0 cs q0 q1 u0 u1 71 := ⟨_, rfl, fun _ h => h⟩
set_option maxRecDepth 100000 in
theorem xin_72 (D : va_G) (a0 : Nat → Nat) (cs : ClassId × ClassId × ClassId × ClassId) (q0 q1 : Nat) (u0 u1 : xU) : xinP D a0 cs q0 q1 u0 u1 72 := ⟨_, rfl, fun _ h => h⟩
set_option maxRecDepth 100000 in
theorem xin_73 (D : va_G) (a0 : Nat → Nat) (cs : ClassId × ClassId × ClassId × ClassId) (q0 q1 : Nat) (u0 u1 : xU) : xinP D a0 cs q0 q1 u0 u1 73 := ⟨_, rfl, fun _ h => h⟩
set_option maxRecDepth 100000 in
theorem xin_74 (D : va_G) (a0 : Nat → Nat) (cs : ClassId × ClassId × ClassId × ClassId) (q0 q1 : Nat) (u0 u1 : xU) : xinP D a0 cs q0 q1 u0 u1 74 := ⟨_, rfl, fun _ h => h⟩
set_option maxRecDepth 100000 in
theorem xin_75 (D : va_G) (a0 : Nat → Nat) (cs : ClassId × ClassId × ClassId × ClassId) (q0 q1 : Nat) (u0 u1 : xU) : xinP D a0 cs q0 q1 u0 u1 75 := ⟨_, rfl, fun _ h => h⟩
set_option maxRecDepth 100000 in
theorem xin_76 (D : va_G) (a0 : Nat → Nat) (cs : ClassId × ClassId × ClassId × ClassId) (q0 q1 : Nat) (u0 u1 : xU) : xinP D a0 cs q0 q1 u0 u1 76 := ⟨_, rfl, fun _ h => h⟩
set_option maxRecDepth 100000 in
theorem xin_77 (D : va_G) (a0 : Nat → Nat) (cs : ClassId × ClassId × ClassId × ClassId) (q0 q1 : Nat) (u0 u1 : xU) : xinP D a0 cs q0 q1 u0 u1 77 := ⟨_, rfl, fun _ h => h⟩
set_option maxRecDepth 100000 in
theorem xin_78 (D : va_G) (a0 : Nat → Nat) (cs : ClassId × ClassId × ClassId × ClassId) (q0 q1 : Nat) (u0 u1 : xU) : xinP D a0 cs q0 q1 u0 u1 78 := ⟨_, rfl, fun _ h => h⟩
set_option maxRecDepth 100000 in
theorem xin_79 (D : va_G) (a0 : Nat → Nat) (cs : ClassId × ClassId × ClassId × ClassId) (q0 q1 : Nat) (u0 u1 : xU) : xinP D a0 cs q0 q1 u0 u1 79 := ⟨_, rfl, fun _ h => h⟩
set_option maxRecDepth 100000 in
theorem xin_80 (D : va_G) (a0 : Nat → Nat) (cs : ClassId × ClassId × ClassId × ClassId) (q0 q1 : Nat) (u0 u1 : xU) : xinP D a0 cs q0 q1 u0 u1 80 := ⟨_, rfl, fun _ h => h⟩
set_option maxRecDepth 100000 in
theorem xin_81 (D : va_G) (a0 : Nat → Nat) (cs : ClassId × ClassId × ClassId × ClassId) (q0 q1 : Nat) (u0 u1 : xU) : xinP D a0 cs q0 q1 u0 u1 81 := ⟨_, rfl, fun _ h => h⟩
set_option maxRecDepth 100000 in
theorem xin_82 (D : va_G) (a0 : Nat → Nat) (cs : ClassId × ClassId × ClassId × ClassId) (q0 q1 : Nat) (u0 u1 : xU) : xinP D a0 cs q0 q1 u0 u1 82 := ⟨_, rfl, fun _ h => h⟩
set_option maxRecDepth 100000 in
theorem xin_83 (D : va_G) (a0 : Nat → Nat) (cs : ClassId × ClassId × ClassId × ClassId) (q0 q1 : Nat) (u0 u1 : xU) : xinP D a0 cs q0 q1 u0 u1 83 := ⟨_, rfl, fun _ h => h⟩
set_option maxRecDepth 100000 in
theorem xin_84 (D : va_G) (a0 : Nat → Nat) (cs : ClassId × ClassId × ClassId × ClassId) (q0 q1 : Nat) (u0 u1 : xU) : xinP D a0 cs q0 q1 u0 u1 84 := ⟨_, rfl, fun _ h => h⟩
set_option maxRecDepth 100000 in
theorem xin_85 (D : va_G) (a0 : Nat → Nat) (cs : ClassId × ClassId × ClassId × ClassId) (q0 q1 : Nat) (u0 u1 : xU) : xinP D a0 cs q0 q1 u0 u1 85 := ⟨_, rfl, fun _ h => h⟩
set_option maxRecDepth 100000 in
theorem xin_86 (D : va_G) (a0 : Nat → Nat) (cs : ClassId × ClassId × ClassId × ClassId) (q0 q1 : Nat) (u0 u1 : xU) : xinP D a0 cs q0 q1 u0 u1 86 := ⟨_, rfl, fun _ h => h⟩
set_option maxRecDepth 100000 in
theorem xin_87 (D : va_G) (a0 : Nat → Nat) (cs : ClassId × ClassId × ClassId × ClassId) (q0 q1 : Nat) (u0 u1 : xU) : xinP D a0 cs q0 q1 u0 u1 87 := ⟨_, rfl, fun _ h => h⟩
set_option maxRecDepth 100000 in
theorem xin_88 (D : va_G) (a0 : Nat → Nat) (cs : ClassId × ClassId × ClassId × ClassId) (q0 q1 : Nat) (u0 u1 : xU) : xinP D a0 cs q0 q1 u0 u1 88 := ⟨_, rfl, fun _ h => h⟩
set_option maxRecDepth 100000 in
theorem xin_89 (D : va_G) (a0 : Nat → Nat) (cs : ClassId × ClassId × ClassId × ClassId) (q0 q1 : Nat) (u0 u1 : xU) : xinP D a0 cs q0 q1 u0 u1 89 := ⟨_, rfl, fun _ h => h⟩
set_option maxRecDepth 100000 in
theorem xin_90 (D : va_G) (a0 : Nat → Nat) (cs : ClassId × ClassId × ClassId × ClassId) (q0 q1 : Nat) (u0 u1 : xU) : xinP D a0 cs q0 q1 u0 u1 90 := ⟨_, rfl, fun _ h => h⟩
set_option maxRecDepth 100000 in
theorem xin_91 (D : va_G) (a0 : Nat → Nat) (cs : ClassId × ClassId × ClassId × ClassId) (q0 q1 : Nat) (u0 u1 : xU) : xinP D a0 cs q0 q1 u0 u1 91 := ⟨_, rfl, fun _ h => h⟩
set_option maxRecDepth 100000 in
theorem xin_92 (D : va_G) (a0 : Nat → Nat) (cs : ClassId × ClassId × ClassId × ClassId) (q0 q1 : Nat) (u0 u1 : xU) : xinP D a0 cs q0 q1 u0 u1 92 := ⟨_, rfl, fun _ h => h⟩
set_option maxRecDepth 100000 in
theorem xin_93 (D : va_G) (a0 : Nat → Nat) (cs : ClassId × ClassId × ClassId × ClassId) (q0 q1 : Nat) (u0 u1 : xU) : xinP D a0 cs q0 q1 u0 u1 93 := ⟨_, rfl, fun _ h => h⟩
set_option maxRecDepth 100000 in
theorem xin_94 (D : va_G) (a0 : Nat → Nat) (cs : ClassId × ClassId × ClassId × ClassId) (q0 q1 : Nat) (u0 u1 : xU) : xinP D a0 cs q0 q1 u0 u1 94 := ⟨_, rfl, fun _ h => h⟩
set_option maxRecDepth 100000 in
theorem xin_95 (D : va_G) (a0 : Nat → Nat) (cs : ClassId × ClassId × ClassId × ClassId) (q0 q1 : Nat) (u0 u1 : xU) : xinP D a0 cs q0 q1 u0 u1 95 := ⟨_, rfl, fun _ h => h⟩
set_option maxRecDepth 100000 in
theorem xin_96 (D : va_G) (a0 : Nat → Nat) (cs : ClassId × ClassId × ClassId × ClassId) (q0 q1 : Nat) (u0 u1 : xU) : xinP D a0 cs q0 q1 u0 u1 96 := ⟨_, rfl, fun _ h => h⟩
set_option maxRecDepth 100000 in
theorem xin_97 (D : va_G) (a0 : Nat → Nat) (cs : ClassId × ClassId × ClassId × ClassId) (q0 q1 : Nat) (u0 u1 : xU) : xinP D a0 cs q0 q1 u0 u1 97 := ⟨_, rfl, fun _ h => h⟩
set_option maxRecDepth 100000 in
theorem xin_98 (D : va_G) (a0 : Nat → Nat) (cs : ClassId × ClassId × ClassId × ClassId) (q0 q1 : Nat) (u0 u1 : xU) : xinP D a0 cs q0 q1 u0 u1 98 := ⟨_, rfl, fun _ h => h⟩
set_option maxRecDepth 100000 in
theorem xin_99 (D : va_G) (a0 : Nat → Nat) (cs : ClassId × ClassId × ClassId × ClassId) (q0 q1 : Nat) (u0 u1 : xU) : xinP D a0 cs q0 q1 u0 u1 99 := ⟨_, rfl, fun _ h => h⟩
set_option maxRecDepth 100000 in
theorem xin_100 (D : va_G) (a0 : Nat → Nat) (cs : ClassId × ClassId × ClassId × ClassId) (q0 q1 : Nat) (u0 u1 : xU) : xinP D a0 cs q0 q1 u0 u1 100 := ⟨_, rfl, fun _ h => h⟩
set_option maxRecDepth 100000 in
theorem xin_101 (D : va_G) (a0 : Nat → Nat) (cs : ClassId × ClassId × ClassId × ClassId) (q0 q1 : Nat) (u0 u1 : xU) : xinP D a0 cs q0 q1 u0 u1 101 := ⟨_, rfl, fun _ h => h⟩
set_option maxRecDepth 100000 in
theorem xin_102 (D : va_G) (a0 : Nat → Nat) (cs : ClassId × ClassId × ClassId × ClassId) (q0 q1 : Nat) (u0 u1 : xU) : xinP D a0 cs q0 q1 u0 u1 102 := ⟨_, rfl, fun _ h => h⟩
set_option maxRecDepth 100000 in
theorem xin_103 (D : va_G) (a0 : Nat → Nat) (cs : ClassId × ClassId × ClassId × ClassId) (q0 q1 : Nat) (u0 u1 : xU) : xinP D a0 cs q0 q1 u0 u1 103 := ⟨_, rfl, fun _ h => h⟩
set_option maxRecDepth 100000 in
theorem xin_104 (D : va_G) (a0 : Nat → Nat) (cs : ClassId × ClassId × ClassId × ClassId) (q0 q1 : Nat) (u0 u1 : xU) : xinP D a0 cs q0 q1 u0 u1 104 := ⟨_, rfl, fun _ h => h⟩
set_option maxRecDepth 100000 in
theorem xin_105 (D : va_G) (a0 : Nat → Nat) (cs : ClassId × ClassId × ClassId × ClassId) (q0 q1 : Nat) (u0 u1 : xU) : xinP D a0 cs q0 q1 u0 u1 105 := ⟨_, rfl, fun _ h => h⟩
set_option maxRecDepth 100000 in
theorem xin_106 (D : va_G) (a0 : Nat → Nat) (cs : ClassId × ClassId × ClassId × ClassId) (q0 q1 : Nat) (u0 u1 : xU) : xinP D a0 cs q0 q1 u0 u1 106 := ⟨_, rfl, fun _ h => h⟩
set_option maxRecDepth 100000 in
theorem xin_107 (D : va_G) (a0 : Nat → Nat) (cs : ClassId × ClassId × ClassId × ClassId) (q0 q1 : Nat) (u0 u1 : xU) : xinP D a0 cs q0 q1 u0 u1 107 := ⟨_, rfl, fun _ h => h⟩
set_option maxRecDepth 100000 in
theorem xin_108 (D : va_G) (a0 : Nat → Nat) (cs : ClassId × ClassId × ClassId × ClassId) (q0 q1 : Nat) (u0 u1 : xU) : xinP D a0 cs q0 q1 u0 u1 108 := ⟨_, rfl, fun _ h => h⟩
set_option maxRecDepth 100000 in
theorem xin_109 (D : va_G) (a0 : Nat → Nat) (cs : ClassId × ClassId × ClassId × ClassId) (q0 q1 : Nat) (u0 u1 : xU) : xinP D a0 cs q0 q1 u0 u1 109 := ⟨_, rfl, fun _ h => h⟩
set_option maxRecDepth 100000 in
theorem xin_110 (D : va_G) (a0 : Nat → Nat) (cs : ClassId × ClassId × ClassId × ClassId) (q0 q1 : Nat) (u0 u1 : xU) : xinP D a0 cs q0 q1 u0 u1 110 := ⟨_, rfl, fun _ h => h⟩
set_option maxRecDepth 100000 in
theorem xin_111 (D : va_G) (a0 : Nat → Nat) (cs : ClassId × ClassId × ClassId × ClassId) (q0 q1 : Nat) (u0 u1 : xU) : xinP D a0 cs q0 q1 u0 u1 111 := ⟨_, rfl, fun _ h => h⟩
set_option maxRecDepth 100000 in
theorem xin_112 (D : va_G) (a0 : Nat → Nat) (cs : ClassId × ClassId × ClassId × ClassId) (q0 q1 : Nat) (u0 u1 : xU) : xinP D a0 cs q0 q1 u0 u1 112 := ⟨_, rfl, fun _ h => h⟩
set_option maxRecDepth 100000 in
theorem xin_113 (D : va_G) (a0 : Nat → Nat) (cs : ClassId × ClassId × ClassId × ClassId) (q0 q1 : Nat) (u0 u1 : xU) : xinP D a0 cs q0 q1 u0 u1 113 := ⟨_, rfl, fun _ h => h⟩
set_option maxRecDepth 100000 in
theorem xin_114 (D : va_G) (a0 : Nat → Nat) (cs : ClassId × ClassId × ClassId × ClassId) (q0 q1 : Nat) (u0 u1 : xU) : xinP D a0 cs q0 q1 u0 u1 114 := ⟨_, rfl, fun _ h => h⟩
set_option maxRecDepth 100000 in
theorem xin_115 (D : va_G) (a0 : Nat → Nat) (cs : ClassId × ClassId × ClassId × ClassId) (q0 q1 : Nat) (u0 u1 : xU) : xinP D a0 cs q0 q1 u0 u1 115 := ⟨_, rfl, fun _ h => h⟩
set_option maxRecDepth 100000 in
theorem xin_116 (D : va_G) (a0 : Nat → Nat) (cs : ClassId × ClassId × ClassId × ClassId) (q0 q1 : Nat) (u0 u1 : xU) : xinP D a0 cs q0 q1 u0 u1 116 := ⟨_, rfl, fun _ h => h⟩
set_option maxRecDepth 100000 in
theorem xin_117 (D : va_G) (a0 : Nat → Nat) (cs : ClassId × ClassId × ClassId × ClassId) (q0 q1 : Nat) (u0 u1 : xU) : xinP D a0 cs q0 q1 u0 u1 117 := ⟨_, rfl, fun _ h => h⟩
set_option maxRecDepth 100000 in
theorem xin_118 (D : va_G) (a0 : Nat → Nat) (cs : ClassId × ClassId × ClassId × ClassId) (q0 q1 : Nat) (u0 u1 : xU) : xinP D a0 cs q0 q1 u0 u1 118 := ⟨_, rfl, fun _ h => h⟩
set_option maxRecDepth 100000 in
theorem xin_119 (D : va_G) (a0 : Nat → Nat) (cs : ClassId × ClassId × ClassId × ClassId) (q0 q1 : Nat) (u0 u1 : xU) : xinP D a0 cs q0 q1 u0 u1 119 := ⟨_, rfl, fun _ h => h⟩
set_option maxRecDepth 100000 in
theorem xin_120 (D : va_G) (a0 : Nat → Nat) (cs : ClassId × ClassId × ClassId × ClassId) (q0 q1 : Nat) (u0 u1 : xU) : xinP D a0 cs q0 q1 u0 u1 120 := ⟨_, rfl, fun _ h => h⟩
set_option maxRecDepth 100000 in
theorem xin_121 (D : va_G) (a0 : Nat → Nat) (cs : ClassId × ClassId × ClassId × ClassId) (q0 q1 : Nat) (u0 u1 : xU) : xinP D a0 cs q0 q1 u0 u1 121 := ⟨_, rfl, fun _ h => h⟩
set_option maxRecDepth 100000 in
theorem xin_122 (D : va_G) (a0 : Nat → Nat) (cs : ClassId × ClassId × ClassId × ClassId) (q0 q1 : Nat) (u0 u1 : xU) : xinP D a0 cs q0 q1 u0 u1 122 := ⟨_, rfl, fun _ h => h⟩
set_option maxRecDepth 100000 in
theorem xin_123 (D : va_G) (a0 : Nat → Nat) (cs : ClassId × ClassId × ClassId × ClassId) (q0 q1 : Nat) (u0 u1 : xU) : xinP D a0 cs q0 q1 u0 u1 123 := ⟨_, rfl, fun _ h => h⟩
set_option maxRecDepth 100000 in
theorem xin_124 (D : va_G) (a0 : Nat → Nat) (cs : ClassId × ClassId × ClassId × ClassId) (q0 q1 : Nat) (u0 u1 : xU) : xinP D a0 cs q0 q1 u0 u1 124 := ⟨_, rfl, fun _ h => h⟩
set_option maxRecDepth 100000 in
theorem xin_125 (D : va_G) (a0 : Nat → Nat) (cs : ClassId × ClassId × ClassId × ClassId) (q0 q1 : Nat) (u0 u1 : xU) : xinP D a0 cs q0 q1 u0 u1 125 := ⟨_, rfl, fun _ h => h⟩
set_option maxRecDepth 100000 in
theorem xin_126 (D : va_G) (a0 : Nat → Nat) (cs : ClassId × ClassId × ClassId × ClassId) (q0 q1 : Nat) (u0 u1 : xU) : xinP D a0 cs q0 q1 u0 u1 126 := ⟨_, rfl, fun _ h => h⟩
set_option maxRecDepth 100000 in
theorem xin_127 (D : va_G) (a0 : Nat → Nat) (cs : ClassId × ClassId × ClassId × ClassId) (q0 q1 : Nat) (u0 u1 : xU) : xinP D a0 cs q0 q1 u0 u1 127 := ⟨_, rfl, fun _ h => h⟩
set_option maxRecDepth 100000 in
theorem xin_128 (D : va_G) (a0 : Nat → Nat) (cs : ClassId × ClassId × ClassId × ClassId) (q0 q1 : Nat) (u0 u1 : xU) : xinP D a0 cs q0 q1 u0 u1 128 := ⟨_, rfl, fun _ h => h⟩
set_option maxRecDepth 100000 in
theorem xin_129 (D : va_G) (a0 : Nat → Nat) (cs : ClassId × ClassId × ClassId × ClassId) (q0 q1 : Nat) (u0 u1 : xU) : xinP D a0 cs q0 q1 u0 u1 129 := ⟨_, rfl, fun _ h => h⟩
set_option maxRecDepth 100000 in
theorem xin_130 (D : va_G) (a0 : Nat → Nat) (cs : ClassId × ClassId × ClassId × ClassId) (q0 q1 : Nat) (u0 u1 : xU) : xinP D a0 cs q0 q1 u0 u1 130 := ⟨_, rfl, fun _ h => h⟩
set_option maxRecDepth 100000 in
theorem xin_131 (D : va_G) (a0 : Nat → Nat) (cs : ClassId × ClassId × ClassId × ClassId) (q0 q1 : Nat) (u0 u1 : xU) : xinP D a0 cs q0 q1 u0 u1 131 := ⟨_, rfl, fun _ h => h⟩
set_option maxRecDepth 100000 in
theorem xin_132 (D : va_G) (a0 : Nat → Nat) (cs : ClassId × ClassId × ClassId × ClassId) (q0 q1 : Nat) (u0 u1 : xU) : xinP D a0 cs q0 q1 u0 u1 132 := ⟨_, rfl, fun _ h => h⟩
set_option maxRecDepth 100000 in
theorem xin_133 (D : va_G) (a0 : Nat → Nat) (cs : ClassId × ClassId × ClassId × ClassId) (q0 q1 : Nat) (u0 u1 : xU) : xinP D a0 cs q0 q1 u0 u1 133 := ⟨_, rfl, fun _ h => h⟩
set_option maxRecDepth 100000 in
theorem xin_134 (D : va_G) (a0 : Nat → Nat) (cs : ClassId × ClassId × ClassId × ClassId) (q0 q1 : Nat) (u0 u1 : xU) : xinP D a0 cs q0 q1 u0 u1 134 := ⟨_, rfl, fun _ h => h⟩
set_option maxRecDepth 100000 in
theorem xin_135 (D : va_G) (a0 : Nat → Nat) (cs : ClassId × ClassId × ClassId × ClassId) (q0 q1 : Nat) (u0 u1 : xU) : xinP D a0 cs q0 q1 u0 u1 135 := ⟨_, rfl, fun _ h => h⟩
set_option maxRecDepth 100000 in
theorem xin_136 (D : va_G) (a0 : Nat → Nat) (cs : ClassId × ClassId × ClassId × ClassId) (q0 q1 : Nat) (u0 u1 : xU) : xinP D a0 cs q0 q1 u0 u1 136 := ⟨_, rfl, fun _ h => h⟩
set_option maxRecDepth 100000 in
theorem xin_137 (D : va_G) (a0 : Nat → Nat) (cs : ClassId × ClassId × ClassId × ClassId) (q0 q1 : Nat) (u0 u1 : xU) : xinP D a0 cs q0 q1 u0 u1 137 := ⟨_, rfl, fun _ h => h⟩
set_option maxRecDepth 100000 in
theorem xin_138 (D : va_G) (a0 : Nat → Nat) (cs : ClassId × ClassId × ClassId × ClassId) (q0 q1 : Nat) (u0 u1 : xU) : xinP D a0 cs q0 q1 u0 u1 138 := ⟨_, rfl, fun _ h => h⟩
set_option maxRecDepth 100000 in
theorem xin_139 (D : va_G) (a0 : Nat → Nat) (cs : ClassId × ClassId × ClassId × ClassId) (q0 q1 : Nat) (u0 u1 : xU) : xinP D a0 cs q0 q1 u0 u1 139 := ⟨_, rfl, fun _ h => h⟩
set_option maxRecDepth 100000 in
theorem xin_140 (D : va_G) (a0 : Nat → Nat) (cs : ClassId × ClassId × ClassId × ClassId) (q0 q1 : Nat) (u0 u1 : xU) : xinP D a0 cs q0 q1 u0 u1 140 := ⟨_, rfl, fun _ h => h⟩
set_option maxRecDepth 100000 in
theorem xin_141 (D : va_G) (a0 : Nat → Nat) (cs : ClassId × ClassId × ClassId × ClassId) (q0 q1 : Nat) (u0 u1 : xU) : xinP D a0 cs q0 q1 u0 u1 141 := ⟨_, rfl, fun _ h => h⟩
set_option maxRecDepth 100000 in
theorem xin_142 (D : va_G) (a0 : Nat → Nat) (cs : ClassId × ClassId × ClassId × ClassId) (q0 q1 : Nat) (u0 u1 : xU) : xinP D a0 cs q0 q1 u0 u1 142 := ⟨_, rfl, fun _ h => h⟩
set_option maxRecDepth 100000 in
theorem xin_143 (D : va_G) (a0 : Nat → Nat) (cs : ClassId × ClassId × ClassId × ClassId) (q0 q1 : Nat) (u0 u1 : xU) : xinP D a0 cs q0 q1 u0 u1 143 := ⟨_, rfl, fun _ h => h⟩
set_option maxRecDepth 100000 in
theorem xin_144 (D : va_G) (a0 : Nat → Nat) (cs : ClassId × ClassId × ClassId × ClassId) (q0 q1 : Nat) (u0 u1 : xU) : xinP D a0 cs q0 q1 u0 u1 144 := ⟨_, rfl, fun _ h => h⟩
set_option maxRecDepth 100000 in
theorem xin_145 (D : va_G) (a0 : Nat → Nat) (cs : ClassId × ClassId × ClassId × ClassId) (q0 q1 : Nat) (u0 u1 : xU) : xinP D a0 cs q0 q1 u0 u1 145 := ⟨_, rfl, fun _ h => h⟩
set_option maxRecDepth 100000 in
theorem xin_146 (D : va_G) (a0 : Nat → Nat) (cs : ClassId × ClassId × ClassId × ClassId) (q0 q1 : Nat) (u0 u1 : xU) : xinP D a0 cs q0 q1 u0 u1 146 := ⟨_, rfl, fun _ h => h⟩
set_option maxRecDepth 100000 in
theorem xin_147 (D : va_G) (a0 : Nat → Nat) (cs : ClassId × ClassId × ClassId × ClassId) (q0 q1 : Nat) (u0 u1 : xU) : xinP D a0 cs q0 q1 u0 u1 147 := ⟨_, rfl, fun _ h => h⟩
theorem xini (D : va_G) (a0 : Nat → Nat) (cs : ClassId × ClassId × ClassId × ClassId) (q0 q1 : Nat) (u0 u1 : xU) : ∀ k, k < 148 → ∃ e : va_E, ([] ++ cw_X10 (D, a0, cs) q0 u0 ++ cw_X11 (D, a0, cs) q1 u1)[xpl k]? = some (xad q0 q1 u0 u1 k, e) ∧ ∀ H, va_at D vwCl (xad q0 q1 u0 u1 k, e) H → va_at D vwCl (xad q0 q1 u0 u1 k, xE (D, xad q0 q1 u0 u1, cs) k (xS0 k)) H := by
  intro k hk
  rw [xflat]
  show xinP D a0 cs q0 q1 u0 u1 k
  match k, hk with
  | 0, _ => exact xin_0 D a0 cs q0 q1 u0 u1
  | 1, _ => exact xin_1 D a0 cs q0 q1 u0 u1
  | 2, _ => exact xin_2 D a0 cs q0 q1 u0 u1
  | 3, _ => exact xin_3 D a0 cs q0 q1 u0 u1
  | 4, _ => exact xin_4 D a0 cs q0 q1 u0 u1
  | 5, _ => exact xin_5 D a0 cs q0 q1 u0 u1
  | 6, _ => exact xin_6 D a0 cs q0 q1 u0 u1
  | 7, _ => exact xin_7 D a0 cs q0 q1 u0 u1
  | 8, _ => exact xin_8 D a0 cs q0 q1 u0 u1
  | 9, _ => exact xin_9 D a0 cs q0 q1 u0 u1
  | 10, _ => exact xin_10 D a0 cs q0 q1 u0 u1
  | 11, _ => exact xin_11 D a0 cs q0 q1 u0 u1
  | 12, _ => exact xin_12 D a0 cs q0 q1 u0 u1
  | 13, _ => exact xin_13 D a0 cs q0 q1 u0 u1
  | 14, _ => exact xin_14 D a0 cs q0 q1 u0 u1
  | 15, _ => exact xin_15 D a0 cs q0 q1 u0 u1
  | 16, _ => exact xin_16 D a0 cs q0 q1 u0 u1
  | 17, _ => exact xin_17 D a0 cs q0 q1 u0 u1
  | 18, _ => exact xin_18 D a0 cs q0 q1 u0 u1
  | 19, _ => exact xin_19 D a0 cs q0 q1 u0 u1
  | 20, _ => exact xin_20 D a0 cs q0 q1 u0 u1
  | 21, _ => exact xin_21 D a0 cs q0 q1 u0 u1
  | 22, _ => exact xin_22 D a0 cs q0 q1 u0 u1
  | 23, _ => exact xin_23 D a0 cs q0 q1 u0 u1
  | 24, _ => exact xin_24 D a0 cs q0 q1 u0 u1
  | 25, _ => exact xin_25 D a0 cs q0 q1 u0 u1
  | 26, _ => exact xin_26 D a0 cs q0 q1 u0 u1
  | 27, _ => exact xin_27 D a0 cs q0 q1 u0 u1
  | 28, _ => exact xin_28 D a0 cs q0 q1 u0 u1
  | 29, _ => exact xin_29 D a0 cs q0 q1 u0 u1
  | 30, _ => exact xin_30 D a0 cs q0 q1 u0 u1
  | 31, _ => exact xin_31 D a0 cs q0 q1 u0 u1
  | 32, _ => exact xin_32 D a0 cs q0 q1 u0 u1
  | 33, _ => exact xin_33 D a0 cs q0 q1 u0 u1
  | 34, _ => exact xin_34 D a0 cs q0 q1 u0 u1
  | 35, _ => exact xin_35 D a0 cs q0 q1 u0 u1
  | 36, _ => exact xin_36 D a0 cs q0 q1 u0 u1
  | 37, _ => exact xin_37 D a0 cs q0 q1 u0 u1
  | 38, _ => exact xin_38 D a0 cs q0 q1 u0 u1
  | 39, _ => exact xin_39 D a0 cs q0 q1 u0 u1
  | 40, _ => exact xin_40 D a0 cs q0 q1 u0 u1
  | 41, _ => exact xin_41 D a0 cs q0 q1 u0 u1
  | 42, _ => exact xin_42 D a0 cs q0 q1 u0 u1
  | 43, _ => exact xin_43 D a0 cs q0 q1 u0 u1
  | 44, _ => exact xin_44 D a0 cs q0 q1 u0 u1
  | 45, _ => exact xin_45 D a0 cs q0 q1 u0 u1
  | 46, _ => exact xin_46 D a0 cs q0 q1 u0 u1
  | 47, _ => exact xin_47 D a0 cs q0 q1 u0 u1
  | 48, _ => exact xin_48 D a0 cs q0 q1 u0 u1
  | 49, _ => exact xin_49 D a0 cs q0 q1 u0 u1
  | 50, _ => exact xin_50 D a0 cs q0 q1 u0 u1
  | 51, _ => exact xin_51 D a0 cs q0 q1 u0 u1
  | 52, _ => exact xin_52 D a0 cs q0 q1 u0 u1
  | 53, _ => exact xin_53 D a0 cs q0 q1 u0 u1
  | 54, _ => exact xin_54 D a0 cs q0 q1 u0 u1
  | 55, _ => exact xin_55 D a0 cs q0 q1 u0 u1
  | 56, _ => exact xin_56 D a0 cs q0 q1 u0 u1
  | 57, _ => exact xin_57 D a0 cs q0 q1 u0 u1
  | 58, _ => exact xin_58 D a0 cs q0 q1 u0 u1
  | 59, _ => exact xin_59 D a0 cs q0 q1 u0 u1
  | 60, _ => exact xin_60 D a0 cs q0 q1 u0 u1
  | 61, _ => exact xin_61 D a0 cs q0 q1 u0 u1
  | 62, _ => exact xin_62 D a0 cs q0 q1 u0 u1
  | 63, _ => exact xin_63 D a0 cs q0 q1 u0 u1
  | 64, _ => exact xin_64 D a0 cs q0 q1 u0 u1
  | 65, _ => exact xin_65 D a0 cs q0 q1 u0 u1
  | 66, _ => exact xin_66 D a0 cs q0 q1 u0 u1
  | 67, _ => exact xin_67 D a0 cs q0 q1 u0 u1
  | 68, _ => exact xin_68 D a0 cs q0 q1 u0 u1
  | 69, _ => exact xin_69 D a0 cs q0 q1 u0 u1
  | 70, _ => exact xin_70 D a0 cs q0 q1 u0 u1
  | 71, _ => exact xin_71 D a0 cs q0 q1 u0 u1
  | 72, _ => exact xin_72 D a0 cs q0 q1 u0 u1
  | 73, _ => exact xin_73 D a0 cs q0 q1 u0 u1
  | 74, _ => exact xin_74 D a0 cs q0 q1 u0 u1
  | 75, _ => exact xin_75 D a0 cs q0 q1 u0 u1
  | 76, _ => exact xin_76 D a0 cs q0 q1 u0 u1
  | 77, _ => exact xin_77 D a0 cs q0 q1 u0 u1
  | 78, _ => exact xin_78 D a0 cs q0 q1 u0 u1
  | 79, _ => exact xin_79 D a0 cs q0 q1 u0 u1
  | 80, _ => exact xin_80 D a0 cs q0 q1 u0 u1
  | 81, _ => exact xin_81 D a0 cs q0 q1 u0 u1
  | 82, _ => exact xin_82 D a0 cs q0 q1 u0 u1
  | 83, _ => exact xin_83 D a0 cs q0 q1 u0 u1
  | 84, _ => exact xin_84 D a0 cs q0 q1 u0 u1
  | 85, _ => exact xin_85 D a0 cs q0 q1 u0 u1
  | 86, _ => exact xin_86 D a0 cs q0 q1 u0 u1
  | 87, _ => exact xin_87 D a0 cs q0 q1 u0 u1
  | 88, _ => exact xin_88 D a0 cs q0 q1 u0 u1
  | 89, _ => exact xin_89 D a0 cs q0 q1 u0 u1
  | 90, _ => exact xin_90 D a0 cs q0 q1 u0 u1
  | 91, _ => exact xin_91 D a0 cs q0 q1 u0 u1
  | 92, _ => exact xin_92 D a0 cs q0 q1 u0 u1
  | 93, _ => exact xin_93 D a0 cs q0 q1 u0 u1
  | 94, _ => exact xin_94 D a0 cs q0 q1 u0 u1
  | 95, _ => exact xin_95 D a0 cs q0 q1 u0 u1
  | 96, _ => exact xin_96 D a0 cs q0 q1 u0 u1
  | 97, _ => exact xin_97 D a0 cs q0 q1 u0 u1
  | 98, _ => exact xin_98 D a0 cs q0 q1 u0 u1
  | 99, _ => exact xin_99 D a0 cs q0 q1 u0 u1
  | 100, _ => exact xin_100 D a0 cs q0 q1 u0 u1
  | 101, _ => exact xin_101 D a0 cs q0 q1 u0 u1
  | 102, _ => exact xin_102 D a0 cs q0 q1 u0 u1
  | 103, _ => exact xin_103 D a0 cs q0 q1 u0 u1
  | 104, _ => exact xin_104 D a0 cs q0 q1 u0 u1
  | 105, _ => exact xin_105 D a0 cs q0 q1 u0 u1
  | 106, _ => exact xin_106 D a0 cs q0 q1 u0 u1
  | 107, _ => exact xin_107 D a0 cs q0 q1 u0 u1
  | 108, _ => exact xin_108 D a0 cs q0 q1 u0 u1
  | 109, _ => exact xin_109 D a0 cs q0 q1 u0 u1
  | 110, _ => exact xin_110 D a0 cs q0 q1 u0 u1
  | 111, _ => exact xin_111 D a0 cs q0 q1 u0 u1
  | 112, _ => exact xin_112 D a0 cs q0 q1 u0 u1
  | 113, _ => exact xin_113 D a0 cs q0 q1 u0 u1
  | 114, _ => exact xin_114 D a0 cs q0 q1 u0 u1
  | 115, _ => exact xin_115 D a0 cs q0 q1 u0 u1
  | 116, _ => exact xin_116 D a0 cs q0 q1 u0 u1
  | 117, _ => exact xin_117 D a0 cs q0 q1 u0 u1
  | 118, _ => exact xin_118 D a0 cs q0 q1 u0 u1
  | 119, _ => exact xin_119 D a0 cs q0 q1 u0 u1
  | 120, _ => exact xin_120 D a0 cs q0 q1 u0 u1
  | 121, _ => exact xin_121 D a0 cs q0 q1 u0 u1
  | 122, _ => exact xin_122 D a0 cs q0 q1 u0 u1
  | 123, _ => exact xin_123 D a0 cs q0 q1 u0 u1
  | 124, _ => exact xin_124 D a0 cs q0 q1 u0 u1
  | 125, _ => exact xin_125 D a0 cs q0 q1 u0 u1
  | 126, _ => exact xin_126 D a0 cs q0 q1 u0 u1
  | 127, _ => exact xin_127 D a0 cs q0 q1 u0 u1
  | 128, _ => exact xin_128 D a0 cs q0 q1 u0 u1
  | 129, _ => exact xin_129 D a0 cs q0 q1 u0 u1
  | 130, _ => exact xin_130 D a0 cs q0 q1 u0 u1
  | 131, _ => exact xin_131 D a0 cs q0 q1 u0 u1
  | 132, _ => exact xin_132 D a0 cs q0 q1 u0 u1
  | 133, _ => exact xin_133 D a0 cs q0 q1 u0 u1
  | 134, _ => exact xin_134 D a0 cs q0 q1 u0 u1
  | 135, _ => exact xin_135 D a0 cs q0 q1 u0 u1
  | 136, _ => exact xin_136 D a0 cs q0 q1 u0 u1
  | 137, _ => exact xin_137 D a0 cs q0 q1 u0 u1
  | 138, _ => exact xin_138 D a0 cs q0 q1 u0 u1
  | 139, _ => exact xin_139 D a0 cs q0 q1 u0 u1
  | 140, _ => exact xin_140 D a0 cs q0 q1 u0 u1
  | 141, _ => exact xin_141 D a0 cs q0 q1 u0 u1
  | 142, _ => exact xin_142 D a0 cs q0 q1 u0 u1
  | 143, _ => exact xin_143 D a0 cs q0 q1 u0 u1
  | 144, _ => exact xin_144 D a0 cs q0 q1 u0 u1
  | 145, _ => exact xin_145 D a0 cs q0 q1 u0 u1
  | 146, _ => exact xin_146 D a0 cs q0 q1 u0 u1
  | 147, _ => exact xin_147 D a0 cs q0 q1 u0 u1
  | k + 148, hk => exact absurd hk (by omega)
