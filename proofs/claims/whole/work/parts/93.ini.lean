/-- the state behind the two constructors -/
def xS0 : xS := fun k => if k = 1 then (fun j => if j = 4 then -1 else 0) else if k = 127 then (fun j => if j = 20 then -1 else 0) else (fun _ => 0)
def xpl (k : Nat) : Nat := ([0, 1, 2, 3, 4, 5, 6, 7, 8, 9, 10, 11, 12, 13, 14, 20, 21, 22, 23, 106, 107, 108, 109, 110, 111, 112, 113, 24, 25, 114, 115, 121, 15, 16, 17, 18, 19, 26, 27, 28, 29, 30, 31, 32, 33, 34, 35, 36, 37, 38, 39, 40, 41, 42, 43, 44, 45, 46, 47, 48, 49, 50, 51, 52, 53, 54, 55, 56, 57, 58, 59, 60, 61, 62, 63, 64, 65, 66, 67, 68, 69, 70, 71, 72, 73, 74, 75, 76, 77, 78, 79, 80, 81, 82, 83, 84, 85, 86, 87, 88, 89, 90, 91, 92, 93, 94, 95, 96, 97, 98, 99, 100, 101, 102, 103, 104, 105, 116, 117, 118, 119, 120, 122, 123, 124, 125, 126, 127, 128, 129, 130, 131, 132, 133, 134, 135, 136, 137, 138, 139, 140, 141, 142, 143, 144, 145, 146, 147] : List Nat).getD k 0
theorem xpl_inj : ∀ i, i < 148 → ∀ j, j < 148 → xpl i = xpl j → i = j := by decide +kernel
def xad (q0 q1 : Nat) (u0 u1 : xU) (k : Nat) : Nat := ([q0, (u0 [0, 0]), (u0 [1, 0, 0]), (u0 [1, 0, 1]), (u0 [1, 1, 0, 0]), (u0 [1, 1, 0, 1]), (u0 [1, 1, 0, 2]), (u0 [1, 1, 0, 3]), (u0 [1, 1, 0, 4]), (u0 [0, 1]), (u0 [2, 0, 0]), (u0 [2, 0, 1]), (u0 [2, 0, 2]), (u0 [2, 0, 3]), (u0 [2, 0, 4]), (u0 [0, 3]), (u0 [0, 4]), (u0 [5, 0, 0]), (u0 [5, 0, 1]), (u0 [0, 6]), (u0 [7, 0, 0]), (u0 [7, 0, 1]), (u0 [7, 0, 2]), (u0 [0, 7]), (u0 [8, 0, 0]), (u0 [8, 0, 1]), (u0 [0, 8]), (u0 [0, 5]), (u0 [6, 0, 0]), (u0 [0, 9]), (u0 [0, 10]), (u0 [0, 11]), (u0 [0, 2]), (u0 [3, 0, 0]), (u0 [3, 0, 1]), (u0 [3, 0, 2]), (u0 [3, 0, 3]), (u0 [6, 0, 1]), (u0 [6, 1, 0, 0]), (u0 [6, 1, 0, 1]), (u0 [6, 1, 0, 2]), (u0 [6, 1, 0, 3]), (u0 [6, 0, 2]), (u0 [6, 2, 0, 0]), (u0 [6, 2, 0, 1]), (u0 [6, 2, 0, 2]), (u0 [6, 2, 0, 3]), (u0 [6, 0, 3]), (u0 [6, 3, 0, 0]), (u0 [6, 3, 0, 1]), (u0 [6, 3, 0, 2]), (u0 [6, 3, 0, 3]), (u0 [6, 0, 4]), (u0 [6, 4, 0, 0]), (u0 [6, 4, 0, 1]), (u0 [6, 4, 0, 2]), (u0 [6, 4, 0, 3]), (u0 [6, 0, 5]), (u0 [6, 5, 0, 0]), (u0 [6, 5, 0, 1]), (u0 [6, 5, 0, 2]), (u0 [6, 5, 0, 3]), (u0 [6, 0, 6]), (u0 [6, 6, 0, 0]), (u0 [6, 6, 0, 1]), (u0 [6, 6, 0, 2]), (u0 [6, 6, 0, 3]), (u0 [6, 0, 7]), (u0 [6, 7, 0, 0]), (u0 [6, 7, 0, 1]), (u0 [6, 7, 0, 2]), (u0 [6, 7, 0, 3]), (u0 [6, 0, 8]), (u0 [6, 8, 0, 0]), (u0 [6, 8, 0, 1]), (u0 [6, 8, 0, 2]), (u0 [6, 8, 0, 3]), (u0 [6, 0, 9]), (u0 [6, 9, 0, 0]), (u0 [6, 9, 0, 1]), (u0 [6, 9, 0, 2]), (u0 [6, 9, 0, 3]), (u0 [6, 0, 10]), (u0 [6, 10, 0, 0]), (u0 [6, 10, 0, 1]), (u0 [6, 10, 0, 2]), (u0 [6, 10, 0, 3]), (u0 [6, 0, 11]), (u0 [6, 11, 0, 0]), (u0 [6, 11, 0, 1]), (u0 [6, 11, 0, 2]), (u0 [6, 11, 0, 3]), (u0 [6, 0, 12]), (u0 [6, 12, 0, 0]), (u0 [6, 12, 0, 1]), (u0 [6, 12, 0, 2]), (u0 [6, 12, 0, 3]), (u0 [6, 0, 13]), (u0 [6, 13, 0, 0]), (u0 [6, 13, 0, 1]), (u0 [6, 13, 0, 2]), (u0 [6, 13, 0, 3]), (u0 [6, 0, 14]), (u0 [6, 14, 0, 0]), (u0 [6, 14, 0, 1]), (u0 [6, 14, 0, 2]), (u0 [6, 14, 0, 3]), (u0 [6, 0, 15]), (u0 [6, 15, 0, 0]), (u0 [6, 15, 0, 1]), (u0 [6, 15, 0, 2]), (u0 [6, 15, 0, 3]), (u0 [6, 0, 16]), (u0 [6, 16, 0, 0]), (u0 [6, 16, 0, 1]), (u0 [6, 16, 0, 2]), (u0 [6, 16, 0, 3]), (u0 [10, 0, 0]), (u0 [10, 1, 0, 0]), (u0 [10, 1, 0, 1]), (u0 [10, 1, 0, 2]), (u0 [10, 1, 0, 3]), (u0 [11, 0, 0]), (u0 [11, 1, 0, 0]), (u0 [11, 1, 0, 1]), (u0 [11, 1, 0, 2]), (u0 [11, 1, 0, 3]), q1, (u1 [0, 0]), (u1 [0, 1]), (u1 [0, 2]), (u1 [0, 3]), (u1 [0, 4]), (u1 [0, 5]), (u1 [0, 6]), (u1 [0, 7]), (u1 [0, 8]), (u1 [0, 9]), (u1 [0, 10]), (u1 [0, 11]), (u1 [0, 12]), (u1 [0, 13]), (u1 [0, 14]), (u1 [0, 15]), (u1 [0, 16]), (u1 [0, 17]), (u1 [0, 18]), (u1 [0, 19])] : List Nat).getD k 0
theorem xNL_in : ∀ q ∈ xNL, Cond.methodLinkNest q.1 q.2.1 q.2.2.1 q.2.2.2 ∈ lw_tbl := by decide +kernel
theorem xNLC_in : ∀ q ∈ xNLC, Cond.methodLinkNest q.1 q.2.1 q.2.2.1 q.2.2.2 ∈ lw_tbl := by decide +kernel
theorem ao_T_in : Cond.arrayOver (.object "AbsentPraise$Talk") ∈ lw_tbl := by decide +kernel
theorem ao_M_in : Cond.arrayOver (.object "AbsentPraise$Image") ∈ lw_tbl := by decide +kernel
theorem ac_I_in : Cond.arrayClass .int ∈ lw_tbl := by decide +kernel
theorem ac_Z_in : Cond.arrayClass .boolean ∈ lw_tbl := by decide +kernel
theorem cell_cg (cA : ClassId) (n : Nat) (f g : Nat → Option Nat) (h : ∀ j, j < n → f j = g j) : vp_cell cA (n, .inr (.inr (.inr (.inr f)))) = vp_cell cA (n, .inr (.inr (.inr (.inr g)))) := by
  have e : (fun j : Fin n => va_rf (f j.val)) = (fun j : Fin n => va_rf (g j.val)) := funext fun j => by rw [h j.val j.isLt]
  rw [vp_cell_q, vp_cell_q]
  unfold arrV
  exact congrArg (fun z : Fin n → Value => ({ cls := cA, slots := Array.ofFn z, vm := .none } : Cell)) e
set_option maxHeartbeats 8000000 in
set_option maxRecDepth 100000 in
theorem xini (D : va_G) (a0 : Nat → Nat) (cs : ClassId × ClassId × ClassId × ClassId) (q0 q1 : Nat) (u0 u1 : xU) : ∀ k, k < 148 → ∃ e : va_E, ([] ++ cw_X10 (D, a0, cs) q0 u0 ++ cw_X11 (D, a0, cs) q1 u1)[xpl k]? = some (xad q0 q1 u0 u1 k, e) ∧ ∀ H, va_at D vwCl (xad q0 q1 u0 u1 k, e) H → va_at D vwCl (xad q0 q1 u0 u1 k, xE (D, xad q0 q1 u0 u1, cs) k (xS0 k)) H := by
  intro k hk
  match k, hk with
  | 0, _ => exact ⟨_, rfl, fun _ h => h⟩
  | 1, _ => exact ⟨_, rfl, fun _ h => h⟩
  | 2, _ => exact ⟨_, rfl, fun _ h => h⟩
  | 3, _ => exact ⟨_, rfl, fun _ h => h⟩
  | 4, _ => exact ⟨_, rfl, fun _ h => h⟩
  | 5, _ => exact ⟨_, rfl, fun _ h => h⟩
  | 6, _ => exact ⟨_, rfl, fun _ h => h⟩
  | 7, _ => exact ⟨_, rfl, fun _ h => h⟩
  | 8, _ => exact ⟨_, rfl, fun _ h => h⟩
  | 9, _ => exact ⟨_, rfl, fun _ h => h⟩
  | 10, _ => exact ⟨_, rfl, fun _ h => h⟩
  | 11, _ => exact ⟨_, rfl, fun _ h => h⟩
  | 12, _ => exact ⟨_, rfl, fun _ h => h⟩
  | 13, _ => exact ⟨_, rfl, fun _ h => h⟩
  | 14, _ => exact ⟨_, rfl, fun _ h => h⟩
  | 15, _ => exact ⟨_, rfl, fun _ h => h⟩
  | 16, _ => exact ⟨_, rfl, fun _ h => h⟩
  | 17, _ => exact ⟨_, rfl, fun _ h => h⟩
  | 18, _ => exact ⟨_, rfl, fun _ h => h⟩
  | 19, _ => exact ⟨_, rfl, fun _ h => h⟩
  | 20, _ => exact ⟨_, rfl, fun _ h => h⟩
  | 21, _ => exact ⟨_, rfl, fun _ h => h⟩
  | 22, _ => exact ⟨_, rfl, fun _ h => h⟩
  | 23, _ => exact ⟨_, rfl, fun _ h => h⟩
  | 24, _ => exact ⟨_, rfl, fun _ h => h⟩
  | 25, _ => exact ⟨_, rfl, fun _ h => h⟩
  | 26, _ => exact ⟨_, rfl, fun _ h => h⟩
  | 27, _ => exact ⟨_, rfl, fun _ h => h⟩
  | 28, _ => exact ⟨_, rfl, fun H h => h.trans (congrArg some (cell_cg _ _ _ _ (fun j hj => by match j, hj with | 0, _ => rfl | 1, _ => rfl | 2, _ => rfl | 3, _ => rfl | 4, _ => rfl | 5, _ => rfl | 6, _ => rfl | 7, _ => rfl | 8, _ => rfl | 9, _ => rfl | 10, _ => rfl | 11, _ => rfl | 12, _ => rfl | 13, _ => rfl | 14, _ => rfl | 15, _ => rfl | j + 16, hj => exact absurd hj (by omega))))⟩
  | 29, _ => exact ⟨_, rfl, fun H h => h.trans (congrArg some (cell_cg _ _ _ _ (fun j hj => by match j, hj with | 0, _ => rfl | 1, _ => rfl | j + 2, hj => exact absurd hj (by omega))))⟩
  | 30, _ => exact ⟨_, rfl, fun _ h => h⟩
  | 31, _ => exact ⟨_, rfl, fun _ h => h⟩
  | 32, _ => exact ⟨_, rfl, fun _ h => h⟩
  | 33, _ => exact ⟨_, rfl, fun _ h => h⟩
  | 34, _ => exact ⟨_, rfl, fun _ h => h⟩
  | 35, _ => exact ⟨_, rfl, fun _ h => h⟩
  | 36, _ => exact ⟨_, rfl, fun _ h => h⟩
  | 37, _ => exact ⟨_, rfl, fun _ h => h⟩
  | 38, _ => exact ⟨_, rfl, fun _ h => h⟩
  | 39, _ => exact ⟨_, rfl, fun _ h => h⟩
  | 40, _ => exact ⟨_, rfl, fun _ h => h⟩
  | 41, _ => exact ⟨_, rfl, fun _ h => h⟩
  | 42, _ => exact ⟨_, rfl, fun _ h => h⟩
  | 43, _ => exact ⟨_, rfl, fun _ h => h⟩
  | 44, _ => exact ⟨_, rfl, fun _ h => h⟩
  | 45, _ => exact ⟨_, rfl, fun _ h => h⟩
  | 46, _ => exact ⟨_, rfl, fun _ h => h⟩
  | 47, _ => exact ⟨_, rfl, fun _ h => h⟩
  | 48, _ => exact ⟨_, rfl, fun _ h => h⟩
  | 49, _ => exact ⟨_, rfl, fun _ h => h⟩
  | 50, _ => exact ⟨_, rfl, fun _ h => h⟩
  | 51, _ => exact ⟨_, rfl, fun _ h => h⟩
  | 52, _ => exact ⟨_, rfl, fun _ h => h⟩
  | 53, _ => exact ⟨_, rfl, fun _ h => h⟩
  | 54, _ => exact ⟨_, rfl, fun _ h => h⟩
  | 55, _ => exact ⟨_, rfl, fun _ h => h⟩
  | 56, _ => exact ⟨_, rfl, fun _ h => h⟩
  | 57, _ => exact ⟨_, rfl, fun _ h => h⟩
  | 58, _ => exact ⟨_, rfl, fun _ h => h⟩
  | 59, _ => exact ⟨_, rfl, fun _ h => h⟩
  | 60, _ => exact ⟨_, rfl, fun _ h => h⟩
  | 61, _ => exact ⟨_, rfl, fun _ h => h⟩
  | 62, _ => exact ⟨_, rfl, fun _ h => h⟩
  | 63, _ => exact ⟨_, rfl, fun _ h => h⟩
  | 64, _ => exact ⟨_, rfl, fun _ h => h⟩
  | 65, _ => exact ⟨_, rfl, fun _ h => h⟩
  | 66, _ => exact ⟨_, rfl, fun _ h => h⟩
  | 67, _ => exact ⟨_, rfl, fun _ h => h⟩
  | 68, _ => exact ⟨_, rfl, fun _ h => h⟩
  | 69, _ => exact ⟨_, rfl, fun _ h => h⟩
  | 70, _ => exact ⟨_, rfl, fun _ h => h⟩
  | 71, _ => exact ⟨_, rfl, fun _ h => h⟩
  | 72, _ => exact ⟨_, rfl, fun _ h => h⟩
  | 73, _ => exact ⟨_, rfl, fun _ h => h⟩
  | 74, _ => exact ⟨_, rfl, fun _ h => h⟩
  | 75, _ => exact ⟨_, rfl, fun _ h => h⟩
  | 76, _ => exact ⟨_, rfl, fun _ h => h⟩
  | 77, _ => exact ⟨_, rfl, fun _ h => h⟩
  | 78, _ => exact ⟨_, rfl, fun _ h => h⟩
  | 79, _ => exact ⟨_, rfl, fun _ h => h⟩
  | 80, _ => exact ⟨_, rfl, fun _ h => h⟩
  | 81, _ => exact ⟨_, rfl, fun _ h => h⟩
  | 82, _ => exact ⟨_, rfl, fun _ h => h⟩
  | 83, _ => exact ⟨_, rfl, fun _ h => h⟩
  | 84, _ => exact ⟨_, rfl, fun _ h => h⟩
  | 85, _ => exact ⟨_, rfl, fun _ h => h⟩
  | 86, _ => exact ⟨_, rfl, fun _ h => h⟩
  | 87, _ => exact ⟨_, rfl, fun _ h => h⟩
  | 88, _ => exact ⟨_, rfl, fun _ h => h⟩
  | 89, _ => exact ⟨_, rfl, fun _ h => h⟩
  | 90, _ => exact ⟨_, rfl, fun _ h => h⟩
  | 91, _ => exact ⟨_, rfl, fun _ h => h⟩
  | 92, _ => exact ⟨_, rfl, fun _ h => h⟩
  | 93, _ => exact ⟨_, rfl, fun _ h => h⟩
  | 94, _ => exact ⟨_, rfl, fun _ h => h⟩
  | 95, _ => exact ⟨_, rfl, fun _ h => h⟩
  | 96, _ => exact ⟨_, rfl, fun _ h => h⟩
  | 97, _ => exact ⟨_, rfl, fun _ h => h⟩
  | 98, _ => exact ⟨_, rfl, fun _ h => h⟩
  | 99, _ => exact ⟨_, rfl, fun _ h => h⟩
  | 100, _ => exact ⟨_, rfl, fun _ h => h⟩
  | 101, _ => exact ⟨_, rfl, fun _ h => h⟩
  | 102, _ => exact ⟨_, rfl, fun _ h => h⟩
  | 103, _ => exact ⟨_, rfl, fun _ h => h⟩
  | 104, _ => exact ⟨_, rfl, fun _ h => h⟩
  | 105, _ => exact ⟨_, rfl, fun _ h => h⟩
  | 106, _ => exact ⟨_, rfl, fun _ h => h⟩
  | 107, _ => exact ⟨_, rfl, fun _ h => h⟩
  | 108, _ => exact ⟨_, rfl, fun _ h => h⟩
  | 109, _ => exact ⟨_, rfl, fun _ h => h⟩
  | 110, _ => exact ⟨_, rfl, fun _ h => h⟩
  | 111, _ => exact ⟨_, rfl, fun _ h => h⟩
  | 112, _ => exact ⟨_, rfl, fun _ h => h⟩
  | 113, _ => exact ⟨_, rfl, fun _ h => h⟩
  | 114, _ => exact ⟨_, rfl, fun _ h => h⟩
  | 115, _ => exact ⟨_, rfl, fun _ h => h⟩
  | 116, _ => exact ⟨_, rfl, fun _ h => h⟩
  | 117, _ => exact ⟨_, rfl, fun _ h => h⟩
  | 118, _ => exact ⟨_, rfl, fun _ h => h⟩
  | 119, _ => exact ⟨_, rfl, fun _ h => h⟩
  | 120, _ => exact ⟨_, rfl, fun _ h => h⟩
  | 121, _ => exact ⟨_, rfl, fun _ h => h⟩
  | 122, _ => exact ⟨_, rfl, fun _ h => h⟩
  | 123, _ => exact ⟨_, rfl, fun _ h => h⟩
  | 124, _ => exact ⟨_, rfl, fun _ h => h⟩
  | 125, _ => exact ⟨_, rfl, fun _ h => h⟩
  | 126, _ => exact ⟨_, rfl, fun _ h => h⟩
  | 127, _ => exact ⟨_, rfl, fun _ h => h⟩
  | 128, _ => exact ⟨_, rfl, fun _ h => h⟩
  | 129, _ => exact ⟨_, rfl, fun _ h => h⟩
  | 130, _ => exact ⟨_, rfl, fun _ h => h⟩
  | 131, _ => exact ⟨_, rfl, fun _ h => h⟩
  | 132, _ => exact ⟨_, rfl, fun _ h => h⟩
  | 133, _ => exact ⟨_, rfl, fun _ h => h⟩
  | 134, _ => exact ⟨_, rfl, fun _ h => h⟩
  | 135, _ => exact ⟨_, rfl, fun _ h => h⟩
  | 136, _ => exact ⟨_, rfl, fun _ h => h⟩
  | 137, _ => exact ⟨_, rfl, fun _ h => h⟩
  | 138, _ => exact ⟨_, rfl, fun _ h => h⟩
  | 139, _ => exact ⟨_, rfl, fun _ h => h⟩
  | 140, _ => exact ⟨_, rfl, fun _ h => h⟩
  | 141, _ => exact ⟨_, rfl, fun _ h => h⟩
  | 142, _ => exact ⟨_, rfl, fun _ h => h⟩
  | 143, _ => exact ⟨_, rfl, fun _ h => h⟩
  | 144, _ => exact ⟨_, rfl, fun _ h => h⟩
  | 145, _ => exact ⟨_, rfl, fun _ h => h⟩
  | 146, _ => exact ⟨_, rfl, fun _ h => h⟩
  | 147, _ => exact ⟨_, rfl, fun _ h => h⟩
  | k + 148, hk => exact absurd hk (by omega)
