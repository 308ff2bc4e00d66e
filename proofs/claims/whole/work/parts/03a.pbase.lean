/-! THE STATE: one static world of 148 cells; S k j: the number at place j of cell k (an int field by its slot, or an array's element) -/
def isT (k : Nat) : Bool := decide (32 ≤ k) && decide (k < 127) && decide ((k - 32) % 5 = 0)
def isH (k : Nat) : Bool := k == 3 || k == 9
def isM (k : Nat) : Bool := k == 30 || k == 31
def isI (k : Nat) : Bool := (decide (32 ≤ k) && decide (k < 127) && !decide ((k - 32) % 5 = 0)) || (decide (4 ≤ k) && decide (k ≤ 8)) || (decide (10 ≤ k) && decide (k ≤ 14)) || k == 2 || k == 17 || k == 18 || k == 20 || k == 21 || k == 22 || k == 24 || k == 25 || (decide (128 ≤ k) && decide (k < 147))
/-- how long the int arrays are -/
def xlen (k : Nat) : Nat :=
  if 32 ≤ k ∧ k < 127 then (if (k - 32) % 5 = 4 then 49 else 7)
  else if k = 2 then 240
  else if k = 4 ∨ k = 5 ∨ k = 10 ∨ k = 11 ∨ k = 17 ∨ k = 18 ∨ k = 20 ∨ k = 21 ∨ k = 22 then 6
  else if k = 6 ∨ k = 7 ∨ k = 12 ∨ k = 13 then 7
  else if k = 8 ∨ k = 14 then 49
  else if k = 24 ∨ k = 25 then 15
  else if k = 128 ∨ k = 129 ∨ k = 133 ∨ k = 134 ∨ k = 135 ∨ k = 139 ∨ k = 140 then 6
  else if k = 130 ∨ k = 141 ∨ k = 142 then 7
  else if k = 131 ∨ k = 132 then 72
  else if k = 136 ∨ k = 137 then 15
  else if k = 138 then 240
  else if k = 143 then 49
  else if k = 144 then 1152
  else if k = 145 then 54
  else 146
abbrev xS : Type := Nat → Nat → Int32
def xu (S : xS) (k j : Nat) (v : Int32) : xS := fun a => if a = k then upd (S k) j v else S a
def xr (S : xS) (k : Nat) (f : Nat → Int32) : xS := fun a => if a = k then f else S a
theorem ite_lt {c : Prop} [Decidable c] {a b n : Nat} (h1 : a < n) (h2 : b < n) : (if c then a else b) < n := by
  by_cases h : c
  · rw [if_pos h]; exact h1
  · rw [if_neg h]; exact h2
theorem xlen_lt (k : Nat) : xlen k < 2147483648 := by
  unfold xlen
  repeat' refine ite_lt ?_ ?_
  all_goals decide
def fu (x y : Int32) : Nat := (y.toInt - x.toInt).toNat + 2
def fd (x : Int32) : Nat := x.toInt.toNat + 2
def fuel_X11_hill_91 : Nat := 300
def fuel_X9_bestLeavers_12 : Nat := 200
def fuel_X9_cover_15 : Nat := 100
