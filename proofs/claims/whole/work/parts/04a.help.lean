/-! ROWS OF OUR OWN: conditions, switches, calls and returns over the one world -/
theorem ip {α : Sort _} {c : Prop} [Decidable c] {a b x : α} (h : c) (k : a = x) : (if c then a else b) = x := (if_pos h).trans k
theorem iN {α : Sort _} {c : Prop} [Decidable c] {a b x : α} (h : ¬ c) (k : b = x) : (if c then a else b) = x := (if_neg h).trans k
theorem sp {c a b : Prop} (h : (c → a) ∧ (¬ c → b)) (k : c) : a := h.1 k
theorem sn {c a b : Prop} (h : (c → a) ∧ (¬ c → b)) (k : ¬ c) : b := h.2 k
theorem nl {a b : Prop} (h : a ∧ b) : a := h.1
theorem nr {a b : Prop} (h : a ∧ b) : b := h.2
theorem oe_s {α : Type} {β : Sort _} {o : Option α} {t : α} {A : β} {B : α → β} {x : β} (h : o = some t) (k : B t = x) : Option.elim o A B = x := by rw [h]; exact k
theorem oe_n {α : Type} {β : Sort _} {o : Option α} {A : β} {B : α → β} {x : β} (h : o = none) (k : A = x) : Option.elim o A B = x := by rw [h]; exact k
theorem sm_l {α β γ : Type} {f : α → γ} {g : β → γ} {z : α ⊕ β} {r : α} {x : γ} (h : z = .inl r) (k : f r = x) : Sum.elim f g z = x := by rw [h]; exact k
theorem sm_r {α β γ : Type} {f : α → γ} {g : β → γ} {z : α ⊕ β} {r : β} {x : γ} (h : z = .inr r) (k : g r = x) : Sum.elim f g z = x := by rw [h]; exact k
theorem ne_toInt {x v : Int32} {n : Int} (hv : v.toInt = n) (h : ¬ x = v) : x.toInt ≠ n := fun e => h (Int32.toInt_inj.mp (e.trans hv.symm))
theorem nz_of {y : Int32} (h : ¬ y ≤ 0) : ¬ y = 0 := fun e => h (by rw [e]; decide)
theorem vp_of {n : Nat} {i : Int32} (hn : n < 2147483648) (h1 : ¬ i < 0) (h2 : ¬ nI n ≤ i) : vp_in i n := by
  rw [vp_in_iff]
  rw [Int32.lt_iff_toInt_lt] at h1
  rw [Int32.le_iff_toInt_le, nI_toInt hn] at h2
  have h0 : (0 : Int32).toInt = 0 := rfl
  omega
theorem sw_out3 {x : Int32} (h0 : ¬ x = 0) (h1 : ¬ x = 1) (h2 : ¬ x = 2) : x.toInt < 0 ∨ 2 < x.toInt := by
  have a0 := ne_toInt (n := 0) rfl h0; have a1 := ne_toInt (n := 1) rfl h1; have a2 := ne_toInt (n := 2) rfl h2
  omega
theorem sw_out5 {x : Int32} (h0 : ¬ x = 0) (h1 : ¬ x = 1) (h2 : ¬ x = 2) (h3 : ¬ x = 3) (h4 : ¬ x = 4) : x.toInt < 0 ∨ 4 < x.toInt := by
  have a0 := ne_toInt (n := 0) rfl h0; have a1 := ne_toInt (n := 1) rfl h1; have a2 := ne_toInt (n := 2) rfl h2; have a3 := ne_toInt (n := 3) rfl h3; have a4 := ne_toInt (n := 4) rfl h4
  omega
theorem sw_out14 {x : Int32} (h0 : ¬ x = 0) (h1 : ¬ x = 1) (h2 : ¬ x = 2) (h3 : ¬ x = 3) (h4 : ¬ x = 4) (h5 : ¬ x = 5) (h6 : ¬ x = 6) (h7 : ¬ x = 7) (h8 : ¬ x = 8) (h9 : ¬ x = 9) (h10 : ¬ x = 10) (h11 : ¬ x = 11) (h12 : ¬ x = 12) (h13 : ¬ x = 13) : x.toInt < 0 ∨ 13 < x.toInt := by
  have a0 := ne_toInt (n := 0) rfl h0; have a1 := ne_toInt (n := 1) rfl h1; have a2 := ne_toInt (n := 2) rfl h2; have a3 := ne_toInt (n := 3) rfl h3; have a4 := ne_toInt (n := 4) rfl h4
  have a5 := ne_toInt (n := 5) rfl h5; have a6 := ne_toInt (n := 6) rfl h6; have a7 := ne_toInt (n := 7) rfl h7; have a8 := ne_toInt (n := 8) rfl h8; have a9 := ne_toInt (n := 9) rfl h9
  have a10 := ne_toInt (n := 10) rfl h10; have a11 := ne_toInt (n := 11) rfl h11; have a12 := ne_toInt (n := 12) rfl h12; have a13 := ne_toInt (n := 13) rfl h13
  omega
theorem sw_lk2 {k a0 a1 o0 o1 df : Int} (h0 : k ≠ a0) (h1 : k ≠ a1) : lookupswitch.offset [(a0, o0), (a1, o1)] df k = df := by
  rw [lookupswitch.offset_cons, if_neg (fun e => h0 e.symm), lookupswitch.offset_cons, if_neg (fun e => h1 e.symm)]; rfl
theorem sw_lk4 {k a0 a1 a2 a3 o0 o1 o2 o3 df : Int} (h0 : k ≠ a0) (h1 : k ≠ a1) (h2 : k ≠ a2) (h3 : k ≠ a3) : lookupswitch.offset [(a0, o0), (a1, o1), (a2, o2), (a3, o3)] df k = df := by
  rw [lookupswitch.offset_cons, if_neg (fun e => h0 e.symm), lookupswitch.offset_cons, if_neg (fun e => h1 e.symm), lookupswitch.offset_cons, if_neg (fun e => h2 e.symm), lookupswitch.offset_cons, if_neg (fun e => h3 e.symm)]; rfl
