theorem hs_X10_put : yX10_put.cls ≠ "java/lang/invoke/MethodHandle" ∧ yX10_put.cls ≠ "java/lang/invoke/VarHandle" ∧ (parseMethodDescriptor yX10_put.desc).map (fun d => d.parameters.length) = some 3 := by decide +kernel
set_option maxHeartbeats 4000000 in
set_option maxRecDepth 100000 in
theorem k_X10_put (l : Launch) (X : xX) (S : xS) (k0 : Nat) (p1 : Int32) (p2 : Int32) (hk0 : isI k0 = true) : Met l yX10_put wsX10_put ({ frames := 0, cells := 0, slots := 0, locals := 0 } : Room) (va_Pc [.ref (X.2.1 k0), .int p1, .int p2] (xI X S)) (va_Qv (fun u : xS => u = (f_X10_put S k0 p1 p2)) (xI X) (xA X)) 0 0 (xA X) := sorry
theorem hd_X0_add : yX0_add.cls = RX0 ∧ yX0_add.cls ≠ "java/lang/invoke/MethodHandle" ∧ yX0_add.cls ≠ "java/lang/invoke/VarHandle" ∧ (parseMethodDescriptor yX0_add.desc).map (fun d => d.parameters.length) = some 2 := by decide +kernel
set_option maxHeartbeats 4000000 in
set_option maxRecDepth 100000 in
theorem k_X0_add (l : Launch) (X : xX) (S : xS) (p0 : Int32) (p1 : Int32) : Met l yX0_add wsX0_add ({ frames := 1, cells := 0, slots := 0, locals := 22 } : Room) (va_Pc [.ref (X.2.1 23), .int p0, .int p1] (xI X S)) (va_Qi (fun (r : Int32) (u : xS) => r = (f_X0_add S p0 p1).1 ∧ u = (f_X0_add S p0 p1).2) (xI X) (xA X)) 0 0 (xA X) := sorry
theorem hs_X10_at : yX10_at.cls ≠ "java/lang/invoke/MethodHandle" ∧ yX10_at.cls ≠ "java/lang/invoke/VarHandle" ∧ (parseMethodDescriptor yX10_at.desc).map (fun d => d.parameters.length) = some 2 := by decide +kernel
set_option maxHeartbeats 4000000 in
set_option maxRecDepth 100000 in
theorem k_X10_at (l : Launch) (X : xX) (S : xS) (k0 : Nat) (p1 : Int32) (hk0 : isI k0 = true) : Met l yX10_at wsX10_at ({ frames := 0, cells := 0, slots := 0, locals := 0 } : Room) (va_Pc [.ref (X.2.1 k0), .int p1] (xI X S)) (va_Qi (fun (r : Int32) (u : xS) => r = (f_X10_at S k0 p1) ∧ u = S) (xI X) (xA X)) 0 0 (xA X) := sorry
theorem hd_X0_firstWrong : yX0_firstWrong.cls = RX0 ∧ yX0_firstWrong.cls ≠ "java/lang/invoke/MethodHandle" ∧ yX0_firstWrong.cls ≠ "java/lang/invoke/VarHandle" ∧ (parseMethodDescriptor yX0_firstWrong.desc).map (fun d => d.parameters.length) = some 1 := by decide +kernel
set_option maxHeartbeats 4000000 in
set_option maxRecDepth 100000 in
theorem k_X0_firstWrong (l : Launch) (X : xX) (S : xS) (k0 : Nat) (hk0 : isT k0 = true) (hs : s_X0_firstWrong S k0) : Met l yX0_firstWrong wsX0_firstWrong ({ frames := 1, cells := 0, slots := 0, locals := 21 } : Room) (va_Pc [.ref (X.2.1 23), .ref (X.2.1 k0)] (xI X S)) (va_Qi (fun (r : Int32) (u : xS) => r = (f_X0_firstWrong S k0) ∧ u = S) (xI X) (xA X)) 0 0 (xA X) := sorry
theorem hd_X1_next : yX1_next.cls = RX1 ∧ yX1_next.cls ≠ "java/lang/invoke/MethodHandle" ∧ yX1_next.cls ≠ "java/lang/invoke/VarHandle" ∧ (parseMethodDescriptor yX1_next.desc).map (fun d => d.parameters.length) = some 1 := by decide +kernel
set_option maxHeartbeats 4000000 in
set_option maxRecDepth 100000 in
theorem k_X1_next (l : Launch) (X : xX) (S : xS) (p0 : Int32) : Met l yX1_next wsX1_next ({ frames := 0, cells := 0, slots := 0, locals := 0 } : Room) (va_Pc [.ref (X.2.1 26), .int p0] (xI X S)) (va_Qi (fun (r : Int32) (u : xS) => r = (f_X1_next S p0).1 ∧ u = (f_X1_next S p0).2) (xI X) (xA X)) 0 0 (xA X) := sorry
theorem hs_J7_fill_53178 : yJ7_fill_53178.cls ≠ "java/lang/invoke/MethodHandle" ∧ yJ7_fill_53178.cls ≠ "java/lang/invoke/VarHandle" ∧ (parseMethodDescriptor yJ7_fill_53178.desc).map (fun d => d.parameters.length) = some 2 := by decide +kernel
set_option maxHeartbeats 4000000 in
set_option maxRecDepth 100000 in
theorem k_J7_fill_53178 (l : Launch) (X : xX) (S : xS) (k0 : Nat) (p1 : Int32) (hk0 : isI k0 = true) (hs : s_J7_fill_53178 S k0 p1) : Met l yJ7_fill_53178 wsJ7_fill_53178 ({ frames := 0, cells := 0, slots := 0, locals := 0 } : Room) (va_Pc [.ref (X.2.1 k0), .int p1] (xI X S)) (va_Qv (fun u : xS => u = (f_J7_fill_53178 S k0 p1)) (xI X) (xA X)) 0 0 (xA X) := sorry
theorem hd_X2_clear : yX2_clear.cls = RX2 ∧ yX2_clear.cls ≠ "java/lang/invoke/MethodHandle" ∧ yX2_clear.cls ≠ "java/lang/invoke/VarHandle" ∧ (parseMethodDescriptor yX2_clear.desc).map (fun d => d.parameters.length) = some 0 := by decide +kernel
set_option maxHeartbeats 4000000 in
set_option maxRecDepth 100000 in
theorem k_X2_clear (l : Launch) (X : xX) (S : xS) (b : Nat) (hb0 : isH b = true) (hs : s_X2_clear S b) : Met l yX2_clear wsX2_clear ({ frames := 1, cells := 0, slots := 0, locals := 23 } : Room) (va_Pc [.ref (X.2.1 b)] (xI X S)) (va_Qv (fun u : xS => u = (f_X2_clear S b)) (xI X) (xA X)) 0 0 (xA X) := sorry
theorem hs_X10_copy : yX10_copy.cls ≠ "java/lang/invoke/MethodHandle" ∧ yX10_copy.cls ≠ "java/lang/invoke/VarHandle" ∧ (parseMethodDescriptor yX10_copy.desc).map (fun d => d.parameters.length) = some 2 := by decide +kernel
set_option maxHeartbeats 4000000 in
set_option maxRecDepth 100000 in
theorem k_X10_copy (l : Launch) (X : xX) (S : xS) (k0 : Nat) (k1 : Nat) (hk0 : isI k0 = true) (hk1 : isI k1 = true) (hs : s_X10_copy S k0 k1) : Met l yX10_copy wsX10_copy ({ frames := 1, cells := 0, slots := 0, locals := 40 } : Room) (va_Pc [.ref (X.2.1 k0), .ref (X.2.1 k1)] (xI X S)) (va_Qv (fun u : xS => u = (f_X10_copy S k0 k1)) (xI X) (xA X)) 0 0 (xA X) := sorry
theorem hd_X2_copyFrom : yX2_copyFrom.cls = RX2 ∧ yX2_copyFrom.cls ≠ "java/lang/invoke/MethodHandle" ∧ yX2_copyFrom.cls ≠ "java/lang/invoke/VarHandle" ∧ (parseMethodDescriptor yX2_copyFrom.desc).map (fun d => d.parameters.length) = some 1 := by decide +kernel
set_option maxHeartbeats 4000000 in
set_option maxRecDepth 100000 in
theorem k_X2_copyFrom (l : Launch) (X : xX) (S : xS) (b : Nat) (k0 : Nat) (hb0 : isH b = true) (hk0 : isH k0 = true) (hs : s_X2_copyFrom S b k0) : Met l yX2_copyFrom wsX2_copyFrom ({ frames := 2, cells := 0, slots := 0, locals := 61 } : Room) (va_Pc [.ref (X.2.1 b), .ref (X.2.1 k0)] (xI X S)) (va_Qv (fun u : xS => u = (f_X2_copyFrom S b k0)) (xI X) (xA X)) 0 0 (xA X) := sorry
theorem hd_X2_isTold : yX2_isTold.cls = RX2 ∧ yX2_isTold.cls ≠ "java/lang/invoke/MethodHandle" ∧ yX2_isTold.cls ≠ "java/lang/invoke/VarHandle" ∧ (parseMethodDescriptor yX2_isTold.desc).map (fun d => d.parameters.length) = some 0 := by decide +kernel
set_option maxHeartbeats 4000000 in
set_option maxRecDepth 100000 in
theorem k_X2_isTold (l : Launch) (X : xX) (S : xS) (b : Nat) (hb0 : isH b = true) : Met l yX2_isTold wsX2_isTold ({ frames := 0, cells := 0, slots := 0, locals := 0 } : Room) (va_Pc [.ref (X.2.1 b)] (xI X S)) (va_Qi (fun (r : Int32) (u : xS) => (r = (f_X2_isTold S b) ∧ (r = 0 ∨ r = 1)) ∧ u = S) (xI X) (xA X)) 0 0 (xA X) := sorry
theorem hd_X2_isRoom : yX2_isRoom.cls = RX2 ∧ yX2_isRoom.cls ≠ "java/lang/invoke/MethodHandle" ∧ yX2_isRoom.cls ≠ "java/lang/invoke/VarHandle" ∧ (parseMethodDescriptor yX2_isRoom.desc).map (fun d => d.parameters.length) = some 1 := by decide +kernel
set_option maxHeartbeats 4000000 in
set_option maxRecDepth 100000 in
theorem k_X2_isRoom (l : Launch) (X : xX) (S : xS) (b : Nat) (p0 : Int32) (hb0 : isH b = true) : Met l yX2_isRoom wsX2_isRoom ({ frames := 0, cells := 0, slots := 0, locals := 0 } : Room) (va_Pc [.ref (X.2.1 b), .int p0] (xI X S)) (va_Qi (fun (r : Int32) (u : xS) => (r = (f_X2_isRoom S b p0) ∧ (r = 0 ∨ r = 1)) ∧ u = S) (xI X) (xA X)) 0 0 (xA X) := sorry
theorem hd_X2_isPerson : yX2_isPerson.cls = RX2 ∧ yX2_isPerson.cls ≠ "java/lang/invoke/MethodHandle" ∧ yX2_isPerson.cls ≠ "java/lang/invoke/VarHandle" ∧ (parseMethodDescriptor yX2_isPerson.desc).map (fun d => d.parameters.length) = some 1 := by decide +kernel
set_option maxHeartbeats 4000000 in
set_option maxRecDepth 100000 in
theorem k_X2_isPerson (l : Launch) (X : xX) (S : xS) (b : Nat) (p0 : Int32) (hb0 : isH b = true) : Met l yX2_isPerson wsX2_isPerson ({ frames := 0, cells := 0, slots := 0, locals := 0 } : Room) (va_Pc [.ref (X.2.1 b), .int p0] (xI X S)) (va_Qi (fun (r : Int32) (u : xS) => (r = (f_X2_isPerson S b p0) ∧ (r = 0 ∨ r = 1)) ∧ u = S) (xI X) (xA X)) 0 0 (xA X) := sorry
theorem hd_X2_isPair : yX2_isPair.cls = RX2 ∧ yX2_isPair.cls ≠ "java/lang/invoke/MethodHandle" ∧ yX2_isPair.cls ≠ "java/lang/invoke/VarHandle" ∧ (parseMethodDescriptor yX2_isPair.desc).map (fun d => d.parameters.length) = some 2 := by decide +kernel
set_option maxHeartbeats 4000000 in
set_option maxRecDepth 100000 in
theorem k_X2_isPair (l : Launch) (X : xX) (S : xS) (b : Nat) (p0 : Int32) (p1 : Int32) (hb0 : isH b = true) : Met l yX2_isPair wsX2_isPair ({ frames := 1, cells := 0, slots := 0, locals := 21 } : Room) (va_Pc [.ref (X.2.1 b), .int p0, .int p1] (xI X S)) (va_Qi (fun (r : Int32) (u : xS) => (r = (f_X2_isPair S b p0 p1) ∧ (r = 0 ∨ r = 1)) ∧ u = S) (xI X) (xA X)) 0 0 (xA X) := sorry
theorem hs_X10_has : yX10_has.cls ≠ "java/lang/invoke/MethodHandle" ∧ yX10_has.cls ≠ "java/lang/invoke/VarHandle" ∧ (parseMethodDescriptor yX10_has.desc).map (fun d => d.parameters.length) = some 2 := by decide +kernel
set_option maxHeartbeats 4000000 in
set_option maxRecDepth 100000 in
theorem k_X10_has (l : Launch) (X : xX) (S : xS) (p0 : Int32) (p1 : Int32) : Met l yX10_has wsX10_has ({ frames := 0, cells := 0, slots := 0, locals := 0 } : Room) (va_Pc [.int p0, .int p1] (xI X S)) (va_Qi (fun (r : Int32) (u : xS) => (r = (f_X10_has S p0 p1) ∧ (r = 0 ∨ r = 1)) ∧ u = S) (xI X) (xA X)) 0 0 (xA X) := sorry
theorem hd_X2_isBench : yX2_isBench.cls = RX2 ∧ yX2_isBench.cls ≠ "java/lang/invoke/MethodHandle" ∧ yX2_isBench.cls ≠ "java/lang/invoke/VarHandle" ∧ (parseMethodDescriptor yX2_isBench.desc).map (fun d => d.parameters.length) = some 2 := by decide +kernel
set_option maxHeartbeats 4000000 in
set_option maxRecDepth 100000 in
theorem k_X2_isBench (l : Launch) (X : xX) (S : xS) (b : Nat) (p0 : Int32) (p1 : Int32) (hb0 : isH b = true) : Met l yX2_isBench wsX2_isBench ({ frames := 1, cells := 0, slots := 0, locals := 21 } : Room) (va_Pc [.ref (X.2.1 b), .int p0, .int p1] (xI X S)) (va_Qi (fun (r : Int32) (u : xS) => (r = (f_X2_isBench S b p0 p1) ∧ (r = 0 ∨ r = 1)) ∧ u = S) (xI X) (xA X)) 0 0 (xA X) := sorry
theorem hd_X2_isWay : yX2_isWay.cls = RX2 ∧ yX2_isWay.cls ≠ "java/lang/invoke/MethodHandle" ∧ yX2_isWay.cls ≠ "java/lang/invoke/VarHandle" ∧ (parseMethodDescriptor yX2_isWay.desc).map (fun d => d.parameters.length) = some 2 := by decide +kernel
set_option maxHeartbeats 4000000 in
set_option maxRecDepth 100000 in
theorem k_X2_isWay (l : Launch) (X : xX) (S : xS) (b : Nat) (p0 : Int32) (p1 : Int32) (hb0 : isH b = true) : Met l yX2_isWay wsX2_isWay ({ frames := 1, cells := 0, slots := 0, locals := 21 } : Room) (va_Pc [.ref (X.2.1 b), .int p0, .int p1] (xI X S)) (va_Qi (fun (r : Int32) (u : xS) => (r = (f_X2_isWay S b p0 p1) ∧ (r = 0 ∨ r = 1)) ∧ u = S) (xI X) (xA X)) 0 0 (xA X) := sorry
theorem hs_X10_bit : yX10_bit.cls ≠ "java/lang/invoke/MethodHandle" ∧ yX10_bit.cls ≠ "java/lang/invoke/VarHandle" ∧ (parseMethodDescriptor yX10_bit.desc).map (fun d => d.parameters.length) = some 1 := by decide +kernel
set_option maxHeartbeats 4000000 in
set_option maxRecDepth 100000 in
theorem k_X10_bit (l : Launch) (X : xX) (S : xS) (p0 : Int32) : Met l yX10_bit wsX10_bit ({ frames := 0, cells := 0, slots := 0, locals := 0 } : Room) (va_Pc [.int p0] (xI X S)) (va_Qi (fun (r : Int32) (u : xS) => r = (f_X10_bit S p0) ∧ u = S) (xI X) (xA X)) 0 0 (xA X) := sorry
theorem hd_X2_addBench : yX2_addBench.cls = RX2 ∧ yX2_addBench.cls ≠ "java/lang/invoke/MethodHandle" ∧ yX2_addBench.cls ≠ "java/lang/invoke/VarHandle" ∧ (parseMethodDescriptor yX2_addBench.desc).map (fun d => d.parameters.length) = some 2 := by decide +kernel
set_option maxHeartbeats 4000000 in
set_option maxRecDepth 100000 in
theorem k_X2_addBench (l : Launch) (X : xX) (S : xS) (b : Nat) (p0 : Int32) (p1 : Int32) (hb0 : isH b = true) : Met l yX2_addBench wsX2_addBench ({ frames := 1, cells := 0, slots := 0, locals := 22 } : Room) (va_Pc [.ref (X.2.1 b), .int p0, .int p1] (xI X S)) (va_Qv (fun u : xS => u = (f_X2_addBench S b p0 p1)) (xI X) (xA X)) 0 0 (xA X) := sorry
theorem hd_X2_addWay : yX2_addWay.cls = RX2 ∧ yX2_addWay.cls ≠ "java/lang/invoke/MethodHandle" ∧ yX2_addWay.cls ≠ "java/lang/invoke/VarHandle" ∧ (parseMethodDescriptor yX2_addWay.desc).map (fun d => d.parameters.length) = some 2 := by decide +kernel
set_option maxHeartbeats 4000000 in
set_option maxRecDepth 100000 in
theorem k_X2_addWay (l : Launch) (X : xX) (S : xS) (b : Nat) (p0 : Int32) (p1 : Int32) (hb0 : isH b = true) : Met l yX2_addWay wsX2_addWay ({ frames := 1, cells := 0, slots := 0, locals := 22 } : Room) (va_Pc [.ref (X.2.1 b), .int p0, .int p1] (xI X S)) (va_Qv (fun u : xS => u = (f_X2_addWay S b p0 p1)) (xI X) (xA X)) 0 0 (xA X) := sorry
theorem hd_X2_addPerson : yX2_addPerson.cls = RX2 ∧ yX2_addPerson.cls ≠ "java/lang/invoke/MethodHandle" ∧ yX2_addPerson.cls ≠ "java/lang/invoke/VarHandle" ∧ (parseMethodDescriptor yX2_addPerson.desc).map (fun d => d.parameters.length) = some 2 := by decide +kernel
set_option maxHeartbeats 4000000 in
set_option maxRecDepth 100000 in
theorem k_X2_addPerson (l : Launch) (X : xX) (S : xS) (b : Nat) (p0 : Int32) (p1 : Int32) (hb0 : isH b = true) : Met l yX2_addPerson wsX2_addPerson ({ frames := 1, cells := 0, slots := 0, locals := 22 } : Room) (va_Pc [.ref (X.2.1 b), .int p0, .int p1] (xI X S)) (va_Qv (fun u : xS => u = (f_X2_addPerson S b p0 p1)) (xI X) (xA X)) 0 0 (xA X) := sorry
theorem hs_X10_pairIndex : yX10_pairIndex.cls ≠ "java/lang/invoke/MethodHandle" ∧ yX10_pairIndex.cls ≠ "java/lang/invoke/VarHandle" ∧ (parseMethodDescriptor yX10_pairIndex.desc).map (fun d => d.parameters.length) = some 2 := by decide +kernel
set_option maxHeartbeats 4000000 in
set_option maxRecDepth 100000 in
theorem k_X10_pairIndex (l : Launch) (X : xX) (S : xS) (p0 : Int32) (p1 : Int32) : Met l yX10_pairIndex wsX10_pairIndex ({ frames := 0, cells := 0, slots := 0, locals := 0 } : Room) (va_Pc [.int p0, .int p1] (xI X S)) (va_Qi (fun (r : Int32) (u : xS) => r = (f_X10_pairIndex S p0 p1) ∧ u = S) (xI X) (xA X)) 0 0 (xA X) := sorry
theorem hd_X2_addLiking : yX2_addLiking.cls = RX2 ∧ yX2_addLiking.cls ≠ "java/lang/invoke/MethodHandle" ∧ yX2_addLiking.cls ≠ "java/lang/invoke/VarHandle" ∧ (parseMethodDescriptor yX2_addLiking.desc).map (fun d => d.parameters.length) = some 3 := by decide +kernel
set_option maxHeartbeats 4000000 in
set_option maxRecDepth 100000 in
theorem k_X2_addLiking (l : Launch) (X : xX) (S : xS) (b : Nat) (p0 : Int32) (p1 : Int32) (p2 : Int32) (hb0 : isH b = true) : Met l yX2_addLiking wsX2_addLiking ({ frames := 1, cells := 0, slots := 0, locals := 22 } : Room) (va_Pc [.ref (X.2.1 b), .int p0, .int p1, .int p2] (xI X S)) (va_Qv (fun u : xS => u = (f_X2_addLiking S b p0 p1 p2)) (xI X) (xA X)) 0 0 (xA X) := sorry
theorem hd_X4_personsIn : yX4_personsIn.cls = RX4 ∧ yX4_personsIn.cls ≠ "java/lang/invoke/MethodHandle" ∧ yX4_personsIn.cls ≠ "java/lang/invoke/VarHandle" ∧ (parseMethodDescriptor yX4_personsIn.desc).map (fun d => d.parameters.length) = some 1 := by decide +kernel
set_option maxHeartbeats 4000000 in
set_option maxRecDepth 100000 in
theorem k_X4_personsIn (l : Launch) (X : xX) (S : xS) (p0 : Int32) (hs : s_X4_personsIn S p0) : Met l yX4_personsIn wsX4_personsIn ({ frames := 1, cells := 0, slots := 0, locals := 21 } : Room) (va_Pc [.ref (X.2.1 15), .int p0] (xI X S)) (va_Qi (fun (r : Int32) (u : xS) => r = (f_X4_personsIn S p0) ∧ u = S) (xI X) (xA X)) 0 0 (xA X) := sorry
theorem hd_X4_reaches : yX4_reaches.cls = RX4 ∧ yX4_reaches.cls ≠ "java/lang/invoke/MethodHandle" ∧ yX4_reaches.cls ≠ "java/lang/invoke/VarHandle" ∧ (parseMethodDescriptor yX4_reaches.desc).map (fun d => d.parameters.length) = some 2 := by decide +kernel
set_option maxHeartbeats 4000000 in
set_option maxRecDepth 100000 in
theorem k_X4_reaches (l : Launch) (X : xX) (S : xS) (p0 : Int32) (p1 : Int32) : Met l yX4_reaches wsX4_reaches ({ frames := 1, cells := 0, slots := 0, locals := 21 } : Room) (va_Pc [.ref (X.2.1 15), .int p0, .int p1] (xI X S)) (va_Qi (fun (r : Int32) (u : xS) => (r = (f_X4_reaches S p0 p1) ∧ (r = 0 ∨ r = 1)) ∧ u = S) (xI X) (xA X)) 0 0 (xA X) := sorry
theorem hs_X10_words : yX10_words.cls ≠ "java/lang/invoke/MethodHandle" ∧ yX10_words.cls ≠ "java/lang/invoke/VarHandle" ∧ (parseMethodDescriptor yX10_words.desc).map (fun d => d.parameters.length) = some 3 := by decide +kernel
set_option maxHeartbeats 4000000 in
set_option maxRecDepth 100000 in
theorem k_X10_words (l : Launch) (X : xX) (S : xS) (p0 : Int32) (p1 : Int32) (p2 : Int32) : Met l yX10_words wsX10_words ({ frames := 0, cells := 0, slots := 0, locals := 0 } : Room) (va_Pc [.int p0, .int p1, .int p2] (xI X S)) (va_Qi (fun (r : Int32) (u : xS) => r = (f_X10_words S p0 p1 p2) ∧ u = S) (xI X) (xA X)) 0 0 (xA X) := sorry
theorem hd_X4_says : yX4_says.cls = RX4 ∧ yX4_says.cls ≠ "java/lang/invoke/MethodHandle" ∧ yX4_says.cls ≠ "java/lang/invoke/VarHandle" ∧ (parseMethodDescriptor yX4_says.desc).map (fun d => d.parameters.length) = some 5 := by decide +kernel
set_option maxHeartbeats 4000000 in
set_option maxRecDepth 100000 in
theorem k_X4_says (l : Launch) (X : xX) (S : xS) (p0 : Int32) (p1 : Int32) (p2 : Int32) (p3 : Int32) (p4 : Int32) : Met l yX4_says wsX4_says ({ frames := 2, cells := 0, slots := 0, locals := 43 } : Room) (va_Pc [.ref (X.2.1 15), .int p0, .int p1, .int p2, .int p3, .int p4] (xI X S)) (va_Qi (fun (r : Int32) (u : xS) => r = (f_X4_says S p0 p1 p2 p3 p4) ∧ u = S) (xI X) (xA X)) 0 0 (xA X) := sorry
theorem hd_X4_saysNow : yX4_saysNow.cls = RX4 ∧ yX4_saysNow.cls ≠ "java/lang/invoke/MethodHandle" ∧ yX4_saysNow.cls ≠ "java/lang/invoke/VarHandle" ∧ (parseMethodDescriptor yX4_saysNow.desc).map (fun d => d.parameters.length) = some 2 := by decide +kernel
set_option maxHeartbeats 4000000 in
set_option maxRecDepth 100000 in
theorem k_X4_saysNow (l : Launch) (X : xX) (S : xS) (p0 : Int32) (p1 : Int32) : Met l yX4_saysNow wsX4_saysNow ({ frames := 3, cells := 0, slots := 0, locals := 70 } : Room) (va_Pc [.ref (X.2.1 15), .int p0, .int p1] (xI X S)) (va_Qi (fun (r : Int32) (u : xS) => r = (f_X4_saysNow S p0 p1) ∧ u = S) (xI X) (xA X)) 0 0 (xA X) := sorry
theorem hs_J9_floorMod_7cf53 : yJ9_floorMod_7cf53.cls ≠ "java/lang/invoke/MethodHandle" ∧ yJ9_floorMod_7cf53.cls ≠ "java/lang/invoke/VarHandle" ∧ (parseMethodDescriptor yJ9_floorMod_7cf53.desc).map (fun d => d.parameters.length) = some 2 := by decide +kernel
set_option maxHeartbeats 4000000 in
set_option maxRecDepth 100000 in
theorem k_J9_floorMod_7cf53 (l : Launch) (X : xX) (S : xS) (p0 : Int32) (p1 : Int32) (hs : s_J9_floorMod_7cf53 S p0 p1) : Met l yJ9_floorMod_7cf53 wsJ9_floorMod_7cf53 ({ frames := 0, cells := 0, slots := 0, locals := 0 } : Room) (va_Pc [.int p0, .int p1] (xI X S)) (va_Qi (fun (r : Int32) (u : xS) => r = (f_J9_floorMod_7cf53 S p0 p1) ∧ u = S) (xI X) (xA X)) 0 0 (xA X) := sorry
theorem hd_X4_spokenOfBy : yX4_spokenOfBy.cls = RX4 ∧ yX4_spokenOfBy.cls ≠ "java/lang/invoke/MethodHandle" ∧ yX4_spokenOfBy.cls ≠ "java/lang/invoke/VarHandle" ∧ (parseMethodDescriptor yX4_spokenOfBy.desc).map (fun d => d.parameters.length) = some 2 := by decide +kernel
set_option maxHeartbeats 4000000 in
set_option maxRecDepth 100000 in
theorem k_X4_spokenOfBy (l : Launch) (X : xX) (S : xS) (p0 : Int32) (p1 : Int32) : Met l yX4_spokenOfBy wsX4_spokenOfBy ({ frames := 1, cells := 0, slots := 0, locals := 22 } : Room) (va_Pc [.ref (X.2.1 15), .int p0, .int p1] (xI X S)) (va_Qi (fun (r : Int32) (u : xS) => r = (f_X4_spokenOfBy S p0 p1) ∧ u = S) (xI X) (xA X)) 0 0 (xA X) := sorry
theorem hd_X4_speakerOf : yX4_speakerOf.cls = RX4 ∧ yX4_speakerOf.cls ≠ "java/lang/invoke/MethodHandle" ∧ yX4_speakerOf.cls ≠ "java/lang/invoke/VarHandle" ∧ (parseMethodDescriptor yX4_speakerOf.desc).map (fun d => d.parameters.length) = some 2 := by decide +kernel
set_option maxHeartbeats 4000000 in
set_option maxRecDepth 100000 in
theorem k_X4_speakerOf (l : Launch) (X : xX) (S : xS) (p0 : Int32) (p1 : Int32) : Met l yX4_speakerOf wsX4_speakerOf ({ frames := 1, cells := 0, slots := 0, locals := 22 } : Room) (va_Pc [.ref (X.2.1 15), .int p0, .int p1] (xI X S)) (va_Qi (fun (r : Int32) (u : xS) => r = (f_X4_speakerOf S p0 p1) ∧ u = S) (xI X) (xA X)) 0 0 (xA X) := sorry
theorem hs_X10_bounded : yX10_bounded.cls ≠ "java/lang/invoke/MethodHandle" ∧ yX10_bounded.cls ≠ "java/lang/invoke/VarHandle" ∧ (parseMethodDescriptor yX10_bounded.desc).map (fun d => d.parameters.length) = some 3 := by decide +kernel
set_option maxHeartbeats 4000000 in
set_option maxRecDepth 100000 in
theorem k_X10_bounded (l : Launch) (X : xX) (S : xS) (p0 : Int32) (p1 : Int32) (p2 : Int32) : Met l yX10_bounded wsX10_bounded ({ frames := 1, cells := 0, slots := 0, locals := 21 } : Room) (va_Pc [.int p0, .int p1, .int p2] (xI X S)) (va_Qi (fun (r : Int32) (u : xS) => r = (f_X10_bounded S p0 p1 p2) ∧ u = S) (xI X) (xA X)) 0 0 (xA X) := sorry
theorem hd_X4_warmer : yX4_warmer.cls = RX4 ∧ yX4_warmer.cls ≠ "java/lang/invoke/MethodHandle" ∧ yX4_warmer.cls ≠ "java/lang/invoke/VarHandle" ∧ (parseMethodDescriptor yX4_warmer.desc).map (fun d => d.parameters.length) = some 2 := by decide +kernel
set_option maxHeartbeats 4000000 in
set_option maxRecDepth 100000 in
theorem k_X4_warmer (l : Launch) (X : xX) (S : xS) (p0 : Int32) (p1 : Int32) : Met l yX4_warmer wsX4_warmer ({ frames := 2, cells := 0, slots := 0, locals := 43 } : Room) (va_Pc [.ref (X.2.1 15), .int p0, .int p1] (xI X S)) (va_Qi (fun (r : Int32) (u : xS) => r = (f_X4_warmer S p0 p1) ∧ u = S) (xI X) (xA X)) 0 0 (xA X) := sorry
theorem hd_X4_passHour : yX4_passHour.cls = RX4 ∧ yX4_passHour.cls ≠ "java/lang/invoke/MethodHandle" ∧ yX4_passHour.cls ≠ "java/lang/invoke/VarHandle" ∧ (parseMethodDescriptor yX4_passHour.desc).map (fun d => d.parameters.length) = some 0 := by decide +kernel
set_option maxHeartbeats 4000000 in
set_option maxRecDepth 100000 in
theorem k_X4_passHour (l : Launch) (X : xX) (S : xS) (hs : s_X4_passHour S) : Met l yX4_passHour wsX4_passHour ({ frames := 4, cells := 0, slots := 0, locals := 92 } : Room) (va_Pc [.ref (X.2.1 15)] (xI X S)) (va_Qv (fun u : xS => u = (f_X4_passHour S)) (xI X) (xA X)) 0 0 (xA X) := sorry
theorem hd_X5_add : yX5_add.cls = RX5 ∧ yX5_add.cls ≠ "java/lang/invoke/MethodHandle" ∧ yX5_add.cls ≠ "java/lang/invoke/VarHandle" ∧ (parseMethodDescriptor yX5_add.desc).map (fun d => d.parameters.length) = some 3 := by decide +kernel
set_option maxHeartbeats 4000000 in
set_option maxRecDepth 100000 in
theorem k_X5_add (l : Launch) (X : xX) (S : xS) (p0 : Int32) (p1 : Int32) (p2 : Int32) : Met l yX5_add wsX5_add ({ frames := 1, cells := 0, slots := 0, locals := 22 } : Room) (va_Pc [.ref (X.2.1 19), .int p0, .int p1, .int p2] (xI X S)) (va_Qi (fun (r : Int32) (u : xS) => r = (f_X5_add S p0 p1 p2).1 ∧ u = (f_X5_add S p0 p1 p2).2) (xI X) (xA X)) 0 0 (xA X) := sorry
theorem hd_X5_fits : yX5_fits.cls = RX5 ∧ yX5_fits.cls ≠ "java/lang/invoke/MethodHandle" ∧ yX5_fits.cls ≠ "java/lang/invoke/VarHandle" ∧ (parseMethodDescriptor yX5_fits.desc).map (fun d => d.parameters.length) = some 1 := by decide +kernel
set_option maxHeartbeats 4000000 in
set_option maxRecDepth 100000 in
theorem k_X5_fits (l : Launch) (X : xX) (S : xS) (p0 : Int32) (hs : s_X5_fits S p0) : Met l yX5_fits wsX5_fits ({ frames := 1, cells := 0, slots := 0, locals := 23 } : Room) (va_Pc [.ref (X.2.1 19), .int p0] (xI X S)) (va_Qi (fun (r : Int32) (u : xS) => (r = (f_X5_fits S p0) ∧ (r = 0 ∨ r = 1)) ∧ u = S) (xI X) (xA X)) 0 0 (xA X) := sorry
theorem hd_X5_fitting : yX5_fitting.cls = RX5 ∧ yX5_fitting.cls ≠ "java/lang/invoke/MethodHandle" ∧ yX5_fitting.cls ≠ "java/lang/invoke/VarHandle" ∧ (parseMethodDescriptor yX5_fitting.desc).map (fun d => d.parameters.length) = some 0 := by decide +kernel
set_option maxHeartbeats 4000000 in
set_option maxRecDepth 100000 in
theorem k_X5_fitting (l : Launch) (X : xX) (S : xS) (hs : s_X5_fitting S) : Met l yX5_fitting wsX5_fitting ({ frames := 2, cells := 0, slots := 0, locals := 45 } : Room) (va_Pc [.ref (X.2.1 19)] (xI X S)) (va_Qi (fun (r : Int32) (u : xS) => r = (f_X5_fitting S) ∧ u = S) (xI X) (xA X)) 0 0 (xA X) := sorry
theorem hd_X5_leastFitting : yX5_leastFitting.cls = RX5 ∧ yX5_leastFitting.cls ≠ "java/lang/invoke/MethodHandle" ∧ yX5_leastFitting.cls ≠ "java/lang/invoke/VarHandle" ∧ (parseMethodDescriptor yX5_leastFitting.desc).map (fun d => d.parameters.length) = some 0 := by decide +kernel
set_option maxHeartbeats 4000000 in
set_option maxRecDepth 100000 in
theorem k_X5_leastFitting (l : Launch) (X : xX) (S : xS) (hs : s_X5_leastFitting S) : Met l yX5_leastFitting wsX5_leastFitting ({ frames := 3, cells := 0, slots := 0, locals := 67 } : Room) (va_Pc [.ref (X.2.1 19)] (xI X S)) (va_Qi (fun (r : Int32) (u : xS) => r = (f_X5_leastFitting S) ∧ u = S) (xI X) (xA X)) 0 0 (xA X) := sorry
theorem hd_X5_greatestFitting : yX5_greatestFitting.cls = RX5 ∧ yX5_greatestFitting.cls ≠ "java/lang/invoke/MethodHandle" ∧ yX5_greatestFitting.cls ≠ "java/lang/invoke/VarHandle" ∧ (parseMethodDescriptor yX5_greatestFitting.desc).map (fun d => d.parameters.length) = some 0 := by decide +kernel
set_option maxHeartbeats 4000000 in
set_option maxRecDepth 100000 in
theorem k_X5_greatestFitting (l : Launch) (X : xX) (S : xS) (hs : s_X5_greatestFitting S) : Met l yX5_greatestFitting wsX5_greatestFitting ({ frames := 3, cells := 0, slots := 0, locals := 67 } : Room) (va_Pc [.ref (X.2.1 19)] (xI X S)) (va_Qi (fun (r : Int32) (u : xS) => r = (f_X5_greatestFitting S) ∧ u = S) (xI X) (xA X)) 0 0 (xA X) := sorry
theorem hd_X5_greatestPart : yX5_greatestPart.cls = RX5 ∧ yX5_greatestPart.cls ≠ "java/lang/invoke/MethodHandle" ∧ yX5_greatestPart.cls ≠ "java/lang/invoke/VarHandle" ∧ (parseMethodDescriptor yX5_greatestPart.desc).map (fun d => d.parameters.length) = some 3 := by decide +kernel
set_option maxHeartbeats 4000000 in
set_option maxRecDepth 100000 in
theorem k_X5_greatestPart (l : Launch) (X : xX) (S : xS) (p0 : Int32) (p1 : Int32) (p2 : Int32) (hs : s_X5_greatestPart S p0 p1 p2) : Met l yX5_greatestPart wsX5_greatestPart ({ frames := 1, cells := 0, slots := 0, locals := 23 } : Room) (va_Pc [.ref (X.2.1 19), .int p0, .int p1, .int p2] (xI X S)) (va_Qi (fun (r : Int32) (u : xS) => r = (f_X5_greatestPart S p0 p1 p2) ∧ u = S) (xI X) (xA X)) 0 0 (xA X) := sorry
theorem hs_J6_bitCount_0f7a4 : yJ6_bitCount_0f7a4.cls ≠ "java/lang/invoke/MethodHandle" ∧ yJ6_bitCount_0f7a4.cls ≠ "java/lang/invoke/VarHandle" ∧ (parseMethodDescriptor yJ6_bitCount_0f7a4.desc).map (fun d => d.parameters.length) = some 1 := by decide +kernel
set_option maxHeartbeats 4000000 in
set_option maxRecDepth 100000 in
theorem k_J6_bitCount_0f7a4 (l : Launch) (X : xX) (S : xS) (p0 : Int32) : Met l yJ6_bitCount_0f7a4 wsJ6_bitCount_0f7a4 ({ frames := 0, cells := 0, slots := 0, locals := 0 } : Room) (va_Pc [.int p0] (xI X S)) (va_Qi (fun (r : Int32) (u : xS) => r = (f_J6_bitCount_0f7a4 S p0) ∧ u = S) (xI X) (xA X)) 0 0 (xA X) := sorry
theorem hd_X5_bestQuestion : yX5_bestQuestion.cls = RX5 ∧ yX5_bestQuestion.cls ≠ "java/lang/invoke/MethodHandle" ∧ yX5_bestQuestion.cls ≠ "java/lang/invoke/VarHandle" ∧ (parseMethodDescriptor yX5_bestQuestion.desc).map (fun d => d.parameters.length) = some 1 := by decide +kernel
set_option maxHeartbeats 4000000 in
set_option maxRecDepth 100000 in
theorem k_X5_bestQuestion (l : Launch) (X : xX) (S : xS) (p0 : Int32) (hs : s_X5_bestQuestion S p0) : Met l yX5_bestQuestion wsX5_bestQuestion ({ frames := 3, cells := 0, slots := 0, locals := 67 } : Room) (va_Pc [.ref (X.2.1 19), .int p0] (xI X S)) (va_Qi (fun (r : Int32) (u : xS) => r = (f_X5_bestQuestion S p0) ∧ u = S) (xI X) (xA X)) 0 0 (xA X) := sorry
theorem hd_X6_slotAt : yX6_slotAt.cls = RX6 ∧ yX6_slotAt.cls ≠ "java/lang/invoke/MethodHandle" ∧ yX6_slotAt.cls ≠ "java/lang/invoke/VarHandle" ∧ (parseMethodDescriptor yX6_slotAt.desc).map (fun d => d.parameters.length) = some 1 := by decide +kernel
set_option maxHeartbeats 4000000 in
set_option maxRecDepth 100000 in
theorem k_X6_slotAt (l : Launch) (X : xX) (S : xS) (p0 : Int32) : Met l yX6_slotAt wsX6_slotAt ({ frames := 0, cells := 0, slots := 0, locals := 0 } : Room) (va_Pc [.ref (X.2.1 27), .int p0] (xI X S)) (va_Qq (fun (r : Option Nat) (u : xS) => r = (f_X6_slotAt S p0).map X.2.1 ∧ u = S) (xI X) (xA X)) 0 0 (xA X) := sorry
theorem hd_X7_copyFrom : yX7_copyFrom.cls = RX7 ∧ yX7_copyFrom.cls ≠ "java/lang/invoke/MethodHandle" ∧ yX7_copyFrom.cls ≠ "java/lang/invoke/VarHandle" ∧ (parseMethodDescriptor yX7_copyFrom.desc).map (fun d => d.parameters.length) = some 1 := by decide +kernel
set_option maxHeartbeats 4000000 in
set_option maxRecDepth 100000 in
theorem k_X7_copyFrom (l : Launch) (X : xX) (S : xS) (b : Nat) (k0 : Nat) (hb0 : isT b = true) (hk0 : isT k0 = true) (hs : s_X7_copyFrom S b k0) : Met l yX7_copyFrom wsX7_copyFrom ({ frames := 2, cells := 0, slots := 0, locals := 61 } : Room) (va_Pc [.ref (X.2.1 b), .ref (X.2.1 k0)] (xI X S)) (va_Qv (fun u : xS => u = (f_X7_copyFrom S b k0)) (xI X) (xA X)) 0 0 (xA X) := sorry
theorem hd_X6_remember : yX6_remember.cls = RX6 ∧ yX6_remember.cls ≠ "java/lang/invoke/MethodHandle" ∧ yX6_remember.cls ≠ "java/lang/invoke/VarHandle" ∧ (parseMethodDescriptor yX6_remember.desc).map (fun d => d.parameters.length) = some 1 := by decide +kernel
set_option maxHeartbeats 4000000 in
set_option maxRecDepth 100000 in
theorem k_X6_remember (l : Launch) (X : xX) (S : xS) (k0 : Nat) (hk0 : isT k0 = true) (hs : s_X6_remember S k0) : Met l yX6_remember wsX6_remember ({ frames := 3, cells := 0, slots := 0, locals := 82 } : Room) (va_Pc [.ref (X.2.1 27), .ref (X.2.1 k0)] (xI X S)) (va_Qv (fun u : xS => u = (f_X6_remember S k0)) (xI X) (xA X)) 0 0 (xA X) := sorry
theorem hd_X6_recall : yX6_recall.cls = RX6 ∧ yX6_recall.cls ≠ "java/lang/invoke/MethodHandle" ∧ yX6_recall.cls ≠ "java/lang/invoke/VarHandle" ∧ (parseMethodDescriptor yX6_recall.desc).map (fun d => d.parameters.length) = some 1 := by decide +kernel
set_option maxHeartbeats 4000000 in
set_option maxRecDepth 100000 in
theorem k_X6_recall (l : Launch) (X : xX) (S : xS) (k0 : Nat) (hk0 : isT k0 = true) (hs : s_X6_recall S k0) : Met l yX6_recall wsX6_recall ({ frames := 3, cells := 0, slots := 0, locals := 82 } : Room) (va_Pc [.ref (X.2.1 27), .ref (X.2.1 k0)] (xI X S)) (va_Qi (fun (r : Int32) (u : xS) => r = (f_X6_recall S k0).1 ∧ u = (f_X6_recall S k0).2 ∧ (r = 0 ∨ r = 1)) (xI X) (xA X)) 0 0 (xA X) := sorry
theorem hd_X6_forget : yX6_forget.cls = RX6 ∧ yX6_forget.cls ≠ "java/lang/invoke/MethodHandle" ∧ yX6_forget.cls ≠ "java/lang/invoke/VarHandle" ∧ (parseMethodDescriptor yX6_forget.desc).map (fun d => d.parameters.length) = some 0 := by decide +kernel
set_option maxHeartbeats 4000000 in
set_option maxRecDepth 100000 in
theorem k_X6_forget (l : Launch) (X : xX) (S : xS) : Met l yX6_forget wsX6_forget ({ frames := 0, cells := 0, slots := 0, locals := 0 } : Room) (va_Pc [.ref (X.2.1 27)] (xI X S)) (va_Qv (fun u : xS => u = (f_X6_forget S)) (xI X) (xA X)) 0 0 (xA X) := sorry
theorem hd_X7_begin : yX7_begin.cls = RX7 ∧ yX7_begin.cls ≠ "java/lang/invoke/MethodHandle" ∧ yX7_begin.cls ≠ "java/lang/invoke/VarHandle" ∧ (parseMethodDescriptor yX7_begin.desc).map (fun d => d.parameters.length) = some 1 := by decide +kernel
set_option maxHeartbeats 4000000 in
set_option maxRecDepth 100000 in
theorem k_X7_begin (l : Launch) (X : xX) (S : xS) (b : Nat) (k0 : Nat) (hb0 : isT b = true) (hk0 : isH k0 = true) (hs : s_X7_begin S b k0) : Met l yX7_begin wsX7_begin ({ frames := 2, cells := 0, slots := 0, locals := 61 } : Room) (va_Pc [.ref (X.2.1 b), .ref (X.2.1 k0)] (xI X S)) (va_Qv (fun u : xS => u = (f_X7_begin S b k0)) (xI X) (xA X)) 0 0 (xA X) := sorry
theorem hd_X8_add : yX8_add.cls = RX8 ∧ yX8_add.cls ≠ "java/lang/invoke/MethodHandle" ∧ yX8_add.cls ≠ "java/lang/invoke/VarHandle" ∧ (parseMethodDescriptor yX8_add.desc).map (fun d => d.parameters.length) = some 1 := by decide +kernel
set_option maxHeartbeats 4000000 in
set_option maxRecDepth 100000 in
theorem k_X8_add (l : Launch) (X : xX) (S : xS) (p0 : Int32) : Met l yX8_add wsX8_add ({ frames := 1, cells := 0, slots := 0, locals := 22 } : Room) (va_Pc [.ref (X.2.1 1), .int p0] (xI X S)) (va_Qi (fun (r : Int32) (u : xS) => r = (f_X8_add S p0).1 ∧ u = (f_X8_add S p0).2) (xI X) (xA X)) 0 0 (xA X) := sorry
theorem hd_X8_letter : yX8_letter.cls = RX8 ∧ yX8_letter.cls ≠ "java/lang/invoke/MethodHandle" ∧ yX8_letter.cls ≠ "java/lang/invoke/VarHandle" ∧ (parseMethodDescriptor yX8_letter.desc).map (fun d => d.parameters.length) = some 0 := by decide +kernel
set_option maxHeartbeats 4000000 in
set_option maxRecDepth 100000 in
theorem k_X8_letter (l : Launch) (X : xX) (S : xS) : Met l yX8_letter wsX8_letter ({ frames := 0, cells := 0, slots := 0, locals := 0 } : Room) (va_Pc [.ref (X.2.1 1)] (xI X S)) (va_Qi (fun (r : Int32) (u : xS) => r = (f_X8_letter S) ∧ u = S) (xI X) (xA X)) 0 0 (xA X) := sorry
theorem hd_X8_skipBlanks : yX8_skipBlanks.cls = RX8 ∧ yX8_skipBlanks.cls ≠ "java/lang/invoke/MethodHandle" ∧ yX8_skipBlanks.cls ≠ "java/lang/invoke/VarHandle" ∧ (parseMethodDescriptor yX8_skipBlanks.desc).map (fun d => d.parameters.length) = some 0 := by decide +kernel
set_option maxHeartbeats 4000000 in
set_option maxRecDepth 100000 in
theorem k_X8_skipBlanks (l : Launch) (X : xX) (S : xS) (hs : s_X8_skipBlanks S) : Met l yX8_skipBlanks wsX8_skipBlanks ({ frames := 1, cells := 0, slots := 0, locals := 20 } : Room) (va_Pc [.ref (X.2.1 1)] (xI X S)) (va_Qv (fun u : xS => u = (f_X8_skipBlanks S)) (xI X) (xA X)) 0 0 (xA X) := sorry
theorem hd_X8_faultOfWord : yX8_faultOfWord.cls = RX8 ∧ yX8_faultOfWord.cls ≠ "java/lang/invoke/MethodHandle" ∧ yX8_faultOfWord.cls ≠ "java/lang/invoke/VarHandle" ∧ (parseMethodDescriptor yX8_faultOfWord.desc).map (fun d => d.parameters.length) = some 1 := by decide +kernel
set_option maxHeartbeats 4000000 in
set_option maxRecDepth 100000 in
theorem k_X8_faultOfWord (l : Launch) (X : xX) (S : xS) (p0 : Int32) : Met l yX8_faultOfWord wsX8_faultOfWord ({ frames := 1, cells := 0, slots := 0, locals := 20 } : Room) (va_Pc [.ref (X.2.1 1), .int p0] (xI X S)) (va_Qi (fun (r : Int32) (u : xS) => r = (f_X8_faultOfWord S p0) ∧ u = S) (xI X) (xA X)) 0 0 (xA X) := sorry
theorem hd_X8_blame : yX8_blame.cls = RX8 ∧ yX8_blame.cls ≠ "java/lang/invoke/MethodHandle" ∧ yX8_blame.cls ≠ "java/lang/invoke/VarHandle" ∧ (parseMethodDescriptor yX8_blame.desc).map (fun d => d.parameters.length) = some 2 := by decide +kernel
set_option maxHeartbeats 4000000 in
set_option maxRecDepth 100000 in
theorem k_X8_blame (l : Launch) (X : xX) (S : xS) (p0 : Int32) (p1 : Int32) : Met l yX8_blame wsX8_blame ({ frames := 0, cells := 0, slots := 0, locals := 0 } : Room) (va_Pc [.ref (X.2.1 1), .int p0, .int p1] (xI X S)) (va_Qv (fun u : xS => u = (f_X8_blame S p0 p1)) (xI X) (xA X)) 0 0 (xA X) := sorry
theorem hs_X10_within : yX10_within.cls ≠ "java/lang/invoke/MethodHandle" ∧ yX10_within.cls ≠ "java/lang/invoke/VarHandle" ∧ (parseMethodDescriptor yX10_within.desc).map (fun d => d.parameters.length) = some 3 := by decide +kernel
set_option maxHeartbeats 4000000 in
set_option maxRecDepth 100000 in
theorem k_X10_within (l : Launch) (X : xX) (S : xS) (p0 : Int32) (p1 : Int32) (p2 : Int32) : Met l yX10_within wsX10_within ({ frames := 0, cells := 0, slots := 0, locals := 0 } : Room) (va_Pc [.int p0, .int p1, .int p2] (xI X S)) (va_Qi (fun (r : Int32) (u : xS) => (r = (f_X10_within S p0 p1 p2) ∧ (r = 0 ∨ r = 1)) ∧ u = S) (xI X) (xA X)) 0 0 (xA X) := sorry
theorem hd_X8_readNumber : yX8_readNumber.cls = RX8 ∧ yX8_readNumber.cls ≠ "java/lang/invoke/MethodHandle" ∧ yX8_readNumber.cls ≠ "java/lang/invoke/VarHandle" ∧ (parseMethodDescriptor yX8_readNumber.desc).map (fun d => d.parameters.length) = some 2 := by decide +kernel
set_option maxHeartbeats 4000000 in
set_option maxRecDepth 100000 in
theorem k_X8_readNumber (l : Launch) (X : xX) (S : xS) (p0 : Int32) (p1 : Int32) (hs : s_X8_readNumber S p0 p1) : Met l yX8_readNumber wsX8_readNumber ({ frames := 2, cells := 0, slots := 0, locals := 40 } : Room) (va_Pc [.ref (X.2.1 1), .int p0, .int p1] (xI X S)) (va_Qi (fun (r : Int32) (u : xS) => r = (f_X8_readNumber S p0 p1).1 ∧ u = (f_X8_readNumber S p0 p1).2) (xI X) (xA X)) 0 0 (xA X) := sorry
theorem hd_X8_readRooms : yX8_readRooms.cls = RX8 ∧ yX8_readRooms.cls ≠ "java/lang/invoke/MethodHandle" ∧ yX8_readRooms.cls ≠ "java/lang/invoke/VarHandle" ∧ (parseMethodDescriptor yX8_readRooms.desc).map (fun d => d.parameters.length) = some 0 := by decide +kernel
set_option maxHeartbeats 4000000 in
set_option maxRecDepth 100000 in
theorem k_X8_readRooms (l : Launch) (X : xX) (S : xS) (hs : s_X8_readRooms S) : Met l yX8_readRooms wsX8_readRooms ({ frames := 3, cells := 0, slots := 0, locals := 64 } : Room) (va_Pc [.ref (X.2.1 1)] (xI X S)) (va_Qv (fun u : xS => u = (f_X8_readRooms S)) (xI X) (xA X)) 0 0 (xA X) := sorry
theorem hd_X8_readBench : yX8_readBench.cls = RX8 ∧ yX8_readBench.cls ≠ "java/lang/invoke/MethodHandle" ∧ yX8_readBench.cls ≠ "java/lang/invoke/VarHandle" ∧ (parseMethodDescriptor yX8_readBench.desc).map (fun d => d.parameters.length) = some 0 := by decide +kernel
set_option maxHeartbeats 4000000 in
set_option maxRecDepth 100000 in
theorem k_X8_readBench (l : Launch) (X : xX) (S : xS) (hs : s_X8_readBench S) : Met l yX8_readBench wsX8_readBench ({ frames := 3, cells := 0, slots := 0, locals := 64 } : Room) (va_Pc [.ref (X.2.1 1)] (xI X S)) (va_Qv (fun u : xS => u = (f_X8_readBench S)) (xI X) (xA X)) 0 0 (xA X) := sorry
theorem hd_X8_readWay : yX8_readWay.cls = RX8 ∧ yX8_readWay.cls ≠ "java/lang/invoke/MethodHandle" ∧ yX8_readWay.cls ≠ "java/lang/invoke/VarHandle" ∧ (parseMethodDescriptor yX8_readWay.desc).map (fun d => d.parameters.length) = some 0 := by decide +kernel
set_option maxHeartbeats 4000000 in
set_option maxRecDepth 100000 in
theorem k_X8_readWay (l : Launch) (X : xX) (S : xS) (hs : s_X8_readWay S) : Met l yX8_readWay wsX8_readWay ({ frames := 3, cells := 0, slots := 0, locals := 64 } : Room) (va_Pc [.ref (X.2.1 1)] (xI X S)) (va_Qv (fun u : xS => u = (f_X8_readWay S)) (xI X) (xA X)) 0 0 (xA X) := sorry
theorem hd_X8_readPerson : yX8_readPerson.cls = RX8 ∧ yX8_readPerson.cls ≠ "java/lang/invoke/MethodHandle" ∧ yX8_readPerson.cls ≠ "java/lang/invoke/VarHandle" ∧ (parseMethodDescriptor yX8_readPerson.desc).map (fun d => d.parameters.length) = some 0 := by decide +kernel
set_option maxHeartbeats 4000000 in
set_option maxRecDepth 100000 in
theorem k_X8_readPerson (l : Launch) (X : xX) (S : xS) (hs : s_X8_readPerson S) : Met l yX8_readPerson wsX8_readPerson ({ frames := 3, cells := 0, slots := 0, locals := 64 } : Room) (va_Pc [.ref (X.2.1 1)] (xI X S)) (va_Qv (fun u : xS => u = (f_X8_readPerson S)) (xI X) (xA X)) 0 0 (xA X) := sorry
theorem hd_X8_readLiking : yX8_readLiking.cls = RX8 ∧ yX8_readLiking.cls ≠ "java/lang/invoke/MethodHandle" ∧ yX8_readLiking.cls ≠ "java/lang/invoke/VarHandle" ∧ (parseMethodDescriptor yX8_readLiking.desc).map (fun d => d.parameters.length) = some 0 := by decide +kernel
set_option maxHeartbeats 4000000 in
set_option maxRecDepth 100000 in
theorem k_X8_readLiking (l : Launch) (X : xX) (S : xS) (hs : s_X8_readLiking S) : Met l yX8_readLiking wsX8_readLiking ({ frames := 3, cells := 0, slots := 0, locals := 64 } : Room) (va_Pc [.ref (X.2.1 1)] (xI X S)) (va_Qv (fun u : xS => u = (f_X8_readLiking S)) (xI X) (xA X)) 0 0 (xA X) := sorry
theorem hd_X8_readEnd : yX8_readEnd.cls = RX8 ∧ yX8_readEnd.cls ≠ "java/lang/invoke/MethodHandle" ∧ yX8_readEnd.cls ≠ "java/lang/invoke/VarHandle" ∧ (parseMethodDescriptor yX8_readEnd.desc).map (fun d => d.parameters.length) = some 0 := by decide +kernel
set_option maxHeartbeats 4000000 in
set_option maxRecDepth 100000 in
theorem k_X8_readEnd (l : Launch) (X : xX) (S : xS) (hs : s_X8_readEnd S) : Met l yX8_readEnd wsX8_readEnd ({ frames := 2, cells := 0, slots := 0, locals := 40 } : Room) (va_Pc [.ref (X.2.1 1)] (xI X S)) (va_Qv (fun u : xS => u = (f_X8_readEnd S)) (xI X) (xA X)) 0 0 (xA X) := sorry
theorem hd_X8_readClause : yX8_readClause.cls = RX8 ∧ yX8_readClause.cls ≠ "java/lang/invoke/MethodHandle" ∧ yX8_readClause.cls ≠ "java/lang/invoke/VarHandle" ∧ (parseMethodDescriptor yX8_readClause.desc).map (fun d => d.parameters.length) = some 0 := by decide +kernel
set_option maxHeartbeats 4000000 in
set_option maxRecDepth 100000 in
theorem k_X8_readClause (l : Launch) (X : xX) (S : xS) (hs : s_X8_readClause S) : Met l yX8_readClause wsX8_readClause ({ frames := 4, cells := 0, slots := 0, locals := 87 } : Room) (va_Pc [.ref (X.2.1 1)] (xI X S)) (va_Qv (fun u : xS => u = (f_X8_readClause S)) (xI X) (xA X)) 0 0 (xA X) := sorry
theorem hd_X8_read : yX8_read.cls = RX8 ∧ yX8_read.cls ≠ "java/lang/invoke/MethodHandle" ∧ yX8_read.cls ≠ "java/lang/invoke/VarHandle" ∧ (parseMethodDescriptor yX8_read.desc).map (fun d => d.parameters.length) = some 0 := by decide +kernel
set_option maxHeartbeats 4000000 in
set_option maxRecDepth 100000 in
theorem k_X8_read (l : Launch) (X : xX) (S : xS) (hs : s_X8_read S) : Met l yX8_read wsX8_read ({ frames := 5, cells := 0, slots := 0, locals := 108 } : Room) (va_Pc [.ref (X.2.1 1)] (xI X S)) (va_Qi (fun (r : Int32) (u : xS) => r = (f_X8_read S).1 ∧ u = (f_X8_read S).2 ∧ (r = 0 ∨ r = 1)) (xI X) (xA X)) 0 0 (xA X) := sorry
theorem hd_X9_heardIn : yX9_heardIn.cls = RX9 ∧ yX9_heardIn.cls ≠ "java/lang/invoke/MethodHandle" ∧ yX9_heardIn.cls ≠ "java/lang/invoke/VarHandle" ∧ (parseMethodDescriptor yX9_heardIn.desc).map (fun d => d.parameters.length) = some 3 := by decide +kernel
set_option maxHeartbeats 4000000 in
set_option maxRecDepth 100000 in
theorem k_X9_heardIn (l : Launch) (X : xX) (S : xS) (p0 : Int32) (p1 : Int32) (p2 : Int32) : Met l yX9_heardIn wsX9_heardIn ({ frames := 3, cells := 0, slots := 0, locals := 70 } : Room) (va_Pc [.ref (X.2.1 16), .int p0, .int p1, .int p2] (xI X S)) (va_Qi (fun (r : Int32) (u : xS) => r = (f_X9_heardIn S p0 p1 p2) ∧ u = S) (xI X) (xA X)) 0 0 (xA X) := sorry
theorem hd_X9_warmBehind : yX9_warmBehind.cls = RX9 ∧ yX9_warmBehind.cls ≠ "java/lang/invoke/MethodHandle" ∧ yX9_warmBehind.cls ≠ "java/lang/invoke/VarHandle" ∧ (parseMethodDescriptor yX9_warmBehind.desc).map (fun d => d.parameters.length) = some 3 := by decide +kernel
set_option maxHeartbeats 4000000 in
set_option maxRecDepth 100000 in
theorem k_X9_warmBehind (l : Launch) (X : xX) (S : xS) (p0 : Int32) (p1 : Int32) (p2 : Int32) (hs : s_X9_warmBehind S p0 p1 p2) : Met l yX9_warmBehind wsX9_warmBehind ({ frames := 4, cells := 0, slots := 0, locals := 95 } : Room) (va_Pc [.ref (X.2.1 16), .int p0, .int p1, .int p2] (xI X S)) (va_Qi (fun (r : Int32) (u : xS) => r = (f_X9_warmBehind S p0 p1 p2) ∧ u = S) (xI X) (xA X)) 0 0 (xA X) := sorry
theorem hd_X9_warmestRoom : yX9_warmestRoom.cls = RX9 ∧ yX9_warmestRoom.cls ≠ "java/lang/invoke/MethodHandle" ∧ yX9_warmestRoom.cls ≠ "java/lang/invoke/VarHandle" ∧ (parseMethodDescriptor yX9_warmestRoom.desc).map (fun d => d.parameters.length) = some 2 := by decide +kernel
set_option maxHeartbeats 4000000 in
set_option maxRecDepth 100000 in
theorem k_X9_warmestRoom (l : Launch) (X : xX) (S : xS) (p0 : Int32) (p1 : Int32) (hs : s_X9_warmestRoom S p0 p1) : Met l yX9_warmestRoom wsX9_warmestRoom ({ frames := 5, cells := 0, slots := 0, locals := 120 } : Room) (va_Pc [.ref (X.2.1 16), .int p0, .int p1] (xI X S)) (va_Qi (fun (r : Int32) (u : xS) => r = (f_X9_warmestRoom S p0 p1) ∧ u = S) (xI X) (xA X)) 0 0 (xA X) := sorry
theorem hd_X9_worthOf : yX9_worthOf.cls = RX9 ∧ yX9_worthOf.cls ≠ "java/lang/invoke/MethodHandle" ∧ yX9_worthOf.cls ≠ "java/lang/invoke/VarHandle" ∧ (parseMethodDescriptor yX9_worthOf.desc).map (fun d => d.parameters.length) = some 1 := by decide +kernel
set_option maxHeartbeats 4000000 in
set_option maxRecDepth 100000 in
theorem k_X9_worthOf (l : Launch) (X : xX) (S : xS) (p0 : Int32) : Met l yX9_worthOf wsX9_worthOf ({ frames := 1, cells := 0, slots := 0, locals := 21 } : Room) (va_Pc [.ref (X.2.1 16), .int p0] (xI X S)) (va_Qi (fun (r : Int32) (u : xS) => r = (f_X9_worthOf S p0) ∧ u = S) (xI X) (xA X)) 0 0 (xA X) := sorry
theorem hd_X9_bestStep : yX9_bestStep.cls = RX9 ∧ yX9_bestStep.cls ≠ "java/lang/invoke/MethodHandle" ∧ yX9_bestStep.cls ≠ "java/lang/invoke/VarHandle" ∧ (parseMethodDescriptor yX9_bestStep.desc).map (fun d => d.parameters.length) = some 1 := by decide +kernel
set_option maxHeartbeats 4000000 in
set_option maxRecDepth 100000 in
theorem k_X9_bestStep (l : Launch) (X : xX) (S : xS) (p0 : Int32) (hs : s_X9_bestStep S p0) : Met l yX9_bestStep wsX9_bestStep ({ frames := 2, cells := 0, slots := 0, locals := 43 } : Room) (va_Pc [.ref (X.2.1 16), .int p0] (xI X S)) (va_Qi (fun (r : Int32) (u : xS) => r = (f_X9_bestStep S p0) ∧ u = S) (xI X) (xA X)) 0 0 (xA X) := sorry
theorem hd_X9_firstOfRoute : yX9_firstOfRoute.cls = RX9 ∧ yX9_firstOfRoute.cls ≠ "java/lang/invoke/MethodHandle" ∧ yX9_firstOfRoute.cls ≠ "java/lang/invoke/VarHandle" ∧ (parseMethodDescriptor yX9_firstOfRoute.desc).map (fun d => d.parameters.length) = some 2 := by decide +kernel
set_option maxHeartbeats 4000000 in
set_option maxRecDepth 100000 in
theorem k_X9_firstOfRoute (l : Launch) (X : xX) (S : xS) (p0 : Int32) (p1 : Int32) (hs : s_X9_firstOfRoute S p0 p1) : Met l yX9_firstOfRoute wsX9_firstOfRoute ({ frames := 4, cells := 0, slots := 0, locals := 95 } : Room) (va_Pc [.ref (X.2.1 16), .int p0, .int p1] (xI X S)) (va_Qi (fun (r : Int32) (u : xS) => r = (f_X9_firstOfRoute S p0 p1).1 ∧ u = (f_X9_firstOfRoute S p0 p1).2) (xI X) (xA X)) 0 0 (xA X) := sorry
theorem hd_X9_saidTogether : yX9_saidTogether.cls = RX9 ∧ yX9_saidTogether.cls ≠ "java/lang/invoke/MethodHandle" ∧ yX9_saidTogether.cls ≠ "java/lang/invoke/VarHandle" ∧ (parseMethodDescriptor yX9_saidTogether.desc).map (fun d => d.parameters.length) = some 2 := by decide +kernel
set_option maxHeartbeats 4000000 in
set_option maxRecDepth 100000 in
theorem k_X9_saidTogether (l : Launch) (X : xX) (S : xS) (p0 : Int32) (p1 : Int32) (hs : s_X9_saidTogether S p0 p1) : Met l yX9_saidTogether wsX9_saidTogether ({ frames := 3, cells := 0, slots := 0, locals := 70 } : Room) (va_Pc [.ref (X.2.1 16), .int p0, .int p1] (xI X S)) (va_Qi (fun (r : Int32) (u : xS) => r = (f_X9_saidTogether S p0 p1) ∧ u = S) (xI X) (xA X)) 0 0 (xA X) := sorry
theorem hs_X10_isSmaller : yX10_isSmaller.cls ≠ "java/lang/invoke/MethodHandle" ∧ yX10_isSmaller.cls ≠ "java/lang/invoke/VarHandle" ∧ (parseMethodDescriptor yX10_isSmaller.desc).map (fun d => d.parameters.length) = some 2 := by decide +kernel
set_option maxHeartbeats 4000000 in
set_option maxRecDepth 100000 in
theorem k_X10_isSmaller (l : Launch) (X : xX) (S : xS) (p0 : Int32) (p1 : Int32) : Met l yX10_isSmaller wsX10_isSmaller ({ frames := 1, cells := 0, slots := 0, locals := 20 } : Room) (va_Pc [.int p0, .int p1] (xI X S)) (va_Qi (fun (r : Int32) (u : xS) => (r = (f_X10_isSmaller S p0 p1) ∧ (r = 0 ∨ r = 1)) ∧ u = S) (xI X) (xA X)) 0 0 (xA X) := sorry
theorem hd_X9_bestLeavers : yX9_bestLeavers.cls = RX9 ∧ yX9_bestLeavers.cls ≠ "java/lang/invoke/MethodHandle" ∧ yX9_bestLeavers.cls ≠ "java/lang/invoke/VarHandle" ∧ (parseMethodDescriptor yX9_bestLeavers.desc).map (fun d => d.parameters.length) = some 1 := by decide +kernel
set_option maxHeartbeats 4000000 in
set_option maxRecDepth 100000 in
theorem k_X9_bestLeavers (l : Launch) (X : xX) (S : xS) (p0 : Int32) (hs : s_X9_bestLeavers S p0) : Met l yX9_bestLeavers wsX9_bestLeavers ({ frames := 4, cells := 0, slots := 0, locals := 97 } : Room) (va_Pc [.ref (X.2.1 16), .int p0] (xI X S)) (va_Qi (fun (r : Int32) (u : xS) => r = (f_X9_bestLeavers S p0) ∧ u = S) (xI X) (xA X)) 0 0 (xA X) := sorry
theorem hd_X9_saidOf : yX9_saidOf.cls = RX9 ∧ yX9_saidOf.cls ≠ "java/lang/invoke/MethodHandle" ∧ yX9_saidOf.cls ≠ "java/lang/invoke/VarHandle" ∧ (parseMethodDescriptor yX9_saidOf.desc).map (fun d => d.parameters.length) = some 1 := by decide +kernel
set_option maxHeartbeats 4000000 in
set_option maxRecDepth 100000 in
theorem k_X9_saidOf (l : Launch) (X : xX) (S : xS) (p0 : Int32) (hs : s_X9_saidOf S p0) : Met l yX9_saidOf wsX9_saidOf ({ frames := 4, cells := 0, slots := 0, locals := 92 } : Room) (va_Pc [.ref (X.2.1 16), .int p0] (xI X S)) (va_Qi (fun (r : Int32) (u : xS) => r = (f_X9_saidOf S p0) ∧ u = S) (xI X) (xA X)) 0 0 (xA X) := sorry
theorem hd_X9_praised : yX9_praised.cls = RX9 ∧ yX9_praised.cls ≠ "java/lang/invoke/MethodHandle" ∧ yX9_praised.cls ≠ "java/lang/invoke/VarHandle" ∧ (parseMethodDescriptor yX9_praised.desc).map (fun d => d.parameters.length) = some 0 := by decide +kernel
set_option maxHeartbeats 4000000 in
set_option maxRecDepth 100000 in
theorem k_X9_praised (l : Launch) (X : xX) (S : xS) (hs : s_X9_praised S) : Met l yX9_praised wsX9_praised ({ frames := 5, cells := 0, slots := 0, locals := 115 } : Room) (va_Pc [.ref (X.2.1 16)] (xI X S)) (va_Qi (fun (r : Int32) (u : xS) => r = (f_X9_praised S) ∧ u = S) (xI X) (xA X)) 0 0 (xA X) := sorry
theorem hd_X9_isSilent : yX9_isSilent.cls = RX9 ∧ yX9_isSilent.cls ≠ "java/lang/invoke/MethodHandle" ∧ yX9_isSilent.cls ≠ "java/lang/invoke/VarHandle" ∧ (parseMethodDescriptor yX9_isSilent.desc).map (fun d => d.parameters.length) = some 2 := by decide +kernel
set_option maxHeartbeats 4000000 in
set_option maxRecDepth 100000 in
theorem k_X9_isSilent (l : Launch) (X : xX) (S : xS) (p0 : Int32) (p1 : Int32) : Met l yX9_isSilent wsX9_isSilent ({ frames := 4, cells := 0, slots := 0, locals := 92 } : Room) (va_Pc [.ref (X.2.1 16), .int p0, .int p1] (xI X S)) (va_Qi (fun (r : Int32) (u : xS) => (r = (f_X9_isSilent S p0 p1) ∧ (r = 0 ∨ r = 1)) ∧ u = S) (xI X) (xA X)) 0 0 (xA X) := sorry
theorem hd_X9_silentPairs : yX9_silentPairs.cls = RX9 ∧ yX9_silentPairs.cls ≠ "java/lang/invoke/MethodHandle" ∧ yX9_silentPairs.cls ≠ "java/lang/invoke/VarHandle" ∧ (parseMethodDescriptor yX9_silentPairs.desc).map (fun d => d.parameters.length) = some 0 := by decide +kernel
set_option maxHeartbeats 4000000 in
set_option maxRecDepth 100000 in
theorem k_X9_silentPairs (l : Launch) (X : xX) (S : xS) (hs : s_X9_silentPairs S) : Met l yX9_silentPairs wsX9_silentPairs ({ frames := 5, cells := 0, slots := 0, locals := 114 } : Room) (va_Pc [.ref (X.2.1 16)] (xI X S)) (va_Qi (fun (r : Int32) (u : xS) => r = (f_X9_silentPairs S) ∧ u = S) (xI X) (xA X)) 0 0 (xA X) := sorry
theorem hd_X9_silentPair : yX9_silentPair.cls = RX9 ∧ yX9_silentPair.cls ≠ "java/lang/invoke/MethodHandle" ∧ yX9_silentPair.cls ≠ "java/lang/invoke/VarHandle" ∧ (parseMethodDescriptor yX9_silentPair.desc).map (fun d => d.parameters.length) = some 1 := by decide +kernel
set_option maxHeartbeats 4000000 in
set_option maxRecDepth 100000 in
theorem k_X9_silentPair (l : Launch) (X : xX) (S : xS) (p0 : Int32) (hs : s_X9_silentPair S p0) : Met l yX9_silentPair wsX9_silentPair ({ frames := 5, cells := 0, slots := 0, locals := 114 } : Room) (va_Pc [.ref (X.2.1 16), .int p0] (xI X S)) (va_Qi (fun (r : Int32) (u : xS) => r = (f_X9_silentPair S p0) ∧ u = S) (xI X) (xA X)) 0 0 (xA X) := sorry
theorem hd_X9_covers : yX9_covers.cls = RX9 ∧ yX9_covers.cls ≠ "java/lang/invoke/MethodHandle" ∧ yX9_covers.cls ≠ "java/lang/invoke/VarHandle" ∧ (parseMethodDescriptor yX9_covers.desc).map (fun d => d.parameters.length) = some 1 := by decide +kernel
set_option maxHeartbeats 4000000 in
set_option maxRecDepth 100000 in
theorem k_X9_covers (l : Launch) (X : xX) (S : xS) (p0 : Int32) (hs : s_X9_covers S p0) : Met l yX9_covers wsX9_covers ({ frames := 1, cells := 0, slots := 0, locals := 21 } : Room) (va_Pc [.ref (X.2.1 16), .int p0] (xI X S)) (va_Qi (fun (r : Int32) (u : xS) => (r = (f_X9_covers S p0) ∧ (r = 0 ∨ r = 1)) ∧ u = S) (xI X) (xA X)) 0 0 (xA X) := sorry
theorem hd_X9_cover : yX9_cover.cls = RX9 ∧ yX9_cover.cls ≠ "java/lang/invoke/MethodHandle" ∧ yX9_cover.cls ≠ "java/lang/invoke/VarHandle" ∧ (parseMethodDescriptor yX9_cover.desc).map (fun d => d.parameters.length) = some 0 := by decide +kernel
set_option maxHeartbeats 4000000 in
set_option maxRecDepth 100000 in
theorem k_X9_cover (l : Launch) (X : xX) (S : xS) (hs : s_X9_cover S) : Met l yX9_cover wsX9_cover ({ frames := 2, cells := 0, slots := 0, locals := 43 } : Room) (va_Pc [.ref (X.2.1 16)] (xI X S)) (va_Qi (fun (r : Int32) (u : xS) => r = (f_X9_cover S) ∧ u = S) (xI X) (xA X)) 0 0 (xA X) := sorry
theorem hd_X9_spread : yX9_spread.cls = RX9 ∧ yX9_spread.cls ≠ "java/lang/invoke/MethodHandle" ∧ yX9_spread.cls ≠ "java/lang/invoke/VarHandle" ∧ (parseMethodDescriptor yX9_spread.desc).map (fun d => d.parameters.length) = some 1 := by decide +kernel
set_option maxHeartbeats 4000000 in
set_option maxRecDepth 100000 in
theorem k_X9_spread (l : Launch) (X : xX) (S : xS) (p0 : Int32) (hs : s_X9_spread S p0) : Met l yX9_spread wsX9_spread ({ frames := 2, cells := 0, slots := 0, locals := 44 } : Room) (va_Pc [.ref (X.2.1 16), .int p0] (xI X S)) (va_Qi (fun (r : Int32) (u : xS) => r = (f_X9_spread S p0) ∧ u = S) (xI X) (xA X)) 0 0 (xA X) := sorry
theorem hd_X9_knownBehind : yX9_knownBehind.cls = RX9 ∧ yX9_knownBehind.cls ≠ "java/lang/invoke/MethodHandle" ∧ yX9_knownBehind.cls ≠ "java/lang/invoke/VarHandle" ∧ (parseMethodDescriptor yX9_knownBehind.desc).map (fun d => d.parameters.length) = some 2 := by decide +kernel
set_option maxHeartbeats 4000000 in
set_option maxRecDepth 100000 in
theorem k_X9_knownBehind (l : Launch) (X : xX) (S : xS) (p0 : Int32) (p1 : Int32) (hs : s_X9_knownBehind S p0 p1) : Met l yX9_knownBehind wsX9_knownBehind ({ frames := 3, cells := 0, slots := 0, locals := 68 } : Room) (va_Pc [.ref (X.2.1 16), .int p0, .int p1] (xI X S)) (va_Qi (fun (r : Int32) (u : xS) => r = (f_X9_knownBehind S p0 p1) ∧ u = S) (xI X) (xA X)) 0 0 (xA X) := sorry
theorem hd_X9_hoursTillAllKnow : yX9_hoursTillAllKnow.cls = RX9 ∧ yX9_hoursTillAllKnow.cls ≠ "java/lang/invoke/MethodHandle" ∧ yX9_hoursTillAllKnow.cls ≠ "java/lang/invoke/VarHandle" ∧ (parseMethodDescriptor yX9_hoursTillAllKnow.desc).map (fun d => d.parameters.length) = some 1 := by decide +kernel
set_option maxHeartbeats 4000000 in
set_option maxRecDepth 100000 in
theorem k_X9_hoursTillAllKnow (l : Launch) (X : xX) (S : xS) (p0 : Int32) (hs : s_X9_hoursTillAllKnow S p0) : Met l yX9_hoursTillAllKnow wsX9_hoursTillAllKnow ({ frames := 3, cells := 0, slots := 0, locals := 68 } : Room) (va_Pc [.ref (X.2.1 16), .int p0] (xI X S)) (va_Qi (fun (r : Int32) (u : xS) => r = (f_X9_hoursTillAllKnow S p0) ∧ u = S) (xI X) (xA X)) 0 0 (xA X) := sorry
theorem hd_X9_listeningRooms : yX9_listeningRooms.cls = RX9 ∧ yX9_listeningRooms.cls ≠ "java/lang/invoke/MethodHandle" ∧ yX9_listeningRooms.cls ≠ "java/lang/invoke/VarHandle" ∧ (parseMethodDescriptor yX9_listeningRooms.desc).map (fun d => d.parameters.length) = some 3 := by decide +kernel
set_option maxHeartbeats 4000000 in
set_option maxRecDepth 100000 in
theorem k_X9_listeningRooms (l : Launch) (X : xX) (S : xS) (p0 : Int32) (p1 : Int32) (p2 : Int32) (hs : s_X9_listeningRooms S p0 p1 p2) : Met l yX9_listeningRooms wsX9_listeningRooms ({ frames := 3, cells := 0, slots := 0, locals := 70 } : Room) (va_Pc [.ref (X.2.1 16), .int p0, .int p1, .int p2] (xI X S)) (va_Qi (fun (r : Int32) (u : xS) => r = (f_X9_listeningRooms S p0 p1 p2) ∧ u = S) (xI X) (xA X)) 0 0 (xA X) := sorry
theorem hd_X10_feed : yX10_feed.cls = RX10 ∧ yX10_feed.cls ≠ "java/lang/invoke/MethodHandle" ∧ yX10_feed.cls ≠ "java/lang/invoke/VarHandle" ∧ (parseMethodDescriptor yX10_feed.desc).map (fun d => d.parameters.length) = some 1 := by decide +kernel
set_option maxHeartbeats 4000000 in
set_option maxRecDepth 100000 in
theorem k_X10_feed (l : Launch) (X : xX) (S : xS) (p0 : Int32) : Met l yX10_feed wsX10_feed ({ frames := 2, cells := 0, slots := 0, locals := 43 } : Room) (va_Pc [.ref (X.2.1 0), .int p0] (xI X S)) (va_Qi (fun (r : Int32) (u : xS) => r = (f_X10_feed S p0).1 ∧ u = (f_X10_feed S p0).2) (xI X) (xA X)) 0 0 (xA X) := sorry
theorem hd_X10_hill : yX10_hill.cls = RX10 ∧ yX10_hill.cls ≠ "java/lang/invoke/MethodHandle" ∧ yX10_hill.cls ≠ "java/lang/invoke/VarHandle" ∧ (parseMethodDescriptor yX10_hill.desc).map (fun d => d.parameters.length) = some 0 := by decide +kernel
set_option maxHeartbeats 4000000 in
set_option maxRecDepth 100000 in
theorem k_X10_hill (l : Launch) (X : xX) (S : xS) (hs : s_X10_hill S) : Met l yX10_hill wsX10_hill ({ frames := 6, cells := 0, slots := 0, locals := 129 } : Room) (va_Pc [.ref (X.2.1 0)] (xI X S)) (va_Qi (fun (r : Int32) (u : xS) => r = (f_X10_hill S).1 ∧ u = (f_X10_hill S).2) (xI X) (xA X)) 0 0 (xA X) := sorry
theorem hd_X10_fault : yX10_fault.cls = RX10 ∧ yX10_fault.cls ≠ "java/lang/invoke/MethodHandle" ∧ yX10_fault.cls ≠ "java/lang/invoke/VarHandle" ∧ (parseMethodDescriptor yX10_fault.desc).map (fun d => d.parameters.length) = some 0 := by decide +kernel
set_option maxHeartbeats 4000000 in
set_option maxRecDepth 100000 in
theorem k_X10_fault (l : Launch) (X : xX) (S : xS) : Met l yX10_fault wsX10_fault ({ frames := 0, cells := 0, slots := 0, locals := 0 } : Room) (va_Pc [.ref (X.2.1 0)] (xI X S)) (va_Qi (fun (r : Int32) (u : xS) => r = (f_X10_fault S) ∧ u = S) (xI X) (xA X)) 0 0 (xA X) := sorry
theorem hd_X10_told : yX10_told.cls = RX10 ∧ yX10_told.cls ≠ "java/lang/invoke/MethodHandle" ∧ yX10_told.cls ≠ "java/lang/invoke/VarHandle" ∧ (parseMethodDescriptor yX10_told.desc).map (fun d => d.parameters.length) = some 1 := by decide +kernel
set_option maxHeartbeats 4000000 in
set_option maxRecDepth 100000 in
theorem k_X10_told (l : Launch) (X : xX) (S : xS) (p0 : Int32) (hs : s_X10_told S p0) : Met l yX10_told wsX10_told ({ frames := 6, cells := 0, slots := 0, locals := 139 } : Room) (va_Pc [.ref (X.2.1 0), .int p0] (xI X S)) (va_Qi (fun (r : Int32) (u : xS) => r = (f_X10_told S p0) ∧ u = S) (xI X) (xA X)) 0 0 (xA X) := sorry
theorem hd_X10_room : yX10_room.cls = RX10 ∧ yX10_room.cls ≠ "java/lang/invoke/MethodHandle" ∧ yX10_room.cls ≠ "java/lang/invoke/VarHandle" ∧ (parseMethodDescriptor yX10_room.desc).map (fun d => d.parameters.length) = some 2 := by decide +kernel
set_option maxHeartbeats 4000000 in
set_option maxRecDepth 100000 in
theorem k_X10_room (l : Launch) (X : xX) (S : xS) (p0 : Int32) (p1 : Int32) (hs : s_X10_room S p0 p1) : Met l yX10_room wsX10_room ({ frames := 2, cells := 0, slots := 0, locals := 44 } : Room) (va_Pc [.ref (X.2.1 0), .int p0, .int p1] (xI X S)) (va_Qi (fun (r : Int32) (u : xS) => r = (f_X10_room S p0 p1) ∧ u = S) (xI X) (xA X)) 0 0 (xA X) := sorry
theorem hd_X10_person : yX10_person.cls = RX10 ∧ yX10_person.cls ≠ "java/lang/invoke/MethodHandle" ∧ yX10_person.cls ≠ "java/lang/invoke/VarHandle" ∧ (parseMethodDescriptor yX10_person.desc).map (fun d => d.parameters.length) = some 2 := by decide +kernel
set_option maxHeartbeats 4000000 in
set_option maxRecDepth 100000 in
theorem k_X10_person (l : Launch) (X : xX) (S : xS) (p0 : Int32) (p1 : Int32) : Met l yX10_person wsX10_person ({ frames := 1, cells := 0, slots := 0, locals := 21 } : Room) (va_Pc [.ref (X.2.1 0), .int p0, .int p1] (xI X S)) (va_Qi (fun (r : Int32) (u : xS) => r = (f_X10_person S p0 p1) ∧ u = S) (xI X) (xA X)) 0 0 (xA X) := sorry
theorem hd_X10_liking : yX10_liking.cls = RX10 ∧ yX10_liking.cls ≠ "java/lang/invoke/MethodHandle" ∧ yX10_liking.cls ≠ "java/lang/invoke/VarHandle" ∧ (parseMethodDescriptor yX10_liking.desc).map (fun d => d.parameters.length) = some 2 := by decide +kernel
set_option maxHeartbeats 4000000 in
set_option maxRecDepth 100000 in
theorem k_X10_liking (l : Launch) (X : xX) (S : xS) (p0 : Int32) (p1 : Int32) : Met l yX10_liking wsX10_liking ({ frames := 2, cells := 0, slots := 0, locals := 43 } : Room) (va_Pc [.ref (X.2.1 0), .int p0, .int p1] (xI X S)) (va_Qi (fun (r : Int32) (u : xS) => r = (f_X10_liking S p0 p1) ∧ u = S) (xI X) (xA X)) 0 0 (xA X) := sorry
theorem hd_X10_said : yX10_said.cls = RX10 ∧ yX10_said.cls ≠ "java/lang/invoke/MethodHandle" ∧ yX10_said.cls ≠ "java/lang/invoke/VarHandle" ∧ (parseMethodDescriptor yX10_said.desc).map (fun d => d.parameters.length) = some 3 := by decide +kernel
set_option maxHeartbeats 4000000 in
set_option maxRecDepth 100000 in
theorem k_X10_said (l : Launch) (X : xX) (S : xS) (p0 : Int32) (p1 : Int32) (p2 : Int32) : Met l yX10_said wsX10_said ({ frames := 4, cells := 0, slots := 0, locals := 92 } : Room) (va_Pc [.ref (X.2.1 0), .int p0, .int p1, .int p2] (xI X S)) (va_Qi (fun (r : Int32) (u : xS) => r = (f_X10_said S p0 p1 p2) ∧ u = S) (xI X) (xA X)) 0 0 (xA X) := sorry
theorem hd_X10_refusalOfHours : yX10_refusalOfHours.cls = RX10 ∧ yX10_refusalOfHours.cls ≠ "java/lang/invoke/MethodHandle" ∧ yX10_refusalOfHours.cls ≠ "java/lang/invoke/VarHandle" ∧ (parseMethodDescriptor yX10_refusalOfHours.desc).map (fun d => d.parameters.length) = some 1 := by decide +kernel
set_option maxHeartbeats 4000000 in
set_option maxRecDepth 100000 in
theorem k_X10_refusalOfHours (l : Launch) (X : xX) (S : xS) (p0 : Int32) : Met l yX10_refusalOfHours wsX10_refusalOfHours ({ frames := 1, cells := 0, slots := 0, locals := 22 } : Room) (va_Pc [.ref (X.2.1 0), .int p0] (xI X S)) (va_Qi (fun (r : Int32) (u : xS) => r = (f_X10_refusalOfHours S p0) ∧ u = S) (xI X) (xA X)) 0 0 (xA X) := sorry
theorem hd_X10_hour : yX10_hour.cls = RX10 ∧ yX10_hour.cls ≠ "java/lang/invoke/MethodHandle" ∧ yX10_hour.cls ≠ "java/lang/invoke/VarHandle" ∧ (parseMethodDescriptor yX10_hour.desc).map (fun d => d.parameters.length) = some 1 := by decide +kernel
set_option maxHeartbeats 4000000 in
set_option maxRecDepth 100000 in
theorem k_X10_hour (l : Launch) (X : xX) (S : xS) (p0 : Int32) (hs : s_X10_hour S p0) : Met l yX10_hour wsX10_hour ({ frames := 5, cells := 0, slots := 0, locals := 114 } : Room) (va_Pc [.ref (X.2.1 0), .int p0] (xI X S)) (va_Qi (fun (r : Int32) (u : xS) => r = (f_X10_hour S p0).1 ∧ u = (f_X10_hour S p0).2) (xI X) (xA X)) 0 0 (xA X) := sorry
theorem hd_X10_go : yX10_go.cls = RX10 ∧ yX10_go.cls ≠ "java/lang/invoke/MethodHandle" ∧ yX10_go.cls ≠ "java/lang/invoke/VarHandle" ∧ (parseMethodDescriptor yX10_go.desc).map (fun d => d.parameters.length) = some 2 := by decide +kernel
set_option maxHeartbeats 4000000 in
set_option maxRecDepth 100000 in
theorem k_X10_go (l : Launch) (X : xX) (S : xS) (p0 : Int32) (p1 : Int32) (hs : s_X10_go S p0 p1) : Met l yX10_go wsX10_go ({ frames := 4, cells := 0, slots := 0, locals := 104 } : Room) (va_Pc [.ref (X.2.1 0), .int p0, .int p1] (xI X S)) (va_Qi (fun (r : Int32) (u : xS) => r = (f_X10_go S p0 p1).1 ∧ u = (f_X10_go S p0 p1).2) (xI X) (xA X)) 0 0 (xA X) := sorry
theorem hd_X10_cough : yX10_cough.cls = RX10 ∧ yX10_cough.cls ≠ "java/lang/invoke/MethodHandle" ∧ yX10_cough.cls ≠ "java/lang/invoke/VarHandle" ∧ (parseMethodDescriptor yX10_cough.desc).map (fun d => d.parameters.length) = some 1 := by decide +kernel
set_option maxHeartbeats 4000000 in
set_option maxRecDepth 100000 in
theorem k_X10_cough (l : Launch) (X : xX) (S : xS) (p0 : Int32) (hs : s_X10_cough S p0) : Met l yX10_cough wsX10_cough ({ frames := 4, cells := 0, slots := 0, locals := 104 } : Room) (va_Pc [.ref (X.2.1 0), .int p0] (xI X S)) (va_Qi (fun (r : Int32) (u : xS) => r = (f_X10_cough S p0).1 ∧ u = (f_X10_cough S p0).2) (xI X) (xA X)) 0 0 (xA X) := sorry
theorem hd_X10_like : yX10_like.cls = RX10 ∧ yX10_like.cls ≠ "java/lang/invoke/MethodHandle" ∧ yX10_like.cls ≠ "java/lang/invoke/VarHandle" ∧ (parseMethodDescriptor yX10_like.desc).map (fun d => d.parameters.length) = some 3 := by decide +kernel
set_option maxHeartbeats 4000000 in
set_option maxRecDepth 100000 in
theorem k_X10_like (l : Launch) (X : xX) (S : xS) (p0 : Int32) (p1 : Int32) (p2 : Int32) (hs : s_X10_like S p0 p1 p2) : Met l yX10_like wsX10_like ({ frames := 4, cells := 0, slots := 0, locals := 104 } : Room) (va_Pc [.ref (X.2.1 0), .int p0, .int p1, .int p2] (xI X S)) (va_Qi (fun (r : Int32) (u : xS) => r = (f_X10_like S p0 p1 p2).1 ∧ u = (f_X10_like S p0 p1 p2).2) (xI X) (xA X)) 0 0 (xA X) := sorry
theorem hd_X10_drawDeed : yX10_drawDeed.cls = RX10 ∧ yX10_drawDeed.cls ≠ "java/lang/invoke/MethodHandle" ∧ yX10_drawDeed.cls ≠ "java/lang/invoke/VarHandle" ∧ (parseMethodDescriptor yX10_drawDeed.desc).map (fun d => d.parameters.length) = some 0 := by decide +kernel
set_option maxHeartbeats 4000000 in
set_option maxRecDepth 100000 in
theorem k_X10_drawDeed (l : Launch) (X : xX) (S : xS) : Met l yX10_drawDeed wsX10_drawDeed ({ frames := 2, cells := 0, slots := 0, locals := 43 } : Room) (va_Pc [.ref (X.2.1 0)] (xI X S)) (va_Qv (fun u : xS => u = (f_X10_drawDeed S)) (xI X) (xA X)) 0 0 (xA X) := sorry
theorem hd_X10_drift : yX10_drift.cls = RX10 ∧ yX10_drift.cls ≠ "java/lang/invoke/MethodHandle" ∧ yX10_drift.cls ≠ "java/lang/invoke/VarHandle" ∧ (parseMethodDescriptor yX10_drift.desc).map (fun d => d.parameters.length) = some 1 := by decide +kernel
set_option maxHeartbeats 4000000 in
set_option maxRecDepth 100000 in
theorem k_X10_drift (l : Launch) (X : xX) (S : xS) (p0 : Int32) (hs : s_X10_drift S p0) : Met l yX10_drift wsX10_drift ({ frames := 5, cells := 0, slots := 0, locals := 114 } : Room) (va_Pc [.ref (X.2.1 0), .int p0] (xI X S)) (va_Qi (fun (r : Int32) (u : xS) => r = (f_X10_drift S p0).1 ∧ u = (f_X10_drift S p0).2) (xI X) (xA X)) 0 0 (xA X) := sorry
theorem hd_X10_undo : yX10_undo.cls = RX10 ∧ yX10_undo.cls ≠ "java/lang/invoke/MethodHandle" ∧ yX10_undo.cls ≠ "java/lang/invoke/VarHandle" ∧ (parseMethodDescriptor yX10_undo.desc).map (fun d => d.parameters.length) = some 0 := by decide +kernel
set_option maxHeartbeats 4000000 in
set_option maxRecDepth 100000 in
theorem k_X10_undo (l : Launch) (X : xX) (S : xS) (hs : s_X10_undo S) : Met l yX10_undo wsX10_undo ({ frames := 4, cells := 0, slots := 0, locals := 105 } : Room) (va_Pc [.ref (X.2.1 0)] (xI X S)) (va_Qi (fun (r : Int32) (u : xS) => r = (f_X10_undo S).1 ∧ u = (f_X10_undo S).2) (xI X) (xA X)) 0 0 (xA X) := sorry
theorem hd_X10_warm : yX10_warm.cls = RX10 ∧ yX10_warm.cls ≠ "java/lang/invoke/MethodHandle" ∧ yX10_warm.cls ≠ "java/lang/invoke/VarHandle" ∧ (parseMethodDescriptor yX10_warm.desc).map (fun d => d.parameters.length) = some 2 := by decide +kernel
set_option maxHeartbeats 4000000 in
set_option maxRecDepth 100000 in
theorem k_X10_warm (l : Launch) (X : xX) (S : xS) (p0 : Int32) (p1 : Int32) (hs : s_X10_warm S p0 p1) : Met l yX10_warm wsX10_warm ({ frames := 5, cells := 0, slots := 0, locals := 120 } : Room) (va_Pc [.ref (X.2.1 0), .int p0, .int p1] (xI X S)) (va_Qi (fun (r : Int32) (u : xS) => r = (f_X10_warm S p0 p1) ∧ u = S) (xI X) (xA X)) 0 0 (xA X) := sorry
theorem hd_X10_bestRoom : yX10_bestRoom.cls = RX10 ∧ yX10_bestRoom.cls ≠ "java/lang/invoke/MethodHandle" ∧ yX10_bestRoom.cls ≠ "java/lang/invoke/VarHandle" ∧ (parseMethodDescriptor yX10_bestRoom.desc).map (fun d => d.parameters.length) = some 3 := by decide +kernel
set_option maxHeartbeats 4000000 in
set_option maxRecDepth 100000 in
theorem k_X10_bestRoom (l : Launch) (X : xX) (S : xS) (p0 : Int32) (p1 : Int32) (p2 : Int32) (hs : s_X10_bestRoom S p0 p1 p2) : Met l yX10_bestRoom wsX10_bestRoom ({ frames := 6, cells := 0, slots := 0, locals := 146 } : Room) (va_Pc [.ref (X.2.1 0), .int p0, .int p1, .int p2] (xI X S)) (va_Qi (fun (r : Int32) (u : xS) => r = (f_X10_bestRoom S p0 p1 p2) ∧ u = S) (xI X) (xA X)) 0 0 (xA X) := sorry
theorem hd_X10_route : yX10_route.cls = RX10 ∧ yX10_route.cls ≠ "java/lang/invoke/MethodHandle" ∧ yX10_route.cls ≠ "java/lang/invoke/VarHandle" ∧ (parseMethodDescriptor yX10_route.desc).map (fun d => d.parameters.length) = some 3 := by decide +kernel
set_option maxHeartbeats 4000000 in
set_option maxRecDepth 100000 in
theorem k_X10_route (l : Launch) (X : xX) (S : xS) (p0 : Int32) (p1 : Int32) (p2 : Int32) (hs : s_X10_route S p0 p1 p2) : Met l yX10_route wsX10_route ({ frames := 5, cells := 0, slots := 0, locals := 119 } : Room) (va_Pc [.ref (X.2.1 0), .int p0, .int p1, .int p2] (xI X S)) (va_Qi (fun (r : Int32) (u : xS) => r = (f_X10_route S p0 p1 p2).1 ∧ u = (f_X10_route S p0 p1 p2).2) (xI X) (xA X)) 0 0 (xA X) := sorry
theorem hd_X10_leavers : yX10_leavers.cls = RX10 ∧ yX10_leavers.cls ≠ "java/lang/invoke/MethodHandle" ∧ yX10_leavers.cls ≠ "java/lang/invoke/VarHandle" ∧ (parseMethodDescriptor yX10_leavers.desc).map (fun d => d.parameters.length) = some 2 := by decide +kernel
set_option maxHeartbeats 4000000 in
set_option maxRecDepth 100000 in
theorem k_X10_leavers (l : Launch) (X : xX) (S : xS) (p0 : Int32) (p1 : Int32) (hs : s_X10_leavers S p0 p1) : Met l yX10_leavers wsX10_leavers ({ frames := 5, cells := 0, slots := 0, locals := 122 } : Room) (va_Pc [.ref (X.2.1 0), .int p0, .int p1] (xI X S)) (va_Qi (fun (r : Int32) (u : xS) => r = (f_X10_leavers S p0 p1) ∧ u = S) (xI X) (xA X)) 0 0 (xA X) := sorry
theorem hd_X10_silent : yX10_silent.cls = RX10 ∧ yX10_silent.cls ≠ "java/lang/invoke/MethodHandle" ∧ yX10_silent.cls ≠ "java/lang/invoke/VarHandle" ∧ (parseMethodDescriptor yX10_silent.desc).map (fun d => d.parameters.length) = some 1 := by decide +kernel
set_option maxHeartbeats 4000000 in
set_option maxRecDepth 100000 in
theorem k_X10_silent (l : Launch) (X : xX) (S : xS) (p0 : Int32) (hs : s_X10_silent S p0) : Met l yX10_silent wsX10_silent ({ frames := 6, cells := 0, slots := 0, locals := 138 } : Room) (va_Pc [.ref (X.2.1 0), .int p0] (xI X S)) (va_Qi (fun (r : Int32) (u : xS) => r = (f_X10_silent S p0) ∧ u = S) (xI X) (xA X)) 0 0 (xA X) := sorry
theorem hd_X10_carried : yX10_carried.cls = RX10 ∧ yX10_carried.cls ≠ "java/lang/invoke/MethodHandle" ∧ yX10_carried.cls ≠ "java/lang/invoke/VarHandle" ∧ (parseMethodDescriptor yX10_carried.desc).map (fun d => d.parameters.length) = some 2 := by decide +kernel
set_option maxHeartbeats 4000000 in
set_option maxRecDepth 100000 in
theorem k_X10_carried (l : Launch) (X : xX) (S : xS) (p0 : Int32) (p1 : Int32) (hs : s_X10_carried S p0 p1) : Met l yX10_carried wsX10_carried ({ frames := 4, cells := 0, slots := 0, locals := 92 } : Room) (va_Pc [.ref (X.2.1 0), .int p0, .int p1] (xI X S)) (va_Qi (fun (r : Int32) (u : xS) => r = (f_X10_carried S p0 p1) ∧ u = S) (xI X) (xA X)) 0 0 (xA X) := sorry
theorem hd_X10_hale : yX10_hale.cls = RX10 ∧ yX10_hale.cls ≠ "java/lang/invoke/MethodHandle" ∧ yX10_hale.cls ≠ "java/lang/invoke/VarHandle" ∧ (parseMethodDescriptor yX10_hale.desc).map (fun d => d.parameters.length) = some 2 := by decide +kernel
set_option maxHeartbeats 4000000 in
set_option maxRecDepth 100000 in
theorem k_X10_hale (l : Launch) (X : xX) (S : xS) (p0 : Int32) (p1 : Int32) (hs : s_X10_hale S p0 p1) : Met l yX10_hale wsX10_hale ({ frames := 1, cells := 0, slots := 0, locals := 22 } : Room) (va_Pc [.ref (X.2.1 0), .int p0, .int p1] (xI X S)) (va_Qi (fun (r : Int32) (u : xS) => r = (f_X10_hale S p0 p1) ∧ u = S) (xI X) (xA X)) 0 0 (xA X) := sorry
theorem hd_X10_note : yX10_note.cls = RX10 ∧ yX10_note.cls ≠ "java/lang/invoke/MethodHandle" ∧ yX10_note.cls ≠ "java/lang/invoke/VarHandle" ∧ (parseMethodDescriptor yX10_note.desc).map (fun d => d.parameters.length) = some 3 := by decide +kernel
set_option maxHeartbeats 4000000 in
set_option maxRecDepth 100000 in
theorem k_X10_note (l : Launch) (X : xX) (S : xS) (p0 : Int32) (p1 : Int32) (p2 : Int32) : Met l yX10_note wsX10_note ({ frames := 2, cells := 0, slots := 0, locals := 45 } : Room) (va_Pc [.ref (X.2.1 0), .int p0, .int p1, .int p2] (xI X S)) (va_Qi (fun (r : Int32) (u : xS) => r = (f_X10_note S p0 p1 p2).1 ∧ u = (f_X10_note S p0 p1 p2).2) (xI X) (xA X)) 0 0 (xA X) := sorry
theorem hd_X10_thinks : yX10_thinks.cls = RX10 ∧ yX10_thinks.cls ≠ "java/lang/invoke/MethodHandle" ∧ yX10_thinks.cls ≠ "java/lang/invoke/VarHandle" ∧ (parseMethodDescriptor yX10_thinks.desc).map (fun d => d.parameters.length) = some 1 := by decide +kernel
set_option maxHeartbeats 4000000 in
set_option maxRecDepth 100000 in
theorem k_X10_thinks (l : Launch) (X : xX) (S : xS) (p0 : Int32) (hs : s_X10_thinks S p0) : Met l yX10_thinks wsX10_thinks ({ frames := 4, cells := 0, slots := 0, locals := 89 } : Room) (va_Pc [.ref (X.2.1 0), .int p0] (xI X S)) (va_Qi (fun (r : Int32) (u : xS) => r = (f_X10_thinks S p0) ∧ u = S) (xI X) (xA X)) 0 0 (xA X) := sorry
theorem hd_X10_ask : yX10_ask.cls = RX10 ∧ yX10_ask.cls ≠ "java/lang/invoke/MethodHandle" ∧ yX10_ask.cls ≠ "java/lang/invoke/VarHandle" ∧ (parseMethodDescriptor yX10_ask.desc).map (fun d => d.parameters.length) = some 1 := by decide +kernel
set_option maxHeartbeats 4000000 in
set_option maxRecDepth 100000 in
theorem k_X10_ask (l : Launch) (X : xX) (S : xS) (p0 : Int32) (hs : s_X10_ask S p0) : Met l yX10_ask wsX10_ask ({ frames := 4, cells := 0, slots := 0, locals := 91 } : Room) (va_Pc [.ref (X.2.1 0), .int p0] (xI X S)) (va_Qi (fun (r : Int32) (u : xS) => r = (f_X10_ask S p0) ∧ u = S) (xI X) (xA X)) 0 0 (xA X) := sorry
theorem hd_X10_listens : yX10_listens.cls = RX10 ∧ yX10_listens.cls ≠ "java/lang/invoke/MethodHandle" ∧ yX10_listens.cls ≠ "java/lang/invoke/VarHandle" ∧ (parseMethodDescriptor yX10_listens.desc).map (fun d => d.parameters.length) = some 3 := by decide +kernel
set_option maxHeartbeats 4000000 in
set_option maxRecDepth 100000 in
theorem k_X10_listens (l : Launch) (X : xX) (S : xS) (p0 : Int32) (p1 : Int32) (p2 : Int32) (hs : s_X10_listens S p0 p1 p2) : Met l yX10_listens wsX10_listens ({ frames := 4, cells := 0, slots := 0, locals := 95 } : Room) (va_Pc [.ref (X.2.1 0), .int p0, .int p1, .int p2] (xI X S)) (va_Qi (fun (r : Int32) (u : xS) => r = (f_X10_listens S p0 p1 p2) ∧ u = S) (xI X) (xA X)) 0 0 (xA X) := sorry
theorem hd_X10_write : yX10_write.cls = RX10 ∧ yX10_write.cls ≠ "java/lang/invoke/MethodHandle" ∧ yX10_write.cls ≠ "java/lang/invoke/VarHandle" ∧ (parseMethodDescriptor yX10_write.desc).map (fun d => d.parameters.length) = some 2 := by decide +kernel
set_option maxHeartbeats 4000000 in
set_option maxRecDepth 100000 in
theorem k_X10_write (l : Launch) (X : xX) (S : xS) (p0 : Int32) (p1 : Int32) : Met l yX10_write wsX10_write ({ frames := 2, cells := 0, slots := 0, locals := 44 } : Room) (va_Pc [.ref (X.2.1 0), .int p0, .int p1] (xI X S)) (va_Qi (fun (r : Int32) (u : xS) => r = (f_X10_write S p0 p1).1 ∧ u = (f_X10_write S p0 p1).2) (xI X) (xA X)) 0 0 (xA X) := sorry
theorem hd_X10_tear : yX10_tear.cls = RX10 ∧ yX10_tear.cls ≠ "java/lang/invoke/MethodHandle" ∧ yX10_tear.cls ≠ "java/lang/invoke/VarHandle" ∧ (parseMethodDescriptor yX10_tear.desc).map (fun d => d.parameters.length) = some 0 := by decide +kernel
set_option maxHeartbeats 4000000 in
set_option maxRecDepth 100000 in
theorem k_X10_tear (l : Launch) (X : xX) (S : xS) : Met l yX10_tear wsX10_tear ({ frames := 0, cells := 0, slots := 0, locals := 0 } : Room) (va_Pc [.ref (X.2.1 0)] (xI X S)) (va_Qi (fun (r : Int32) (u : xS) => r = (f_X10_tear S).1 ∧ u = (f_X10_tear S).2) (xI X) (xA X)) 0 0 (xA X) := sorry
theorem hd_X10_judge : yX10_judge.cls = RX10 ∧ yX10_judge.cls ≠ "java/lang/invoke/MethodHandle" ∧ yX10_judge.cls ≠ "java/lang/invoke/VarHandle" ∧ (parseMethodDescriptor yX10_judge.desc).map (fun d => d.parameters.length) = some 0 := by decide +kernel
set_option maxHeartbeats 4000000 in
set_option maxRecDepth 100000 in
theorem k_X10_judge (l : Launch) (X : xX) (S : xS) (hs : s_X10_judge S) : Met l yX10_judge wsX10_judge ({ frames := 2, cells := 0, slots := 0, locals := 43 } : Room) (va_Pc [.ref (X.2.1 0)] (xI X S)) (va_Qi (fun (r : Int32) (u : xS) => r = (f_X10_judge S) ∧ u = S) (xI X) (xA X)) 0 0 (xA X) := sorry
theorem hd_X10_seed : yX10_seed.cls = RX10 ∧ yX10_seed.cls ≠ "java/lang/invoke/MethodHandle" ∧ yX10_seed.cls ≠ "java/lang/invoke/VarHandle" ∧ (parseMethodDescriptor yX10_seed.desc).map (fun d => d.parameters.length) = some 1 := by decide +kernel
set_option maxHeartbeats 4000000 in
set_option maxRecDepth 100000 in
theorem k_X10_seed (l : Launch) (X : xX) (S : xS) (p0 : Int32) : Met l yX10_seed wsX10_seed ({ frames := 0, cells := 0, slots := 0, locals := 0 } : Room) (va_Pc [.ref (X.2.1 0), .int p0] (xI X S)) (va_Qi (fun (r : Int32) (u : xS) => r = (f_X10_seed S p0).1 ∧ u = (f_X10_seed S p0).2) (xI X) (xA X)) 0 0 (xA X) := sorry
theorem hd_X10_imageAt : yX10_imageAt.cls = RX10 ∧ yX10_imageAt.cls ≠ "java/lang/invoke/MethodHandle" ∧ yX10_imageAt.cls ≠ "java/lang/invoke/VarHandle" ∧ (parseMethodDescriptor yX10_imageAt.desc).map (fun d => d.parameters.length) = some 1 := by decide +kernel
set_option maxHeartbeats 4000000 in
set_option maxRecDepth 100000 in
theorem k_X10_imageAt (l : Launch) (X : xX) (S : xS) (p0 : Int32) : Met l yX10_imageAt wsX10_imageAt ({ frames := 0, cells := 0, slots := 0, locals := 0 } : Room) (va_Pc [.ref (X.2.1 0), .int p0] (xI X S)) (va_Qq (fun (r : Option Nat) (u : xS) => r = (f_X10_imageAt S p0).map X.2.1 ∧ u = S) (xI X) (xA X)) 0 0 (xA X) := sorry
theorem hd_X10_keep : yX10_keep.cls = RX10 ∧ yX10_keep.cls ≠ "java/lang/invoke/MethodHandle" ∧ yX10_keep.cls ≠ "java/lang/invoke/VarHandle" ∧ (parseMethodDescriptor yX10_keep.desc).map (fun d => d.parameters.length) = some 1 := by decide +kernel
set_option maxHeartbeats 4000000 in
set_option maxRecDepth 100000 in
theorem k_X10_keep (l : Launch) (X : xX) (S : xS) (p0 : Int32) (hs : s_X10_keep S p0) : Met l yX10_keep wsX10_keep ({ frames := 3, cells := 0, slots := 0, locals := 82 } : Room) (va_Pc [.ref (X.2.1 0), .int p0] (xI X S)) (va_Qi (fun (r : Int32) (u : xS) => r = (f_X10_keep S p0).1 ∧ u = (f_X10_keep S p0).2) (xI X) (xA X)) 0 0 (xA X) := sorry
theorem hd_X10_goBack : yX10_goBack.cls = RX10 ∧ yX10_goBack.cls ≠ "java/lang/invoke/MethodHandle" ∧ yX10_goBack.cls ≠ "java/lang/invoke/VarHandle" ∧ (parseMethodDescriptor yX10_goBack.desc).map (fun d => d.parameters.length) = some 1 := by decide +kernel
set_option maxHeartbeats 4000000 in
set_option maxRecDepth 100000 in
theorem k_X10_goBack (l : Launch) (X : xX) (S : xS) (p0 : Int32) (hs : s_X10_goBack S p0) : Met l yX10_goBack wsX10_goBack ({ frames := 3, cells := 0, slots := 0, locals := 82 } : Room) (va_Pc [.ref (X.2.1 0), .int p0] (xI X S)) (va_Qi (fun (r : Int32) (u : xS) => r = (f_X10_goBack S p0).1 ∧ u = (f_X10_goBack S p0).2) (xI X) (xA X)) 0 0 (xA X) := sorry
theorem hs_X11_in : yX11_in.cls ≠ "java/lang/invoke/MethodHandle" ∧ yX11_in.cls ≠ "java/lang/invoke/VarHandle" ∧ (parseMethodDescriptor yX11_in.desc).map (fun d => d.parameters.length) = some 3 := by decide +kernel
set_option maxHeartbeats 4000000 in
set_option maxRecDepth 100000 in
theorem k_X11_in (l : Launch) (X : xX) (S : xS) (p0 : Int64) (p1 : Int64) (p2 : Int64) : Met l yX11_in wsX11_in ({ frames := 0, cells := 0, slots := 0, locals := 0 } : Room) (va_Pc [.long p0, .long p1, .long p2] (xI X S)) (va_Qi (fun (r : Int32) (u : xS) => (r = (f_X11_in S p0 p1 p2) ∧ (r = 0 ∨ r = 1)) ∧ u = S) (xI X) (xA X)) 0 0 (xA X) := sorry
theorem hs_X11_has : yX11_has.cls ≠ "java/lang/invoke/MethodHandle" ∧ yX11_has.cls ≠ "java/lang/invoke/VarHandle" ∧ (parseMethodDescriptor yX11_has.desc).map (fun d => d.parameters.length) = some 2 := by decide +kernel
set_option maxHeartbeats 4000000 in
set_option maxRecDepth 100000 in
theorem k_X11_has (l : Launch) (X : xX) (S : xS) (p0 : Int32) (p1 : Int32) : Met l yX11_has wsX11_has ({ frames := 0, cells := 0, slots := 0, locals := 0 } : Room) (va_Pc [.int p0, .int p1] (xI X S)) (va_Qi (fun (r : Int32) (u : xS) => (r = (f_X11_has S p0 p1) ∧ (r = 0 ∨ r = 1)) ∧ u = S) (xI X) (xA X)) 0 0 (xA X) := sorry
theorem hs_X11_ones : yX11_ones.cls ≠ "java/lang/invoke/MethodHandle" ∧ yX11_ones.cls ≠ "java/lang/invoke/VarHandle" ∧ (parseMethodDescriptor yX11_ones.desc).map (fun d => d.parameters.length) = some 1 := by decide +kernel
set_option maxHeartbeats 4000000 in
set_option maxRecDepth 100000 in
theorem k_X11_ones (l : Launch) (X : xX) (S : xS) (p0 : Int32) (hs : s_X11_ones S p0) : Met l yX11_ones wsX11_ones ({ frames := 0, cells := 0, slots := 0, locals := 0 } : Room) (va_Pc [.int p0] (xI X S)) (va_Qi (fun (r : Int32) (u : xS) => r = (f_X11_ones S p0) ∧ u = S) (xI X) (xA X)) 0 0 (xA X) := sorry
theorem hd_X11_isRoom : yX11_isRoom.cls = RX11 ∧ yX11_isRoom.cls ≠ "java/lang/invoke/MethodHandle" ∧ yX11_isRoom.cls ≠ "java/lang/invoke/VarHandle" ∧ (parseMethodDescriptor yX11_isRoom.desc).map (fun d => d.parameters.length) = some 1 := by decide +kernel
set_option maxHeartbeats 4000000 in
set_option maxRecDepth 100000 in
theorem k_X11_isRoom (l : Launch) (X : xX) (S : xS) (p0 : Int32) : Met l yX11_isRoom wsX11_isRoom ({ frames := 1, cells := 0, slots := 0, locals := 25 } : Room) (va_Pc [.ref (X.2.1 127), .int p0] (xI X S)) (va_Qi (fun (r : Int32) (u : xS) => (r = (f_X11_isRoom S p0) ∧ (r = 0 ∨ r = 1)) ∧ u = S) (xI X) (xA X)) 0 0 (xA X) := sorry
theorem hd_X11_isPerson : yX11_isPerson.cls = RX11 ∧ yX11_isPerson.cls ≠ "java/lang/invoke/MethodHandle" ∧ yX11_isPerson.cls ≠ "java/lang/invoke/VarHandle" ∧ (parseMethodDescriptor yX11_isPerson.desc).map (fun d => d.parameters.length) = some 1 := by decide +kernel
set_option maxHeartbeats 4000000 in
set_option maxRecDepth 100000 in
theorem k_X11_isPerson (l : Launch) (X : xX) (S : xS) (p0 : Int32) : Met l yX11_isPerson wsX11_isPerson ({ frames := 1, cells := 0, slots := 0, locals := 25 } : Room) (va_Pc [.ref (X.2.1 127), .int p0] (xI X S)) (va_Qi (fun (r : Int32) (u : xS) => (r = (f_X11_isPerson S p0) ∧ (r = 0 ∨ r = 1)) ∧ u = S) (xI X) (xA X)) 0 0 (xA X) := sorry
theorem hd_X11_areTwo : yX11_areTwo.cls = RX11 ∧ yX11_areTwo.cls ≠ "java/lang/invoke/MethodHandle" ∧ yX11_areTwo.cls ≠ "java/lang/invoke/VarHandle" ∧ (parseMethodDescriptor yX11_areTwo.desc).map (fun d => d.parameters.length) = some 2 := by decide +kernel
set_option maxHeartbeats 4000000 in
set_option maxRecDepth 100000 in
theorem k_X11_areTwo (l : Launch) (X : xX) (S : xS) (p0 : Int32) (p1 : Int32) : Met l yX11_areTwo wsX11_areTwo ({ frames := 2, cells := 0, slots := 0, locals := 46 } : Room) (va_Pc [.ref (X.2.1 127), .int p0, .int p1] (xI X S)) (va_Qi (fun (r : Int32) (u : xS) => (r = (f_X11_areTwo S p0 p1) ∧ (r = 0 ∨ r = 1)) ∧ u = S) (xI X) (xA X)) 0 0 (xA X) := sorry
theorem hd_X11_feed : yX11_feed.cls = RX11 ∧ yX11_feed.cls ≠ "java/lang/invoke/MethodHandle" ∧ yX11_feed.cls ≠ "java/lang/invoke/VarHandle" ∧ (parseMethodDescriptor yX11_feed.desc).map (fun d => d.parameters.length) = some 1 := by decide +kernel
set_option maxHeartbeats 4000000 in
set_option maxRecDepth 100000 in
theorem k_X11_feed (l : Launch) (X : xX) (S : xS) (p0 : Int32) (hs : s_X11_feed S p0) : Met l yX11_feed wsX11_feed ({ frames := 1, cells := 0, slots := 0, locals := 25 } : Room) (va_Pc [.ref (X.2.1 127), .int p0] (xI X S)) (va_Qi (fun (r : Int32) (u : xS) => r = (f_X11_feed S p0).1 ∧ u = (f_X11_feed S p0).2) (xI X) (xA X)) 0 0 (xA X) := sorry
theorem hd_X11_here : yX11_here.cls = RX11 ∧ yX11_here.cls ≠ "java/lang/invoke/MethodHandle" ∧ yX11_here.cls ≠ "java/lang/invoke/VarHandle" ∧ (parseMethodDescriptor yX11_here.desc).map (fun d => d.parameters.length) = some 0 := by decide +kernel
set_option maxHeartbeats 4000000 in
set_option maxRecDepth 100000 in
theorem k_X11_here (l : Launch) (X : xX) (S : xS) (hs : s_X11_here S) : Met l yX11_here wsX11_here ({ frames := 0, cells := 0, slots := 0, locals := 0 } : Room) (va_Pc [.ref (X.2.1 127)] (xI X S)) (va_Qi (fun (r : Int32) (u : xS) => r = (f_X11_here S).1 ∧ u = (f_X11_here S).2) (xI X) (xA X)) 0 0 (xA X) := sorry
theorem hd_X11_fails : yX11_fails.cls = RX11 ∧ yX11_fails.cls ≠ "java/lang/invoke/MethodHandle" ∧ yX11_fails.cls ≠ "java/lang/invoke/VarHandle" ∧ (parseMethodDescriptor yX11_fails.desc).map (fun d => d.parameters.length) = some 2 := by decide +kernel
set_option maxHeartbeats 4000000 in
set_option maxRecDepth 100000 in
theorem k_X11_fails (l : Launch) (X : xX) (S : xS) (p0 : Int32) (p1 : Int32) : Met l yX11_fails wsX11_fails ({ frames := 0, cells := 0, slots := 0, locals := 0 } : Room) (va_Pc [.ref (X.2.1 127), .int p0, .int p1] (xI X S)) (va_Qi (fun (r : Int32) (u : xS) => r = (f_X11_fails S p0 p1).1 ∧ u = (f_X11_fails S p0 p1).2) (xI X) (xA X)) 0 0 (xA X) := sorry
theorem hd_X11_takeNumber : yX11_takeNumber.cls = RX11 ∧ yX11_takeNumber.cls ≠ "java/lang/invoke/MethodHandle" ∧ yX11_takeNumber.cls ≠ "java/lang/invoke/VarHandle" ∧ (parseMethodDescriptor yX11_takeNumber.desc).map (fun d => d.parameters.length) = some 2 := by decide +kernel
set_option maxHeartbeats 4000000 in
set_option maxRecDepth 100000 in
theorem k_X11_takeNumber (l : Launch) (X : xX) (S : xS) (p0 : Int32) (p1 : Int32) (hs : s_X11_takeNumber S p0 p1) : Met l yX11_takeNumber wsX11_takeNumber ({ frames := 1, cells := 0, slots := 0, locals := 25 } : Room) (va_Pc [.ref (X.2.1 127), .int p0, .int p1] (xI X S)) (va_Qi (fun (r : Int32) (u : xS) => r = (f_X11_takeNumber S p0 p1).1 ∧ u = (f_X11_takeNumber S p0 p1).2) (xI X) (xA X)) 0 0 (xA X) := sorry
theorem hd_X11_takeRooms : yX11_takeRooms.cls = RX11 ∧ yX11_takeRooms.cls ≠ "java/lang/invoke/MethodHandle" ∧ yX11_takeRooms.cls ≠ "java/lang/invoke/VarHandle" ∧ (parseMethodDescriptor yX11_takeRooms.desc).map (fun d => d.parameters.length) = some 0 := by decide +kernel
set_option maxHeartbeats 4000000 in
set_option maxRecDepth 100000 in
theorem k_X11_takeRooms (l : Launch) (X : xX) (S : xS) (hs : s_X11_takeRooms S) : Met l yX11_takeRooms wsX11_takeRooms ({ frames := 2, cells := 0, slots := 0, locals := 48 } : Room) (va_Pc [.ref (X.2.1 127)] (xI X S)) (va_Qi (fun (r : Int32) (u : xS) => r = (f_X11_takeRooms S).1 ∧ u = (f_X11_takeRooms S).2) (xI X) (xA X)) 0 0 (xA X) := sorry
theorem hd_X11_takePair : yX11_takePair.cls = RX11 ∧ yX11_takePair.cls ≠ "java/lang/invoke/MethodHandle" ∧ yX11_takePair.cls ≠ "java/lang/invoke/VarHandle" ∧ (parseMethodDescriptor yX11_takePair.desc).map (fun d => d.parameters.length) = some 1 := by decide +kernel
set_option maxHeartbeats 4000000 in
set_option maxRecDepth 100000 in
theorem k_X11_takePair (l : Launch) (X : xX) (S : xS) (k0 : Nat) (hk0 : isI k0 = true) (hs : s_X11_takePair S k0) : Met l yX11_takePair wsX11_takePair ({ frames := 2, cells := 0, slots := 0, locals := 48 } : Room) (va_Pc [.ref (X.2.1 127), .ref (X.2.1 k0)] (xI X S)) (va_Qi (fun (r : Int32) (u : xS) => r = (f_X11_takePair S k0).1 ∧ u = (f_X11_takePair S k0).2) (xI X) (xA X)) 0 0 (xA X) := sorry
theorem hd_X11_takeBench : yX11_takeBench.cls = RX11 ∧ yX11_takeBench.cls ≠ "java/lang/invoke/MethodHandle" ∧ yX11_takeBench.cls ≠ "java/lang/invoke/VarHandle" ∧ (parseMethodDescriptor yX11_takeBench.desc).map (fun d => d.parameters.length) = some 0 := by decide +kernel
set_option maxHeartbeats 4000000 in
set_option maxRecDepth 100000 in
theorem k_X11_takeBench (l : Launch) (X : xX) (S : xS) (hs : s_X11_takeBench S) : Met l yX11_takeBench wsX11_takeBench ({ frames := 3, cells := 0, slots := 0, locals := 70 } : Room) (va_Pc [.ref (X.2.1 127)] (xI X S)) (va_Qi (fun (r : Int32) (u : xS) => r = (f_X11_takeBench S).1 ∧ u = (f_X11_takeBench S).2) (xI X) (xA X)) 0 0 (xA X) := sorry
theorem hd_X11_takeWay : yX11_takeWay.cls = RX11 ∧ yX11_takeWay.cls ≠ "java/lang/invoke/MethodHandle" ∧ yX11_takeWay.cls ≠ "java/lang/invoke/VarHandle" ∧ (parseMethodDescriptor yX11_takeWay.desc).map (fun d => d.parameters.length) = some 0 := by decide +kernel
set_option maxHeartbeats 4000000 in
set_option maxRecDepth 100000 in
theorem k_X11_takeWay (l : Launch) (X : xX) (S : xS) (hs : s_X11_takeWay S) : Met l yX11_takeWay wsX11_takeWay ({ frames := 3, cells := 0, slots := 0, locals := 70 } : Room) (va_Pc [.ref (X.2.1 127)] (xI X S)) (va_Qi (fun (r : Int32) (u : xS) => r = (f_X11_takeWay S).1 ∧ u = (f_X11_takeWay S).2) (xI X) (xA X)) 0 0 (xA X) := sorry
theorem hd_X11_takePerson : yX11_takePerson.cls = RX11 ∧ yX11_takePerson.cls ≠ "java/lang/invoke/MethodHandle" ∧ yX11_takePerson.cls ≠ "java/lang/invoke/VarHandle" ∧ (parseMethodDescriptor yX11_takePerson.desc).map (fun d => d.parameters.length) = some 0 := by decide +kernel
set_option maxHeartbeats 4000000 in
set_option maxRecDepth 100000 in
theorem k_X11_takePerson (l : Launch) (X : xX) (S : xS) (hs : s_X11_takePerson S) : Met l yX11_takePerson wsX11_takePerson ({ frames := 2, cells := 0, slots := 0, locals := 48 } : Room) (va_Pc [.ref (X.2.1 127)] (xI X S)) (va_Qi (fun (r : Int32) (u : xS) => r = (f_X11_takePerson S).1 ∧ u = (f_X11_takePerson S).2) (xI X) (xA X)) 0 0 (xA X) := sorry
theorem hd_X11_takeLiking : yX11_takeLiking.cls = RX11 ∧ yX11_takeLiking.cls ≠ "java/lang/invoke/MethodHandle" ∧ yX11_takeLiking.cls ≠ "java/lang/invoke/VarHandle" ∧ (parseMethodDescriptor yX11_takeLiking.desc).map (fun d => d.parameters.length) = some 0 := by decide +kernel
set_option maxHeartbeats 4000000 in
set_option maxRecDepth 100000 in
theorem k_X11_takeLiking (l : Launch) (X : xX) (S : xS) (hs : s_X11_takeLiking S) : Met l yX11_takeLiking wsX11_takeLiking ({ frames := 2, cells := 0, slots := 0, locals := 48 } : Room) (va_Pc [.ref (X.2.1 127)] (xI X S)) (va_Qi (fun (r : Int32) (u : xS) => r = (f_X11_takeLiking S).1 ∧ u = (f_X11_takeLiking S).2) (xI X) (xA X)) 0 0 (xA X) := sorry
theorem hd_X11_isFull : yX11_isFull.cls = RX11 ∧ yX11_isFull.cls ≠ "java/lang/invoke/MethodHandle" ∧ yX11_isFull.cls ≠ "java/lang/invoke/VarHandle" ∧ (parseMethodDescriptor yX11_isFull.desc).map (fun d => d.parameters.length) = some 1 := by decide +kernel
set_option maxHeartbeats 4000000 in
set_option maxRecDepth 100000 in
theorem k_X11_isFull (l : Launch) (X : xX) (S : xS) (p0 : Int32) : Met l yX11_isFull wsX11_isFull ({ frames := 0, cells := 0, slots := 0, locals := 0 } : Room) (va_Pc [.ref (X.2.1 127), .int p0] (xI X S)) (va_Qi (fun (r : Int32) (u : xS) => (r = (f_X11_isFull S p0) ∧ (r = 0 ∨ r = 1)) ∧ u = S) (xI X) (xA X)) 0 0 (xA X) := sorry
theorem hd_X11_takeBody : yX11_takeBody.cls = RX11 ∧ yX11_takeBody.cls ≠ "java/lang/invoke/MethodHandle" ∧ yX11_takeBody.cls ≠ "java/lang/invoke/VarHandle" ∧ (parseMethodDescriptor yX11_takeBody.desc).map (fun d => d.parameters.length) = some 1 := by decide +kernel
set_option maxHeartbeats 4000000 in
set_option maxRecDepth 100000 in
theorem k_X11_takeBody (l : Launch) (X : xX) (S : xS) (p0 : Int32) (hs : s_X11_takeBody S p0) : Met l yX11_takeBody wsX11_takeBody ({ frames := 4, cells := 0, slots := 0, locals := 91 } : Room) (va_Pc [.ref (X.2.1 127), .int p0] (xI X S)) (va_Qi (fun (r : Int32) (u : xS) => r = (f_X11_takeBody S p0).1 ∧ u = (f_X11_takeBody S p0).2) (xI X) (xA X)) 0 0 (xA X) := sorry
theorem hd_X11_takeClause : yX11_takeClause.cls = RX11 ∧ yX11_takeClause.cls ≠ "java/lang/invoke/MethodHandle" ∧ yX11_takeClause.cls ≠ "java/lang/invoke/VarHandle" ∧ (parseMethodDescriptor yX11_takeClause.desc).map (fun d => d.parameters.length) = some 0 := by decide +kernel
set_option maxHeartbeats 4000000 in
set_option maxRecDepth 100000 in
theorem k_X11_takeClause (l : Launch) (X : xX) (S : xS) (hs : s_X11_takeClause S) : Met l yX11_takeClause wsX11_takeClause ({ frames := 5, cells := 0, slots := 0, locals := 112 } : Room) (va_Pc [.ref (X.2.1 127)] (xI X S)) (va_Qi (fun (r : Int32) (u : xS) => r = (f_X11_takeClause S).1 ∧ u = (f_X11_takeClause S).2) (xI X) (xA X)) 0 0 (xA X) := sorry
theorem hd_X11_takeRead : yX11_takeRead.cls = RX11 ∧ yX11_takeRead.cls ≠ "java/lang/invoke/MethodHandle" ∧ yX11_takeRead.cls ≠ "java/lang/invoke/VarHandle" ∧ (parseMethodDescriptor yX11_takeRead.desc).map (fun d => d.parameters.length) = some 0 := by decide +kernel
set_option maxHeartbeats 4000000 in
set_option maxRecDepth 100000 in
theorem k_X11_takeRead (l : Launch) (X : xX) (S : xS) (hs : s_X11_takeRead S) : Met l yX11_takeRead wsX11_takeRead ({ frames := 0, cells := 0, slots := 0, locals := 0 } : Room) (va_Pc [.ref (X.2.1 127)] (xI X S)) (va_Qv (fun u : xS => u = (f_X11_takeRead S)) (xI X) (xA X)) 0 0 (xA X) := sorry
theorem hd_X11_hill : yX11_hill.cls = RX11 ∧ yX11_hill.cls ≠ "java/lang/invoke/MethodHandle" ∧ yX11_hill.cls ≠ "java/lang/invoke/VarHandle" ∧ (parseMethodDescriptor yX11_hill.desc).map (fun d => d.parameters.length) = some 0 := by decide +kernel
set_option maxHeartbeats 4000000 in
set_option maxRecDepth 100000 in
theorem k_X11_hill (l : Launch) (X : xX) (S : xS) (hs : s_X11_hill S) : Met l yX11_hill wsX11_hill ({ frames := 6, cells := 0, slots := 0, locals := 135 } : Room) (va_Pc [.ref (X.2.1 127)] (xI X S)) (va_Qi (fun (r : Int32) (u : xS) => r = (f_X11_hill S).1 ∧ u = (f_X11_hill S).2) (xI X) (xA X)) 0 0 (xA X) := sorry
theorem hd_X11_fault : yX11_fault.cls = RX11 ∧ yX11_fault.cls ≠ "java/lang/invoke/MethodHandle" ∧ yX11_fault.cls ≠ "java/lang/invoke/VarHandle" ∧ (parseMethodDescriptor yX11_fault.desc).map (fun d => d.parameters.length) = some 0 := by decide +kernel
set_option maxHeartbeats 4000000 in
set_option maxRecDepth 100000 in
theorem k_X11_fault (l : Launch) (X : xX) (S : xS) : Met l yX11_fault wsX11_fault ({ frames := 0, cells := 0, slots := 0, locals := 0 } : Room) (va_Pc [.ref (X.2.1 127)] (xI X S)) (va_Qi (fun (r : Int32) (u : xS) => r = (f_X11_fault S) ∧ u = S) (xI X) (xA X)) 0 0 (xA X) := sorry
theorem hs_X11_sayBy : yX11_sayBy.cls ≠ "java/lang/invoke/MethodHandle" ∧ yX11_sayBy.cls ≠ "java/lang/invoke/VarHandle" ∧ (parseMethodDescriptor yX11_sayBy.desc).map (fun d => d.parameters.length) = some 3 := by decide +kernel
set_option maxHeartbeats 4000000 in
set_option maxRecDepth 100000 in
theorem k_X11_sayBy (l : Launch) (X : xX) (S : xS) (p0 : Int32) (p1 : Int32) (p2 : Int32) : Met l yX11_sayBy wsX11_sayBy ({ frames := 0, cells := 0, slots := 0, locals := 0 } : Room) (va_Pc [.int p0, .int p1, .int p2] (xI X S)) (va_Qi (fun (r : Int32) (u : xS) => r = (f_X11_sayBy S p0 p1 p2) ∧ u = S) (xI X) (xA X)) 0 0 (xA X) := sorry
theorem hd_X11_isThere : yX11_isThere.cls = RX11 ∧ yX11_isThere.cls ≠ "java/lang/invoke/MethodHandle" ∧ yX11_isThere.cls ≠ "java/lang/invoke/VarHandle" ∧ (parseMethodDescriptor yX11_isThere.desc).map (fun d => d.parameters.length) = some 3 := by decide +kernel
set_option maxHeartbeats 4000000 in
set_option maxRecDepth 100000 in
theorem k_X11_isThere (l : Launch) (X : xX) (S : xS) (p0 : Int32) (p1 : Int32) (p2 : Int32) (hs : s_X11_isThere S p0 p1 p2) : Met l yX11_isThere wsX11_isThere ({ frames := 1, cells := 0, slots := 0, locals := 21 } : Room) (va_Pc [.ref (X.2.1 127), .int p0, .int p1, .int p2] (xI X S)) (va_Qi (fun (r : Int32) (u : xS) => (r = (f_X11_isThere S p0 p1 p2) ∧ (r = 0 ∨ r = 1)) ∧ u = S) (xI X) (xA X)) 0 0 (xA X) := sorry
theorem hd_X11_says : yX11_says.cls = RX11 ∧ yX11_says.cls ≠ "java/lang/invoke/MethodHandle" ∧ yX11_says.cls ≠ "java/lang/invoke/VarHandle" ∧ (parseMethodDescriptor yX11_says.desc).map (fun d => d.parameters.length) = some 3 := by decide +kernel
set_option maxHeartbeats 4000000 in
set_option maxRecDepth 100000 in
theorem k_X11_says (l : Launch) (X : xX) (S : xS) (k0 : Nat) (p1 : Int32) (p2 : Int32) (hk0 : isI k0 = true) (hs : s_X11_says S k0 p1 p2) : Met l yX11_says wsX11_says ({ frames := 2, cells := 0, slots := 0, locals := 44 } : Room) (va_Pc [.ref (X.2.1 127), .ref (X.2.1 k0), .int p1, .int p2] (xI X S)) (va_Qi (fun (r : Int32) (u : xS) => r = (f_X11_says S k0 p1 p2) ∧ u = S) (xI X) (xA X)) 0 0 (xA X) := sorry
theorem hd_X11_hears : yX11_hears.cls = RX11 ∧ yX11_hears.cls ≠ "java/lang/invoke/MethodHandle" ∧ yX11_hears.cls ≠ "java/lang/invoke/VarHandle" ∧ (parseMethodDescriptor yX11_hears.desc).map (fun d => d.parameters.length) = some 3 := by decide +kernel
set_option maxHeartbeats 4000000 in
set_option maxRecDepth 100000 in
theorem k_X11_hears (l : Launch) (X : xX) (S : xS) (k0 : Nat) (p1 : Int32) (p2 : Int32) (hk0 : isI k0 = true) (hs : s_X11_hears S k0 p1 p2) : Met l yX11_hears wsX11_hears ({ frames := 1, cells := 0, slots := 0, locals := 21 } : Room) (va_Pc [.ref (X.2.1 127), .ref (X.2.1 k0), .int p1, .int p2] (xI X S)) (va_Qi (fun (r : Int32) (u : xS) => (r = (f_X11_hears S k0 p1 p2) ∧ (r = 0 ∨ r = 1)) ∧ u = S) (xI X) (xA X)) 0 0 (xA X) := sorry
theorem hd_X11_spokenOf : yX11_spokenOf.cls = RX11 ∧ yX11_spokenOf.cls ≠ "java/lang/invoke/MethodHandle" ∧ yX11_spokenOf.cls ≠ "java/lang/invoke/VarHandle" ∧ (parseMethodDescriptor yX11_spokenOf.desc).map (fun d => d.parameters.length) = some 2 := by decide +kernel
set_option maxHeartbeats 4000000 in
set_option maxRecDepth 100000 in
theorem k_X11_spokenOf (l : Launch) (X : xX) (S : xS) (p0 : Int32) (p1 : Int32) (hs : s_X11_spokenOf S p0 p1) : Met l yX11_spokenOf wsX11_spokenOf ({ frames := 0, cells := 0, slots := 0, locals := 0 } : Room) (va_Pc [.ref (X.2.1 127), .int p0, .int p1] (xI X S)) (va_Qi (fun (r : Int32) (u : xS) => r = (f_X11_spokenOf S p0 p1) ∧ u = S) (xI X) (xA X)) 0 0 (xA X) := sorry
theorem hd_X11_saidAll : yX11_saidAll.cls = RX11 ∧ yX11_saidAll.cls ≠ "java/lang/invoke/MethodHandle" ∧ yX11_saidAll.cls ≠ "java/lang/invoke/VarHandle" ∧ (parseMethodDescriptor yX11_saidAll.desc).map (fun d => d.parameters.length) = some 1 := by decide +kernel
set_option maxHeartbeats 4000000 in
set_option maxRecDepth 100000 in
theorem k_X11_saidAll (l : Launch) (X : xX) (S : xS) (k0 : Nat) (hk0 : isI k0 = true) (hs : s_X11_saidAll S k0) : Met l yX11_saidAll wsX11_saidAll ({ frames := 3, cells := 0, slots := 0, locals := 68 } : Room) (va_Pc [.ref (X.2.1 127), .ref (X.2.1 k0)] (xI X S)) (va_Qi (fun (r : Int32) (u : xS) => r = (f_X11_saidAll S k0) ∧ u = S) (xI X) (xA X)) 0 0 (xA X) := sorry
theorem hd_X11_passes : yX11_passes.cls = RX11 ∧ yX11_passes.cls ≠ "java/lang/invoke/MethodHandle" ∧ yX11_passes.cls ≠ "java/lang/invoke/VarHandle" ∧ (parseMethodDescriptor yX11_passes.desc).map (fun d => d.parameters.length) = some 1 := by decide +kernel
set_option maxHeartbeats 4000000 in
set_option maxRecDepth 100000 in
theorem k_X11_passes (l : Launch) (X : xX) (S : xS) (k0 : Nat) (hk0 : isI k0 = true) (hs : s_X11_passes S k0) : Met l yX11_passes wsX11_passes ({ frames := 3, cells := 0, slots := 0, locals := 68 } : Room) (va_Pc [.ref (X.2.1 127), .ref (X.2.1 k0)] (xI X S)) (va_Qv (fun u : xS => u = (f_X11_passes S k0)) (xI X) (xA X)) 0 0 (xA X) := sorry
theorem hd_X11_praised : yX11_praised.cls = RX11 ∧ yX11_praised.cls ≠ "java/lang/invoke/MethodHandle" ∧ yX11_praised.cls ≠ "java/lang/invoke/VarHandle" ∧ (parseMethodDescriptor yX11_praised.desc).map (fun d => d.parameters.length) = some 0 := by decide +kernel
set_option maxHeartbeats 4000000 in
set_option maxRecDepth 100000 in
theorem k_X11_praised (l : Launch) (X : xX) (S : xS) (hs : s_X11_praised S) : Met l yX11_praised wsX11_praised ({ frames := 3, cells := 0, slots := 0, locals := 68 } : Room) (va_Pc [.ref (X.2.1 127)] (xI X S)) (va_Qi (fun (r : Int32) (u : xS) => r = (f_X11_praised S) ∧ u = S) (xI X) (xA X)) 0 0 (xA X) := sorry
theorem hd_X11_silentBy : yX11_silentBy.cls = RX11 ∧ yX11_silentBy.cls ≠ "java/lang/invoke/MethodHandle" ∧ yX11_silentBy.cls ≠ "java/lang/invoke/VarHandle" ∧ (parseMethodDescriptor yX11_silentBy.desc).map (fun d => d.parameters.length) = some 1 := by decide +kernel
set_option maxHeartbeats 4000000 in
set_option maxRecDepth 100000 in
theorem k_X11_silentBy (l : Launch) (X : xX) (S : xS) (p0 : Int32) (hs : s_X11_silentBy S p0) : Met l yX11_silentBy wsX11_silentBy ({ frames := 3, cells := 0, slots := 0, locals := 68 } : Room) (va_Pc [.ref (X.2.1 127), .int p0] (xI X S)) (va_Qi (fun (r : Int32) (u : xS) => r = (f_X11_silentBy S p0) ∧ u = S) (xI X) (xA X)) 0 0 (xA X) := sorry
theorem hd_X11_cover : yX11_cover.cls = RX11 ∧ yX11_cover.cls ≠ "java/lang/invoke/MethodHandle" ∧ yX11_cover.cls ≠ "java/lang/invoke/VarHandle" ∧ (parseMethodDescriptor yX11_cover.desc).map (fun d => d.parameters.length) = some 0 := by decide +kernel
set_option maxHeartbeats 4000000 in
set_option maxRecDepth 100000 in
theorem k_X11_cover (l : Launch) (X : xX) (S : xS) (hs : s_X11_cover S) : Met l yX11_cover wsX11_cover ({ frames := 1, cells := 0, slots := 0, locals := 22 } : Room) (va_Pc [.ref (X.2.1 127)] (xI X S)) (va_Qi (fun (r : Int32) (u : xS) => r = (f_X11_cover S) ∧ u = S) (xI X) (xA X)) 0 0 (xA X) := sorry
theorem hd_X11_told : yX11_told.cls = RX11 ∧ yX11_told.cls ≠ "java/lang/invoke/MethodHandle" ∧ yX11_told.cls ≠ "java/lang/invoke/VarHandle" ∧ (parseMethodDescriptor yX11_told.desc).map (fun d => d.parameters.length) = some 1 := by decide +kernel
set_option maxHeartbeats 4000000 in
set_option maxRecDepth 100000 in
theorem k_X11_told (l : Launch) (X : xX) (S : xS) (p0 : Int32) (hs : s_X11_told S p0) : Met l yX11_told wsX11_told ({ frames := 4, cells := 0, slots := 0, locals := 93 } : Room) (va_Pc [.ref (X.2.1 127), .int p0] (xI X S)) (va_Qi (fun (r : Int32) (u : xS) => r = (f_X11_told S p0) ∧ u = S) (xI X) (xA X)) 0 0 (xA X) := sorry
theorem hd_X11_whoIsIn : yX11_whoIsIn.cls = RX11 ∧ yX11_whoIsIn.cls ≠ "java/lang/invoke/MethodHandle" ∧ yX11_whoIsIn.cls ≠ "java/lang/invoke/VarHandle" ∧ (parseMethodDescriptor yX11_whoIsIn.desc).map (fun d => d.parameters.length) = some 1 := by decide +kernel
set_option maxHeartbeats 4000000 in
set_option maxRecDepth 100000 in
theorem k_X11_whoIsIn (l : Launch) (X : xX) (S : xS) (p0 : Int32) (hs : s_X11_whoIsIn S p0) : Met l yX11_whoIsIn wsX11_whoIsIn ({ frames := 0, cells := 0, slots := 0, locals := 0 } : Room) (va_Pc [.ref (X.2.1 127), .int p0] (xI X S)) (va_Qi (fun (r : Int32) (u : xS) => r = (f_X11_whoIsIn S p0) ∧ u = S) (xI X) (xA X)) 0 0 (xA X) := sorry
theorem hd_X11_room : yX11_room.cls = RX11 ∧ yX11_room.cls ≠ "java/lang/invoke/MethodHandle" ∧ yX11_room.cls ≠ "java/lang/invoke/VarHandle" ∧ (parseMethodDescriptor yX11_room.desc).map (fun d => d.parameters.length) = some 2 := by decide +kernel
set_option maxHeartbeats 4000000 in
set_option maxRecDepth 100000 in
theorem k_X11_room (l : Launch) (X : xX) (S : xS) (p0 : Int32) (p1 : Int32) (hs : s_X11_room S p0 p1) : Met l yX11_room wsX11_room ({ frames := 2, cells := 0, slots := 0, locals := 46 } : Room) (va_Pc [.ref (X.2.1 127), .int p0, .int p1] (xI X S)) (va_Qi (fun (r : Int32) (u : xS) => r = (f_X11_room S p0 p1) ∧ u = S) (xI X) (xA X)) 0 0 (xA X) := sorry
theorem hd_X11_person : yX11_person.cls = RX11 ∧ yX11_person.cls ≠ "java/lang/invoke/MethodHandle" ∧ yX11_person.cls ≠ "java/lang/invoke/VarHandle" ∧ (parseMethodDescriptor yX11_person.desc).map (fun d => d.parameters.length) = some 2 := by decide +kernel
set_option maxHeartbeats 4000000 in
set_option maxRecDepth 100000 in
theorem k_X11_person (l : Launch) (X : xX) (S : xS) (p0 : Int32) (p1 : Int32) (hs : s_X11_person S p0 p1) : Met l yX11_person wsX11_person ({ frames := 2, cells := 0, slots := 0, locals := 46 } : Room) (va_Pc [.ref (X.2.1 127), .int p0, .int p1] (xI X S)) (va_Qi (fun (r : Int32) (u : xS) => r = (f_X11_person S p0 p1) ∧ u = S) (xI X) (xA X)) 0 0 (xA X) := sorry
theorem hd_X11_liking : yX11_liking.cls = RX11 ∧ yX11_liking.cls ≠ "java/lang/invoke/MethodHandle" ∧ yX11_liking.cls ≠ "java/lang/invoke/VarHandle" ∧ (parseMethodDescriptor yX11_liking.desc).map (fun d => d.parameters.length) = some 2 := by decide +kernel
set_option maxHeartbeats 4000000 in
set_option maxRecDepth 100000 in
theorem k_X11_liking (l : Launch) (X : xX) (S : xS) (p0 : Int32) (p1 : Int32) (hs : s_X11_liking S p0 p1) : Met l yX11_liking wsX11_liking ({ frames := 3, cells := 0, slots := 0, locals := 68 } : Room) (va_Pc [.ref (X.2.1 127), .int p0, .int p1] (xI X S)) (va_Qi (fun (r : Int32) (u : xS) => r = (f_X11_liking S p0 p1) ∧ u = S) (xI X) (xA X)) 0 0 (xA X) := sorry
theorem hd_X11_said : yX11_said.cls = RX11 ∧ yX11_said.cls ≠ "java/lang/invoke/MethodHandle" ∧ yX11_said.cls ≠ "java/lang/invoke/VarHandle" ∧ (parseMethodDescriptor yX11_said.desc).map (fun d => d.parameters.length) = some 3 := by decide +kernel
set_option maxHeartbeats 4000000 in
set_option maxRecDepth 100000 in
theorem k_X11_said (l : Launch) (X : xX) (S : xS) (p0 : Int32) (p1 : Int32) (p2 : Int32) (hs : s_X11_said S p0 p1 p2) : Met l yX11_said wsX11_said ({ frames := 3, cells := 0, slots := 0, locals := 68 } : Room) (va_Pc [.ref (X.2.1 127), .int p0, .int p1, .int p2] (xI X S)) (va_Qi (fun (r : Int32) (u : xS) => r = (f_X11_said S p0 p1 p2) ∧ u = S) (xI X) (xA X)) 0 0 (xA X) := sorry
theorem hd_X11_remember : yX11_remember.cls = RX11 ∧ yX11_remember.cls ≠ "java/lang/invoke/MethodHandle" ∧ yX11_remember.cls ≠ "java/lang/invoke/VarHandle" ∧ (parseMethodDescriptor yX11_remember.desc).map (fun d => d.parameters.length) = some 0 := by decide +kernel
set_option maxHeartbeats 4000000 in
set_option maxRecDepth 100000 in
theorem k_X11_remember (l : Launch) (X : xX) (S : xS) (hs : s_X11_remember S) : Met l yX11_remember wsX11_remember ({ frames := 0, cells := 0, slots := 0, locals := 0 } : Room) (va_Pc [.ref (X.2.1 127)] (xI X S)) (va_Qv (fun u : xS => u = (f_X11_remember S)) (xI X) (xA X)) 0 0 (xA X) := sorry
theorem hd_X11_hoursRefused : yX11_hoursRefused.cls = RX11 ∧ yX11_hoursRefused.cls ≠ "java/lang/invoke/MethodHandle" ∧ yX11_hoursRefused.cls ≠ "java/lang/invoke/VarHandle" ∧ (parseMethodDescriptor yX11_hoursRefused.desc).map (fun d => d.parameters.length) = some 1 := by decide +kernel
set_option maxHeartbeats 4000000 in
set_option maxRecDepth 100000 in
theorem k_X11_hoursRefused (l : Launch) (X : xX) (S : xS) (p0 : Int32) : Met l yX11_hoursRefused wsX11_hoursRefused ({ frames := 1, cells := 0, slots := 0, locals := 25 } : Room) (va_Pc [.ref (X.2.1 127), .int p0] (xI X S)) (va_Qi (fun (r : Int32) (u : xS) => r = (f_X11_hoursRefused S p0) ∧ u = S) (xI X) (xA X)) 0 0 (xA X) := sorry
theorem hd_X11_hour : yX11_hour.cls = RX11 ∧ yX11_hour.cls ≠ "java/lang/invoke/MethodHandle" ∧ yX11_hour.cls ≠ "java/lang/invoke/VarHandle" ∧ (parseMethodDescriptor yX11_hour.desc).map (fun d => d.parameters.length) = some 1 := by decide +kernel
set_option maxHeartbeats 4000000 in
set_option maxRecDepth 100000 in
theorem k_X11_hour (l : Launch) (X : xX) (S : xS) (p0 : Int32) (hs : s_X11_hour S p0) : Met l yX11_hour wsX11_hour ({ frames := 4, cells := 0, slots := 0, locals := 92 } : Room) (va_Pc [.ref (X.2.1 127), .int p0] (xI X S)) (va_Qi (fun (r : Int32) (u : xS) => r = (f_X11_hour S p0).1 ∧ u = (f_X11_hour S p0).2) (xI X) (xA X)) 0 0 (xA X) := sorry
theorem hd_X11_go : yX11_go.cls = RX11 ∧ yX11_go.cls ≠ "java/lang/invoke/MethodHandle" ∧ yX11_go.cls ≠ "java/lang/invoke/VarHandle" ∧ (parseMethodDescriptor yX11_go.desc).map (fun d => d.parameters.length) = some 2 := by decide +kernel
set_option maxHeartbeats 4000000 in
set_option maxRecDepth 100000 in
theorem k_X11_go (l : Launch) (X : xX) (S : xS) (p0 : Int32) (p1 : Int32) (hs : s_X11_go S p0 p1) : Met l yX11_go wsX11_go ({ frames := 2, cells := 0, slots := 0, locals := 46 } : Room) (va_Pc [.ref (X.2.1 127), .int p0, .int p1] (xI X S)) (va_Qi (fun (r : Int32) (u : xS) => r = (f_X11_go S p0 p1).1 ∧ u = (f_X11_go S p0 p1).2) (xI X) (xA X)) 0 0 (xA X) := sorry
theorem hd_X11_cough : yX11_cough.cls = RX11 ∧ yX11_cough.cls ≠ "java/lang/invoke/MethodHandle" ∧ yX11_cough.cls ≠ "java/lang/invoke/VarHandle" ∧ (parseMethodDescriptor yX11_cough.desc).map (fun d => d.parameters.length) = some 1 := by decide +kernel
set_option maxHeartbeats 4000000 in
set_option maxRecDepth 100000 in
theorem k_X11_cough (l : Launch) (X : xX) (S : xS) (p0 : Int32) (hs : s_X11_cough S p0) : Met l yX11_cough wsX11_cough ({ frames := 2, cells := 0, slots := 0, locals := 46 } : Room) (va_Pc [.ref (X.2.1 127), .int p0] (xI X S)) (va_Qi (fun (r : Int32) (u : xS) => r = (f_X11_cough S p0).1 ∧ u = (f_X11_cough S p0).2) (xI X) (xA X)) 0 0 (xA X) := sorry
theorem hd_X11_like : yX11_like.cls = RX11 ∧ yX11_like.cls ≠ "java/lang/invoke/MethodHandle" ∧ yX11_like.cls ≠ "java/lang/invoke/VarHandle" ∧ (parseMethodDescriptor yX11_like.desc).map (fun d => d.parameters.length) = some 3 := by decide +kernel
set_option maxHeartbeats 4000000 in
set_option maxRecDepth 100000 in
theorem k_X11_like (l : Launch) (X : xX) (S : xS) (p0 : Int32) (p1 : Int32) (p2 : Int32) (hs : s_X11_like S p0 p1 p2) : Met l yX11_like wsX11_like ({ frames := 3, cells := 0, slots := 0, locals := 68 } : Room) (va_Pc [.ref (X.2.1 127), .int p0, .int p1, .int p2] (xI X S)) (va_Qi (fun (r : Int32) (u : xS) => r = (f_X11_like S p0 p1 p2).1 ∧ u = (f_X11_like S p0 p1 p2).2) (xI X) (xA X)) 0 0 (xA X) := sorry
theorem hd_X11_draw : yX11_draw.cls = RX11 ∧ yX11_draw.cls ≠ "java/lang/invoke/MethodHandle" ∧ yX11_draw.cls ≠ "java/lang/invoke/VarHandle" ∧ (parseMethodDescriptor yX11_draw.desc).map (fun d => d.parameters.length) = some 1 := by decide +kernel
set_option maxHeartbeats 4000000 in
set_option maxRecDepth 100000 in
theorem k_X11_draw (l : Launch) (X : xX) (S : xS) (p0 : Int32) (hs : s_X11_draw S p0) : Met l yX11_draw wsX11_draw ({ frames := 0, cells := 0, slots := 0, locals := 0 } : Room) (va_Pc [.ref (X.2.1 127), .int p0] (xI X S)) (va_Qi (fun (r : Int32) (u : xS) => r = (f_X11_draw S p0).1 ∧ u = (f_X11_draw S p0).2) (xI X) (xA X)) 0 0 (xA X) := sorry
theorem hd_X11_chance : yX11_chance.cls = RX11 ∧ yX11_chance.cls ≠ "java/lang/invoke/MethodHandle" ∧ yX11_chance.cls ≠ "java/lang/invoke/VarHandle" ∧ (parseMethodDescriptor yX11_chance.desc).map (fun d => d.parameters.length) = some 0 := by decide +kernel
set_option maxHeartbeats 4000000 in
set_option maxRecDepth 100000 in
theorem k_X11_chance (l : Launch) (X : xX) (S : xS) (hs : s_X11_chance S) : Met l yX11_chance wsX11_chance ({ frames := 1, cells := 0, slots := 0, locals := 21 } : Room) (va_Pc [.ref (X.2.1 127)] (xI X S)) (va_Qv (fun u : xS => u = (f_X11_chance S)) (xI X) (xA X)) 0 0 (xA X) := sorry
theorem hd_X11_drift : yX11_drift.cls = RX11 ∧ yX11_drift.cls ≠ "java/lang/invoke/MethodHandle" ∧ yX11_drift.cls ≠ "java/lang/invoke/VarHandle" ∧ (parseMethodDescriptor yX11_drift.desc).map (fun d => d.parameters.length) = some 1 := by decide +kernel
set_option maxHeartbeats 4000000 in
set_option maxRecDepth 100000 in
theorem k_X11_drift (l : Launch) (X : xX) (S : xS) (p0 : Int32) (hs : s_X11_drift S p0) : Met l yX11_drift wsX11_drift ({ frames := 4, cells := 0, slots := 0, locals := 92 } : Room) (va_Pc [.ref (X.2.1 127), .int p0] (xI X S)) (va_Qi (fun (r : Int32) (u : xS) => r = (f_X11_drift S p0).1 ∧ u = (f_X11_drift S p0).2) (xI X) (xA X)) 0 0 (xA X) := sorry
theorem hd_X11_undo : yX11_undo.cls = RX11 ∧ yX11_undo.cls ≠ "java/lang/invoke/MethodHandle" ∧ yX11_undo.cls ≠ "java/lang/invoke/VarHandle" ∧ (parseMethodDescriptor yX11_undo.desc).map (fun d => d.parameters.length) = some 0 := by decide +kernel
set_option maxHeartbeats 4000000 in
set_option maxRecDepth 100000 in
theorem k_X11_undo (l : Launch) (X : xX) (S : xS) (hs : s_X11_undo S) : Met l yX11_undo wsX11_undo ({ frames := 0, cells := 0, slots := 0, locals := 0 } : Room) (va_Pc [.ref (X.2.1 127)] (xI X S)) (va_Qi (fun (r : Int32) (u : xS) => r = (f_X11_undo S).1 ∧ u = (f_X11_undo S).2) (xI X) (xA X)) 0 0 (xA X) := sorry
theorem hd_X11_tries : yX11_tries.cls = RX11 ∧ yX11_tries.cls ≠ "java/lang/invoke/MethodHandle" ∧ yX11_tries.cls ≠ "java/lang/invoke/VarHandle" ∧ (parseMethodDescriptor yX11_tries.desc).map (fun d => d.parameters.length) = some 0 := by decide +kernel
set_option maxHeartbeats 4000000 in
set_option maxRecDepth 100000 in
theorem k_X11_tries (l : Launch) (X : xX) (S : xS) (hs : s_X11_tries S) : Met l yX11_tries wsX11_tries ({ frames := 0, cells := 0, slots := 0, locals := 0 } : Room) (va_Pc [.ref (X.2.1 127)] (xI X S)) (va_Qv (fun u : xS => u = (f_X11_tries S)) (xI X) (xA X)) 0 0 (xA X) := sorry
theorem hd_X11_warm : yX11_warm.cls = RX11 ∧ yX11_warm.cls ≠ "java/lang/invoke/MethodHandle" ∧ yX11_warm.cls ≠ "java/lang/invoke/VarHandle" ∧ (parseMethodDescriptor yX11_warm.desc).map (fun d => d.parameters.length) = some 2 := by decide +kernel
set_option maxHeartbeats 4000000 in
set_option maxRecDepth 100000 in
theorem k_X11_warm (l : Launch) (X : xX) (S : xS) (p0 : Int32) (p1 : Int32) (hs : s_X11_warm S p0 p1) : Met l yX11_warm wsX11_warm ({ frames := 4, cells := 0, slots := 0, locals := 92 } : Room) (va_Pc [.ref (X.2.1 127), .int p0, .int p1] (xI X S)) (va_Qi (fun (r : Int32) (u : xS) => r = (f_X11_warm S p0 p1).1 ∧ u = (f_X11_warm S p0 p1).2) (xI X) (xA X)) 0 0 (xA X) := sorry
theorem hd_X11_bestRoom : yX11_bestRoom.cls = RX11 ∧ yX11_bestRoom.cls ≠ "java/lang/invoke/MethodHandle" ∧ yX11_bestRoom.cls ≠ "java/lang/invoke/VarHandle" ∧ (parseMethodDescriptor yX11_bestRoom.desc).map (fun d => d.parameters.length) = some 3 := by decide +kernel
set_option maxHeartbeats 4000000 in
set_option maxRecDepth 100000 in
theorem k_X11_bestRoom (l : Launch) (X : xX) (S : xS) (p0 : Int32) (p1 : Int32) (p2 : Int32) (hs : s_X11_bestRoom S p0 p1 p2) : Met l yX11_bestRoom wsX11_bestRoom ({ frames := 4, cells := 0, slots := 0, locals := 92 } : Room) (va_Pc [.ref (X.2.1 127), .int p0, .int p1, .int p2] (xI X S)) (va_Qi (fun (r : Int32) (u : xS) => r = (f_X11_bestRoom S p0 p1 p2).1 ∧ u = (f_X11_bestRoom S p0 p1 p2).2) (xI X) (xA X)) 0 0 (xA X) := sorry
theorem hd_X11_warmer : yX11_warmer.cls = RX11 ∧ yX11_warmer.cls ≠ "java/lang/invoke/MethodHandle" ∧ yX11_warmer.cls ≠ "java/lang/invoke/VarHandle" ∧ (parseMethodDescriptor yX11_warmer.desc).map (fun d => d.parameters.length) = some 4 := by decide +kernel
set_option maxHeartbeats 4000000 in
set_option maxRecDepth 100000 in
theorem k_X11_warmer (l : Launch) (X : xX) (S : xS) (p0 : Int32) (p1 : Int32) (p2 : Int32) (p3 : Int32) (hs : s_X11_warmer S p0 p1 p2 p3) : Met l yX11_warmer wsX11_warmer ({ frames := 3, cells := 0, slots := 0, locals := 68 } : Room) (va_Pc [.ref (X.2.1 127), .int p0, .int p1, .int p2, .int p3] (xI X S)) (va_Qi (fun (r : Int32) (u : xS) => r = (f_X11_warmer S p0 p1 p2 p3).1 ∧ u = (f_X11_warmer S p0 p1 p2 p3).2) (xI X) (xA X)) 0 0 (xA X) := sorry
theorem hd_X11_route : yX11_route.cls = RX11 ∧ yX11_route.cls ≠ "java/lang/invoke/MethodHandle" ∧ yX11_route.cls ≠ "java/lang/invoke/VarHandle" ∧ (parseMethodDescriptor yX11_route.desc).map (fun d => d.parameters.length) = some 3 := by decide +kernel
set_option maxHeartbeats 4000000 in
set_option maxRecDepth 100000 in
theorem k_X11_route (l : Launch) (X : xX) (S : xS) (p0 : Int32) (p1 : Int32) (p2 : Int32) (hs : s_X11_route S p0 p1 p2) : Met l yX11_route wsX11_route ({ frames := 4, cells := 0, slots := 0, locals := 94 } : Room) (va_Pc [.ref (X.2.1 127), .int p0, .int p1, .int p2] (xI X S)) (va_Qi (fun (r : Int32) (u : xS) => r = (f_X11_route S p0 p1 p2).1 ∧ u = (f_X11_route S p0 p1 p2).2) (xI X) (xA X)) 0 0 (xA X) := sorry
theorem hd_X11_leavers : yX11_leavers.cls = RX11 ∧ yX11_leavers.cls ≠ "java/lang/invoke/MethodHandle" ∧ yX11_leavers.cls ≠ "java/lang/invoke/VarHandle" ∧ (parseMethodDescriptor yX11_leavers.desc).map (fun d => d.parameters.length) = some 2 := by decide +kernel
set_option maxHeartbeats 4000000 in
set_option maxRecDepth 100000 in
theorem k_X11_leavers (l : Launch) (X : xX) (S : xS) (p0 : Int32) (p1 : Int32) (hs : s_X11_leavers S p0 p1) : Met l yX11_leavers wsX11_leavers ({ frames := 4, cells := 0, slots := 0, locals := 92 } : Room) (va_Pc [.ref (X.2.1 127), .int p0, .int p1] (xI X S)) (va_Qi (fun (r : Int32) (u : xS) => r = (f_X11_leavers S p0 p1).1 ∧ u = (f_X11_leavers S p0 p1).2) (xI X) (xA X)) 0 0 (xA X) := sorry
theorem hd_X11_silent : yX11_silent.cls = RX11 ∧ yX11_silent.cls ≠ "java/lang/invoke/MethodHandle" ∧ yX11_silent.cls ≠ "java/lang/invoke/VarHandle" ∧ (parseMethodDescriptor yX11_silent.desc).map (fun d => d.parameters.length) = some 1 := by decide +kernel
set_option maxHeartbeats 4000000 in
set_option maxRecDepth 100000 in
theorem k_X11_silent (l : Launch) (X : xX) (S : xS) (p0 : Int32) (hs : s_X11_silent S p0) : Met l yX11_silent wsX11_silent ({ frames := 4, cells := 0, slots := 0, locals := 92 } : Room) (va_Pc [.ref (X.2.1 127), .int p0] (xI X S)) (va_Qi (fun (r : Int32) (u : xS) => r = (f_X11_silent S p0) ∧ u = S) (xI X) (xA X)) 0 0 (xA X) := sorry
theorem hd_X11_knowThen : yX11_knowThen.cls = RX11 ∧ yX11_knowThen.cls ≠ "java/lang/invoke/MethodHandle" ∧ yX11_knowThen.cls ≠ "java/lang/invoke/VarHandle" ∧ (parseMethodDescriptor yX11_knowThen.desc).map (fun d => d.parameters.length) = some 1 := by decide +kernel
set_option maxHeartbeats 4000000 in
set_option maxRecDepth 100000 in
theorem k_X11_knowThen (l : Launch) (X : xX) (S : xS) (p0 : Int32) (hs : s_X11_knowThen S p0) : Met l yX11_knowThen wsX11_knowThen ({ frames := 2, cells := 0, slots := 0, locals := 44 } : Room) (va_Pc [.ref (X.2.1 127), .int p0] (xI X S)) (va_Qi (fun (r : Int32) (u : xS) => r = (f_X11_knowThen S p0) ∧ u = S) (xI X) (xA X)) 0 0 (xA X) := sorry
theorem hd_X11_carried : yX11_carried.cls = RX11 ∧ yX11_carried.cls ≠ "java/lang/invoke/MethodHandle" ∧ yX11_carried.cls ≠ "java/lang/invoke/VarHandle" ∧ (parseMethodDescriptor yX11_carried.desc).map (fun d => d.parameters.length) = some 2 := by decide +kernel
set_option maxHeartbeats 4000000 in
set_option maxRecDepth 100000 in
theorem k_X11_carried (l : Launch) (X : xX) (S : xS) (p0 : Int32) (p1 : Int32) (hs : s_X11_carried S p0 p1) : Met l yX11_carried wsX11_carried ({ frames := 3, cells := 0, slots := 0, locals := 68 } : Room) (va_Pc [.ref (X.2.1 127), .int p0, .int p1] (xI X S)) (va_Qi (fun (r : Int32) (u : xS) => r = (f_X11_carried S p0 p1) ∧ u = S) (xI X) (xA X)) 0 0 (xA X) := sorry
theorem hd_X11_hale : yX11_hale.cls = RX11 ∧ yX11_hale.cls ≠ "java/lang/invoke/MethodHandle" ∧ yX11_hale.cls ≠ "java/lang/invoke/VarHandle" ∧ (parseMethodDescriptor yX11_hale.desc).map (fun d => d.parameters.length) = some 2 := by decide +kernel
set_option maxHeartbeats 4000000 in
set_option maxRecDepth 100000 in
theorem k_X11_hale (l : Launch) (X : xX) (S : xS) (p0 : Int32) (p1 : Int32) (hs : s_X11_hale S p0 p1) : Met l yX11_hale wsX11_hale ({ frames := 1, cells := 0, slots := 0, locals := 25 } : Room) (va_Pc [.ref (X.2.1 127), .int p0, .int p1] (xI X S)) (va_Qi (fun (r : Int32) (u : xS) => r = (f_X11_hale S p0 p1) ∧ u = S) (xI X) (xA X)) 0 0 (xA X) := sorry
theorem hd_X11_note : yX11_note.cls = RX11 ∧ yX11_note.cls ≠ "java/lang/invoke/MethodHandle" ∧ yX11_note.cls ≠ "java/lang/invoke/VarHandle" ∧ (parseMethodDescriptor yX11_note.desc).map (fun d => d.parameters.length) = some 3 := by decide +kernel
set_option maxHeartbeats 4000000 in
set_option maxRecDepth 100000 in
theorem k_X11_note (l : Launch) (X : xX) (S : xS) (p0 : Int32) (p1 : Int32) (p2 : Int32) (hs : s_X11_note S p0 p1 p2) : Met l yX11_note wsX11_note ({ frames := 1, cells := 0, slots := 0, locals := 25 } : Room) (va_Pc [.ref (X.2.1 127), .int p0, .int p1, .int p2] (xI X S)) (va_Qi (fun (r : Int32) (u : xS) => r = (f_X11_note S p0 p1 p2).1 ∧ u = (f_X11_note S p0 p1 p2).2) (xI X) (xA X)) 0 0 (xA X) := sorry
theorem hd_X11_isSo : yX11_isSo.cls = RX11 ∧ yX11_isSo.cls ≠ "java/lang/invoke/MethodHandle" ∧ yX11_isSo.cls ≠ "java/lang/invoke/VarHandle" ∧ (parseMethodDescriptor yX11_isSo.desc).map (fun d => d.parameters.length) = some 1 := by decide +kernel
set_option maxHeartbeats 4000000 in
set_option maxRecDepth 100000 in
theorem k_X11_isSo (l : Launch) (X : xX) (S : xS) (p0 : Int32) (hs : s_X11_isSo S p0) : Met l yX11_isSo wsX11_isSo ({ frames := 1, cells := 0, slots := 0, locals := 23 } : Room) (va_Pc [.ref (X.2.1 127), .int p0] (xI X S)) (va_Qi (fun (r : Int32) (u : xS) => (r = (f_X11_isSo S p0) ∧ (r = 0 ∨ r = 1)) ∧ u = S) (xI X) (xA X)) 0 0 (xA X) := sorry
theorem hd_X11_thinks : yX11_thinks.cls = RX11 ∧ yX11_thinks.cls ≠ "java/lang/invoke/MethodHandle" ∧ yX11_thinks.cls ≠ "java/lang/invoke/VarHandle" ∧ (parseMethodDescriptor yX11_thinks.desc).map (fun d => d.parameters.length) = some 1 := by decide +kernel
set_option maxHeartbeats 4000000 in
set_option maxRecDepth 100000 in
theorem k_X11_thinks (l : Launch) (X : xX) (S : xS) (p0 : Int32) (hs : s_X11_thinks S p0) : Met l yX11_thinks wsX11_thinks ({ frames := 2, cells := 0, slots := 0, locals := 46 } : Room) (va_Pc [.ref (X.2.1 127), .int p0] (xI X S)) (va_Qi (fun (r : Int32) (u : xS) => r = (f_X11_thinks S p0) ∧ u = S) (xI X) (xA X)) 0 0 (xA X) := sorry
theorem hd_X11_ask : yX11_ask.cls = RX11 ∧ yX11_ask.cls ≠ "java/lang/invoke/MethodHandle" ∧ yX11_ask.cls ≠ "java/lang/invoke/VarHandle" ∧ (parseMethodDescriptor yX11_ask.desc).map (fun d => d.parameters.length) = some 1 := by decide +kernel
set_option maxHeartbeats 4000000 in
set_option maxRecDepth 100000 in
theorem k_X11_ask (l : Launch) (X : xX) (S : xS) (p0 : Int32) (hs : s_X11_ask S p0) : Met l yX11_ask wsX11_ask ({ frames := 3, cells := 0, slots := 0, locals := 71 } : Room) (va_Pc [.ref (X.2.1 127), .int p0] (xI X S)) (va_Qi (fun (r : Int32) (u : xS) => r = (f_X11_ask S p0) ∧ u = S) (xI X) (xA X)) 0 0 (xA X) := sorry
theorem hd_X11_listens : yX11_listens.cls = RX11 ∧ yX11_listens.cls ≠ "java/lang/invoke/MethodHandle" ∧ yX11_listens.cls ≠ "java/lang/invoke/VarHandle" ∧ (parseMethodDescriptor yX11_listens.desc).map (fun d => d.parameters.length) = some 3 := by decide +kernel
set_option maxHeartbeats 4000000 in
set_option maxRecDepth 100000 in
theorem k_X11_listens (l : Launch) (X : xX) (S : xS) (p0 : Int32) (p1 : Int32) (p2 : Int32) (hs : s_X11_listens S p0 p1 p2) : Met l yX11_listens wsX11_listens ({ frames := 3, cells := 0, slots := 0, locals := 68 } : Room) (va_Pc [.ref (X.2.1 127), .int p0, .int p1, .int p2] (xI X S)) (va_Qi (fun (r : Int32) (u : xS) => r = (f_X11_listens S p0 p1 p2).1 ∧ u = (f_X11_listens S p0 p1 p2).2) (xI X) (xA X)) 0 0 (xA X) := sorry
theorem hd_X11_write : yX11_write.cls = RX11 ∧ yX11_write.cls ≠ "java/lang/invoke/MethodHandle" ∧ yX11_write.cls ≠ "java/lang/invoke/VarHandle" ∧ (parseMethodDescriptor yX11_write.desc).map (fun d => d.parameters.length) = some 2 := by decide +kernel
set_option maxHeartbeats 4000000 in
set_option maxRecDepth 100000 in
theorem k_X11_write (l : Launch) (X : xX) (S : xS) (p0 : Int32) (p1 : Int32) (hs : s_X11_write S p0 p1) : Met l yX11_write wsX11_write ({ frames := 2, cells := 0, slots := 0, locals := 46 } : Room) (va_Pc [.ref (X.2.1 127), .int p0, .int p1] (xI X S)) (va_Qi (fun (r : Int32) (u : xS) => r = (f_X11_write S p0 p1).1 ∧ u = (f_X11_write S p0 p1).2) (xI X) (xA X)) 0 0 (xA X) := sorry
theorem hd_X11_tear : yX11_tear.cls = RX11 ∧ yX11_tear.cls ≠ "java/lang/invoke/MethodHandle" ∧ yX11_tear.cls ≠ "java/lang/invoke/VarHandle" ∧ (parseMethodDescriptor yX11_tear.desc).map (fun d => d.parameters.length) = some 0 := by decide +kernel
set_option maxHeartbeats 4000000 in
set_option maxRecDepth 100000 in
theorem k_X11_tear (l : Launch) (X : xX) (S : xS) : Met l yX11_tear wsX11_tear ({ frames := 0, cells := 0, slots := 0, locals := 0 } : Room) (va_Pc [.ref (X.2.1 127)] (xI X S)) (va_Qi (fun (r : Int32) (u : xS) => r = (f_X11_tear S).1 ∧ u = (f_X11_tear S).2) (xI X) (xA X)) 0 0 (xA X) := sorry
theorem hd_X11_judge : yX11_judge.cls = RX11 ∧ yX11_judge.cls ≠ "java/lang/invoke/MethodHandle" ∧ yX11_judge.cls ≠ "java/lang/invoke/VarHandle" ∧ (parseMethodDescriptor yX11_judge.desc).map (fun d => d.parameters.length) = some 0 := by decide +kernel
set_option maxHeartbeats 4000000 in
set_option maxRecDepth 100000 in
theorem k_X11_judge (l : Launch) (X : xX) (S : xS) (hs : s_X11_judge S) : Met l yX11_judge wsX11_judge ({ frames := 0, cells := 0, slots := 0, locals := 0 } : Room) (va_Pc [.ref (X.2.1 127)] (xI X S)) (va_Qi (fun (r : Int32) (u : xS) => r = (f_X11_judge S) ∧ u = S) (xI X) (xA X)) 0 0 (xA X) := sorry
theorem hd_X11_seed : yX11_seed.cls = RX11 ∧ yX11_seed.cls ≠ "java/lang/invoke/MethodHandle" ∧ yX11_seed.cls ≠ "java/lang/invoke/VarHandle" ∧ (parseMethodDescriptor yX11_seed.desc).map (fun d => d.parameters.length) = some 1 := by decide +kernel
set_option maxHeartbeats 4000000 in
set_option maxRecDepth 100000 in
theorem k_X11_seed (l : Launch) (X : xX) (S : xS) (p0 : Int32) : Met l yX11_seed wsX11_seed ({ frames := 0, cells := 0, slots := 0, locals := 0 } : Room) (va_Pc [.ref (X.2.1 127), .int p0] (xI X S)) (va_Qi (fun (r : Int32) (u : xS) => r = (f_X11_seed S p0).1 ∧ u = (f_X11_seed S p0).2) (xI X) (xA X)) 0 0 (xA X) := sorry
theorem hd_X11_keep : yX11_keep.cls = RX11 ∧ yX11_keep.cls ≠ "java/lang/invoke/MethodHandle" ∧ yX11_keep.cls ≠ "java/lang/invoke/VarHandle" ∧ (parseMethodDescriptor yX11_keep.desc).map (fun d => d.parameters.length) = some 1 := by decide +kernel
set_option maxHeartbeats 4000000 in
set_option maxRecDepth 100000 in
theorem k_X11_keep (l : Launch) (X : xX) (S : xS) (p0 : Int32) (hs : s_X11_keep S p0) : Met l yX11_keep wsX11_keep ({ frames := 1, cells := 0, slots := 0, locals := 25 } : Room) (va_Pc [.ref (X.2.1 127), .int p0] (xI X S)) (va_Qi (fun (r : Int32) (u : xS) => r = (f_X11_keep S p0).1 ∧ u = (f_X11_keep S p0).2) (xI X) (xA X)) 0 0 (xA X) := sorry
theorem hd_X11_goBack : yX11_goBack.cls = RX11 ∧ yX11_goBack.cls ≠ "java/lang/invoke/MethodHandle" ∧ yX11_goBack.cls ≠ "java/lang/invoke/VarHandle" ∧ (parseMethodDescriptor yX11_goBack.desc).map (fun d => d.parameters.length) = some 1 := by decide +kernel
set_option maxHeartbeats 4000000 in
set_option maxRecDepth 100000 in
theorem k_X11_goBack (l : Launch) (X : xX) (S : xS) (p0 : Int32) (hs : s_X11_goBack S p0) : Met l yX11_goBack wsX11_goBack ({ frames := 1, cells := 0, slots := 0, locals := 25 } : Room) (va_Pc [.ref (X.2.1 127), .int p0] (xI X S)) (va_Qi (fun (r : Int32) (u : xS) => r = (f_X11_goBack S p0).1 ∧ u = (f_X11_goBack S p0).2) (xI X) (xA X)) 0 0 (xA X) := sorry
