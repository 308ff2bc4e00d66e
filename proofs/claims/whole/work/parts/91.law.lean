set_option maxHeartbeats 4000000 in
set_option maxRecDepth 100000 in
theorem law_case_feed {p : Program} {l : Launch} {e : Env} {s : State} {m : MethodId} {below : List Frame} {meth : Method} {c : Code} {X : xX} {b L : Nat} {xs : Nat → Int32} {Q : State → Prop} {cells slots : Nat} (hC : lwC X p s m meth c b L xs) (hcl : cells ≤ room_1.cells) (hsl : slots ≤ room_1.slots) {k : Nat} (hk : k + 4 ≤ L) {S : xS} (hR : xR S) {H : Heap} {locs : List Loc} (hP : va_P X.1 vwCl (xW X S) H) (hS : va_S (lwA s) s.heap H locs) {ls : Array Slot} (hl : lv_has ls 4 [(0, .ref b), (1, .ref (X.2.1 0)), (2, .ref (X.2.1 127)), (3, .int (nI k))])
    (kk : ∀ (S2 : xS) (_ : xR S2) (H : Heap) (locs : List Loc), va_P X.1 vwCl (xW X S2) H → va_S (lwA s) s.heap H locs → ∀ (ls : Array Slot), lv_has ls 4 [(0, .ref b), (1, .ref (X.2.1 0)), (2, .ref (X.2.1 127)), (3, .int (nI k))] → W p l e room_1 s m #[Value.ref b] below meth c H locs cells slots Q (F0 m 1061 ls [])) :
    W p l e room_1 s m #[Value.ref b] below meth c H locs cells slots Q (F0 m 172 ls []) := by
  have hx := hC.1.1
  have hb := hC.1.2.1
  have hts := hC.1.2.2.2.2
  have hX := hC.2.2.2.2.2.1
  have hbl := hC.2.2.2.2.2.2.1
  have hL := hC.2.2.2.2.2.2.2.2.2
  have hbA : ¬ lwA s b := Nat.not_le.mpr hbl
  refine lv_aload_n hx hb dL_law_172 rfl (lv_at hl 1 rfl) ?_
  refine lv_aload_n hx hb dL_law_173 rfl (lv_at hl 0 rfl) ?_
  refine lv_iload_n hx hb dL_law_174 rfl (lv_at hl 3 rfl) ?_
  refine lv_iconst (v := 1) hx hb dL_law_175 (by decide) ?_
  refine lv_iadd hx hb dL_law_176 ?_
  refine va_sld hx hb hX hbl hbA hS (nI_idx (j := 1) (by omega) hL) dL_law_177 ?_
  have ho := op_feed hR (xs ((nI k) + 1).toNatClampNeg)
  refine lwcall (bb := 0) (As := [.int (xs ((nI k) + 1).toNatClampNeg)]) (rest := []) (P := (fun (r : Int32) (u : xS) => r = (f_X10_feed S (xs ((nI k) + 1).toNatClampNeg)).1 ∧ u = (f_X10_feed S (xs ((nI k) + 1).toNatClampNeg)).2)) hC hP hS (k_X10_feed l X S (xs ((nI k) + 1).toNatClampNeg)) (cwV 1 hts gL_law_X10_feed rfl rfl rfl hd_X10_feed ⟨Nat.le_of_ble_eq_true rfl, Nat.le_of_ble_eq_true rfl⟩) xo_X10 rfl rfl rfl hl.1 (Nat.le_of_ble_eq_true rfl) dL_law_178 hcl hsl (fun r1 S1 hp_r1 H locs hP hS => ?_)
  obtain ⟨he_r1, hu_r1⟩ := hp_r1
  rw [← hu_r1, ← he_r1] at ho
  refine lv_aload_n hx hb dL_law_181 rfl (lv_at hl 2 rfl) ?_
  refine lv_aload_n hx hb dL_law_182 rfl (lv_at hl 0 rfl) ?_
  refine lv_iload_n hx hb dL_law_183 rfl (lv_at hl 3 rfl) ?_
  refine lv_iconst (v := 1) hx hb dL_law_184 (by decide) ?_
  refine lv_iadd hx hb dL_law_185 ?_
  refine va_sld hx hb hX hbl hbA hS (nI_idx (j := 1) (by omega) hL) dL_law_186 ?_
  refine lwcall (bb := 127) (As := [.int (xs ((nI k) + 1).toNatClampNeg)]) (rest := [.int r1]) (P := (fun (r : Int32) (u : xS) => r = (f_X11_feed S1 (xs ((nI k) + 1).toNatClampNeg)).1 ∧ u = (f_X11_feed S1 (xs ((nI k) + 1).toNatClampNeg)).2)) hC hP hS (k_X11_feed l X S1 (xs ((nI k) + 1).toNatClampNeg) ho.1) (cwV 1 hts gL_law_X11_feed rfl rfl rfl hd_X11_feed ⟨Nat.le_of_ble_eq_true rfl, Nat.le_of_ble_eq_true rfl⟩) xo_X11 rfl rfl rfl hl.1 (Nat.le_of_ble_eq_true rfl) dL_law_187 hcl hsl (fun r2 S2 hp_r2 H locs hP hS => ?_)
  obtain ⟨he_r2, hu_r2⟩ := hp_r2
  rw [← he_r2, ← hu_r2] at ho
  refine lv_icmp_eq (tgt := 1061) hx hb dL_law_190 (by decide) (fun _ => ?_) (fun c => absurd ho.2.1 c)
  exact kk _ ho.2.2 _ _ hP hS ls hl
set_option maxHeartbeats 4000000 in
set_option maxRecDepth 100000 in
theorem law_case_hill {p : Program} {l : Launch} {e : Env} {s : State} {m : MethodId} {below : List Frame} {meth : Method} {c : Code} {X : xX} {b L : Nat} {xs : Nat → Int32} {Q : State → Prop} {cells slots : Nat} (hC : lwC X p s m meth c b L xs) (hcl : cells ≤ room_1.cells) (hsl : slots ≤ room_1.slots) {k : Nat} (hk : k + 4 ≤ L) {S : xS} (hR : xR S) {H : Heap} {locs : List Loc} (hP : va_P X.1 vwCl (xW X S) H) (hS : va_S (lwA s) s.heap H locs) {ls : Array Slot} (hl : lv_has ls 4 [(0, .ref b), (1, .ref (X.2.1 0)), (2, .ref (X.2.1 127)), (3, .int (nI k))])
    (kk : ∀ (S2 : xS) (_ : xR S2) (H : Heap) (locs : List Loc), va_P X.1 vwCl (xW X S2) H → va_S (lwA s) s.heap H locs → ∀ (ls : Array Slot), lv_has ls 4 [(0, .ref b), (1, .ref (X.2.1 0)), (2, .ref (X.2.1 127)), (3, .int (nI k))] → W p l e room_1 s m #[Value.ref b] below meth c H locs cells slots Q (F0 m 1061 ls [])) :
    W p l e room_1 s m #[Value.ref b] below meth c H locs cells slots Q (F0 m 195 ls []) := by
  have hx := hC.1.1
  have hb := hC.1.2.1
  have hts := hC.1.2.2.2.2
  have hX := hC.2.2.2.2.2.1
  have hbl := hC.2.2.2.2.2.2.1
  have hL := hC.2.2.2.2.2.2.2.2.2
  have hbA : ¬ lwA s b := Nat.not_le.mpr hbl
  refine lv_aload_n hx hb dL_law_195 rfl (lv_at hl 1 rfl) ?_
  have ho := op_hill hR
  refine lwcall (bb := 0) (As := []) (rest := []) (P := (fun (r : Int32) (u : xS) => r = (f_X10_hill S).1 ∧ u = (f_X10_hill S).2)) hC hP hS (k_X10_hill l X S ho.1) (cwV 0 hts gL_law_X10_hill rfl rfl rfl hd_X10_hill ⟨Nat.le_of_ble_eq_true rfl, Nat.le_of_ble_eq_true rfl⟩) xo_X10 rfl rfl rfl hl.1 (Nat.le_of_ble_eq_true rfl) dL_law_196 hcl hsl (fun r1 S1 hp_r1 H locs hP hS => ?_)
  obtain ⟨he_r1, hu_r1⟩ := hp_r1
  rw [← hu_r1, ← he_r1] at ho
  refine lv_aload_n hx hb dL_law_199 rfl (lv_at hl 2 rfl) ?_
  refine lwcall (bb := 127) (As := []) (rest := [.int r1]) (P := (fun (r : Int32) (u : xS) => r = (f_X11_hill S1).1 ∧ u = (f_X11_hill S1).2)) hC hP hS (k_X11_hill l X S1 ho.2.1) (cwV 0 hts gL_law_X11_hill rfl rfl rfl hd_X11_hill ⟨Nat.le_of_ble_eq_true rfl, Nat.le_of_ble_eq_true rfl⟩) xo_X11 rfl rfl rfl hl.1 (Nat.le_of_ble_eq_true rfl) dL_law_200 hcl hsl (fun r2 S2 hp_r2 H locs hP hS => ?_)
  obtain ⟨he_r2, hu_r2⟩ := hp_r2
  rw [← he_r2, ← hu_r2] at ho
  refine lv_icmp_eq (tgt := 1061) hx hb dL_law_203 (by decide) (fun _ => ?_) (fun c => absurd ho.2.2.1 c)
  exact kk _ ho.2.2.2 _ _ hP hS ls hl
set_option maxHeartbeats 4000000 in
set_option maxRecDepth 100000 in
theorem law_case_fault {p : Program} {l : Launch} {e : Env} {s : State} {m : MethodId} {below : List Frame} {meth : Method} {c : Code} {X : xX} {b L : Nat} {xs : Nat → Int32} {Q : State → Prop} {cells slots : Nat} (hC : lwC X p s m meth c b L xs) (hcl : cells ≤ room_1.cells) (hsl : slots ≤ room_1.slots) {k : Nat} (hk : k + 4 ≤ L) {S : xS} (hR : xR S) {H : Heap} {locs : List Loc} (hP : va_P X.1 vwCl (xW X S) H) (hS : va_S (lwA s) s.heap H locs) {ls : Array Slot} (hl : lv_has ls 4 [(0, .ref b), (1, .ref (X.2.1 0)), (2, .ref (X.2.1 127)), (3, .int (nI k))])
    (kk : ∀ (S2 : xS) (_ : xR S2) (H : Heap) (locs : List Loc), va_P X.1 vwCl (xW X S2) H → va_S (lwA s) s.heap H locs → ∀ (ls : Array Slot), lv_has ls 4 [(0, .ref b), (1, .ref (X.2.1 0)), (2, .ref (X.2.1 127)), (3, .int (nI k))] → W p l e room_1 s m #[Value.ref b] below meth c H locs cells slots Q (F0 m 1061 ls [])) :
    W p l e room_1 s m #[Value.ref b] below meth c H locs cells slots Q (F0 m 208 ls []) := by
  have hx := hC.1.1
  have hb := hC.1.2.1
  have hts := hC.1.2.2.2.2
  have hX := hC.2.2.2.2.2.1
  have hbl := hC.2.2.2.2.2.2.1
  have hL := hC.2.2.2.2.2.2.2.2.2
  have hbA : ¬ lwA s b := Nat.not_le.mpr hbl
  refine lv_aload_n hx hb dL_law_208 rfl (lv_at hl 1 rfl) ?_
  have ho := op_fault hR
  refine lwcall (bb := 0) (As := []) (rest := []) (P := (fun (r : Int32) (u : xS) => r = f_X10_fault S ∧ u = S)) hC hP hS (k_X10_fault l X S) (cwV 0 hts gL_law_X10_fault rfl rfl rfl hd_X10_fault ⟨Nat.le_of_ble_eq_true rfl, Nat.le_of_ble_eq_true rfl⟩) xo_X10 rfl rfl rfl hl.1 (Nat.le_of_ble_eq_true rfl) dL_law_209 hcl hsl (fun r1 S1 hp_r1 H locs hP hS => ?_)
  obtain ⟨he_r1, hu_r1⟩ := hp_r1
  rw [← he_r1] at ho
  rw [hu_r1] at hP
  refine lv_aload_n hx hb dL_law_212 rfl (lv_at hl 2 rfl) ?_
  refine lwcall (bb := 127) (As := []) (rest := [.int r1]) (P := (fun (r : Int32) (u : xS) => r = f_X11_fault S ∧ u = S)) hC hP hS (k_X11_fault l X S) (cwV 0 hts gL_law_X11_fault rfl rfl rfl hd_X11_fault ⟨Nat.le_of_ble_eq_true rfl, Nat.le_of_ble_eq_true rfl⟩) xo_X11 rfl rfl rfl hl.1 (Nat.le_of_ble_eq_true rfl) dL_law_213 hcl hsl (fun r2 S2 hp_r2 H locs hP hS => ?_)
  obtain ⟨he_r2, hu_r2⟩ := hp_r2
  rw [← he_r2] at ho
  rw [hu_r2] at hP
  refine lv_icmp_eq (tgt := 1061) hx hb dL_law_216 (by decide) (fun _ => ?_) (fun c => absurd ho.1 c)
  exact kk _ ho.2 _ _ hP hS ls hl
set_option maxHeartbeats 4000000 in
set_option maxRecDepth 100000 in
theorem law_case_told {p : Program} {l : Launch} {e : Env} {s : State} {m : MethodId} {below : List Frame} {meth : Method} {c : Code} {X : xX} {b L : Nat} {xs : Nat → Int32} {Q : State → Prop} {cells slots : Nat} (hC : lwC X p s m meth c b L xs) (hcl : cells ≤ room_1.cells) (hsl : slots ≤ room_1.slots) {k : Nat} (hk : k + 4 ≤ L) {S : xS} (hR : xR S) {H : Heap} {locs : List Loc} (hP : va_P X.1 vwCl (xW X S) H) (hS : va_S (lwA s) s.heap H locs) {ls : Array Slot} (hl : lv_has ls 4 [(0, .ref b), (1, .ref (X.2.1 0)), (2, .ref (X.2.1 127)), (3, .int (nI k))])
    (kk : ∀ (S2 : xS) (_ : xR S2) (H : Heap) (locs : List Loc), va_P X.1 vwCl (xW X S2) H → va_S (lwA s) s.heap H locs → ∀ (ls : Array Slot), lv_has ls 4 [(0, .ref b), (1, .ref (X.2.1 0)), (2, .ref (X.2.1 127)), (3, .int (nI k))] → W p l e room_1 s m #[Value.ref b] below meth c H locs cells slots Q (F0 m 1061 ls [])) :
    W p l e room_1 s m #[Value.ref b] below meth c H locs cells slots Q (F0 m 221 ls []) := by
  have hx := hC.1.1
  have hb := hC.1.2.1
  have hts := hC.1.2.2.2.2
  have hX := hC.2.2.2.2.2.1
  have hbl := hC.2.2.2.2.2.2.1
  have hL := hC.2.2.2.2.2.2.2.2.2
  have hbA : ¬ lwA s b := Nat.not_le.mpr hbl
  refine lv_aload_n hx hb dL_law_221 rfl (lv_at hl 1 rfl) ?_
  refine lv_aload_n hx hb dL_law_222 rfl (lv_at hl 0 rfl) ?_
  refine lv_iload_n hx hb dL_law_223 rfl (lv_at hl 3 rfl) ?_
  refine lv_iconst (v := 1) hx hb dL_law_224 (by decide) ?_
  refine lv_iadd hx hb dL_law_225 ?_
  refine va_sld hx hb hX hbl hbA hS (nI_idx (j := 1) (by omega) hL) dL_law_226 ?_
  have ho := op_told hR (xs ((nI k) + 1).toNatClampNeg)
  refine lwcall (bb := 0) (As := [.int (xs ((nI k) + 1).toNatClampNeg)]) (rest := []) (P := (fun (r : Int32) (u : xS) => r = f_X10_told S (xs ((nI k) + 1).toNatClampNeg) ∧ u = S)) hC hP hS (k_X10_told l X S (xs ((nI k) + 1).toNatClampNeg) ho.1) (cwV 1 hts gL_law_X10_told rfl rfl rfl hd_X10_told ⟨Nat.le_of_ble_eq_true rfl, Nat.le_of_ble_eq_true rfl⟩) xo_X10 rfl rfl rfl hl.1 (Nat.le_of_ble_eq_true rfl) dL_law_227 hcl hsl (fun r1 S1 hp_r1 H locs hP hS => ?_)
  obtain ⟨he_r1, hu_r1⟩ := hp_r1
  rw [← he_r1] at ho
  rw [hu_r1] at hP
  refine lv_aload_n hx hb dL_law_230 rfl (lv_at hl 2 rfl) ?_
  refine lv_aload_n hx hb dL_law_231 rfl (lv_at hl 0 rfl) ?_
  refine lv_iload_n hx hb dL_law_232 rfl (lv_at hl 3 rfl) ?_
  refine lv_iconst (v := 1) hx hb dL_law_233 (by decide) ?_
  refine lv_iadd hx hb dL_law_234 ?_
  refine va_sld hx hb hX hbl hbA hS (nI_idx (j := 1) (by omega) hL) dL_law_235 ?_
  refine lwcall (bb := 127) (As := [.int (xs ((nI k) + 1).toNatClampNeg)]) (rest := [.int r1]) (P := (fun (r : Int32) (u : xS) => r = f_X11_told S (xs ((nI k) + 1).toNatClampNeg) ∧ u = S)) hC hP hS (k_X11_told l X S (xs ((nI k) + 1).toNatClampNeg) ho.2.1) (cwV 1 hts gL_law_X11_told rfl rfl rfl hd_X11_told ⟨Nat.le_of_ble_eq_true rfl, Nat.le_of_ble_eq_true rfl⟩) xo_X11 rfl rfl rfl hl.1 (Nat.le_of_ble_eq_true rfl) dL_law_236 hcl hsl (fun r2 S2 hp_r2 H locs hP hS => ?_)
  obtain ⟨he_r2, hu_r2⟩ := hp_r2
  rw [← he_r2] at ho
  rw [hu_r2] at hP
  refine lv_icmp_eq (tgt := 1061) hx hb dL_law_239 (by decide) (fun _ => ?_) (fun c => absurd ho.2.2.1 c)
  exact kk _ ho.2.2.2 _ _ hP hS ls hl
set_option maxHeartbeats 4000000 in
set_option maxRecDepth 100000 in
theorem law_case_room {p : Program} {l : Launch} {e : Env} {s : State} {m : MethodId} {below : List Frame} {meth : Method} {c : Code} {X : xX} {b L : Nat} {xs : Nat → Int32} {Q : State → Prop} {cells slots : Nat} (hC : lwC X p s m meth c b L xs) (hcl : cells ≤ room_1.cells) (hsl : slots ≤ room_1.slots) {k : Nat} (hk : k + 4 ≤ L) {S : xS} (hR : xR S) {H : Heap} {locs : List Loc} (hP : va_P X.1 vwCl (xW X S) H) (hS : va_S (lwA s) s.heap H locs) {ls : Array Slot} (hl : lv_has ls 4 [(0, .ref b), (1, .ref (X.2.1 0)), (2, .ref (X.2.1 127)), (3, .int (nI k))])
    (kk : ∀ (S2 : xS) (_ : xR S2) (H : Heap) (locs : List Loc), va_P X.1 vwCl (xW X S2) H → va_S (lwA s) s.heap H locs → ∀ (ls : Array Slot), lv_has ls 4 [(0, .ref b), (1, .ref (X.2.1 0)), (2, .ref (X.2.1 127)), (3, .int (nI k))] → W p l e room_1 s m #[Value.ref b] below meth c H locs cells slots Q (F0 m 1061 ls [])) :
    W p l e room_1 s m #[Value.ref b] below meth c H locs cells slots Q (F0 m 244 ls []) := by
  have hx := hC.1.1
  have hb := hC.1.2.1
  have hts := hC.1.2.2.2.2
  have hX := hC.2.2.2.2.2.1
  have hbl := hC.2.2.2.2.2.2.1
  have hL := hC.2.2.2.2.2.2.2.2.2
  have hbA : ¬ lwA s b := Nat.not_le.mpr hbl
  refine lv_aload_n hx hb dL_law_244 rfl (lv_at hl 1 rfl) ?_
  refine lv_aload_n hx hb dL_law_245 rfl (lv_at hl 0 rfl) ?_
  refine lv_iload_n hx hb dL_law_246 rfl (lv_at hl 3 rfl) ?_
  refine lv_iconst (v := 1) hx hb dL_law_247 (by decide) ?_
  refine lv_iadd hx hb dL_law_248 ?_
  refine va_sld hx hb hX hbl hbA hS (nI_idx (j := 1) (by omega) hL) dL_law_249 ?_
  refine lv_aload_n hx hb dL_law_250 rfl (lv_at hl 0 rfl) ?_
  refine lv_iload_n hx hb dL_law_251 rfl (lv_at hl 3 rfl) ?_
  refine lv_iconst (v := 2) hx hb dL_law_252 (by decide) ?_
  refine lv_iadd hx hb dL_law_253 ?_
  refine va_sld hx hb hX hbl hbA hS (nI_idx (j := 2) (by omega) hL) dL_law_254 ?_
  have ho := op_room hR (xs ((nI k) + 1).toNatClampNeg) (xs ((nI k) + 2).toNatClampNeg)
  refine lwcall (bb := 0) (As := [.int (xs ((nI k) + 1).toNatClampNeg), .int (xs ((nI k) + 2).toNatClampNeg)]) (rest := []) (P := (fun (r : Int32) (u : xS) => r = f_X10_room S (xs ((nI k) + 1).toNatClampNeg) (xs ((nI k) + 2).toNatClampNeg) ∧ u = S)) hC hP hS (k_X10_room l X S (xs ((nI k) + 1).toNatClampNeg) (xs ((nI k) + 2).toNatClampNeg) ho.1) (cwV 2 hts gL_law_X10_room rfl rfl rfl hd_X10_room ⟨Nat.le_of_ble_eq_true rfl, Nat.le_of_ble_eq_true rfl⟩) xo_X10 rfl rfl rfl hl.1 (Nat.le_of_ble_eq_true rfl) dL_law_255 hcl hsl (fun r1 S1 hp_r1 H locs hP hS => ?_)
  obtain ⟨he_r1, hu_r1⟩ := hp_r1
  rw [← he_r1] at ho
  rw [hu_r1] at hP
  refine lv_aload_n hx hb dL_law_258 rfl (lv_at hl 2 rfl) ?_
  refine lv_aload_n hx hb dL_law_259 rfl (lv_at hl 0 rfl) ?_
  refine lv_iload_n hx hb dL_law_260 rfl (lv_at hl 3 rfl) ?_
  refine lv_iconst (v := 1) hx hb dL_law_261 (by decide) ?_
  refine lv_iadd hx hb dL_law_262 ?_
  refine va_sld hx hb hX hbl hbA hS (nI_idx (j := 1) (by omega) hL) dL_law_263 ?_
  refine lv_aload_n hx hb dL_law_264 rfl (lv_at hl 0 rfl) ?_
  refine lv_iload_n hx hb dL_law_265 rfl (lv_at hl 3 rfl) ?_
  refine lv_iconst (v := 2) hx hb dL_law_266 (by decide) ?_
  refine lv_iadd hx hb dL_law_267 ?_
  refine va_sld hx hb hX hbl hbA hS (nI_idx (j := 2) (by omega) hL) dL_law_268 ?_
  refine lwcall (bb := 127) (As := [.int (xs ((nI k) + 1).toNatClampNeg), .int (xs ((nI k) + 2).toNatClampNeg)]) (rest := [.int r1]) (P := (fun (r : Int32) (u : xS) => r = f_X11_room S (xs ((nI k) + 1).toNatClampNeg) (xs ((nI k) + 2).toNatClampNeg) ∧ u = S)) hC hP hS (k_X11_room l X S (xs ((nI k) + 1).toNatClampNeg) (xs ((nI k) + 2).toNatClampNeg) ho.2.1) (cwV 2 hts gL_law_X11_room rfl rfl rfl hd_X11_room ⟨Nat.le_of_ble_eq_true rfl, Nat.le_of_ble_eq_true rfl⟩) xo_X11 rfl rfl rfl hl.1 (Nat.le_of_ble_eq_true rfl) dL_law_269 hcl hsl (fun r2 S2 hp_r2 H locs hP hS => ?_)
  obtain ⟨he_r2, hu_r2⟩ := hp_r2
  rw [← he_r2] at ho
  rw [hu_r2] at hP
  refine lv_icmp_eq (tgt := 1061) hx hb dL_law_272 (by decide) (fun _ => ?_) (fun c => absurd ho.2.2.1 c)
  exact kk _ ho.2.2.2 _ _ hP hS ls hl
set_option maxHeartbeats 4000000 in
set_option maxRecDepth 100000 in
theorem law_case_person {p : Program} {l : Launch} {e : Env} {s : State} {m : MethodId} {below : List Frame} {meth : Method} {c : Code} {X : xX} {b L : Nat} {xs : Nat → Int32} {Q : State → Prop} {cells slots : Nat} (hC : lwC X p s m meth c b L xs) (hcl : cells ≤ room_1.cells) (hsl : slots ≤ room_1.slots) {k : Nat} (hk : k + 4 ≤ L) {S : xS} (hR : xR S) {H : Heap} {locs : List Loc} (hP : va_P X.1 vwCl (xW X S) H) (hS : va_S (lwA s) s.heap H locs) {ls : Array Slot} (hl : lv_has ls 4 [(0, .ref b), (1, .ref (X.2.1 0)), (2, .ref (X.2.1 127)), (3, .int (nI k))])
    (kk : ∀ (S2 : xS) (_ : xR S2) (H : Heap) (locs : List Loc), va_P X.1 vwCl (xW X S2) H → va_S (lwA s) s.heap H locs → ∀ (ls : Array Slot), lv_has ls 4 [(0, .ref b), (1, .ref (X.2.1 0)), (2, .ref (X.2.1 127)), (3, .int (nI k))] → W p l e room_1 s m #[Value.ref b] below meth c H locs cells slots Q (F0 m 1061 ls [])) :
    W p l e room_1 s m #[Value.ref b] below meth c H locs cells slots Q (F0 m 277 ls []) := by
  have hx := hC.1.1
  have hb := hC.1.2.1
  have hts := hC.1.2.2.2.2
  have hX := hC.2.2.2.2.2.1
  have hbl := hC.2.2.2.2.2.2.1
  have hL := hC.2.2.2.2.2.2.2.2.2
  have hbA : ¬ lwA s b := Nat.not_le.mpr hbl
  refine lv_aload_n hx hb dL_law_277 rfl (lv_at hl 1 rfl) ?_
  refine lv_aload_n hx hb dL_law_278 rfl (lv_at hl 0 rfl) ?_
  refine lv_iload_n hx hb dL_law_279 rfl (lv_at hl 3 rfl) ?_
  refine lv_iconst (v := 1) hx hb dL_law_280 (by decide) ?_
  refine lv_iadd hx hb dL_law_281 ?_
  refine va_sld hx hb hX hbl hbA hS (nI_idx (j := 1) (by omega) hL) dL_law_282 ?_
  refine lv_aload_n hx hb dL_law_283 rfl (lv_at hl 0 rfl) ?_
  refine lv_iload_n hx hb dL_law_284 rfl (lv_at hl 3 rfl) ?_
  refine lv_iconst (v := 2) hx hb dL_law_285 (by decide) ?_
  refine lv_iadd hx hb dL_law_286 ?_
  refine va_sld hx hb hX hbl hbA hS (nI_idx (j := 2) (by omega) hL) dL_law_287 ?_
  have ho := op_person hR (xs ((nI k) + 1).toNatClampNeg) (xs ((nI k) + 2).toNatClampNeg)
  refine lwcall (bb := 0) (As := [.int (xs ((nI k) + 1).toNatClampNeg), .int (xs ((nI k) + 2).toNatClampNeg)]) (rest := []) (P := (fun (r : Int32) (u : xS) => r = f_X10_person S (xs ((nI k) + 1).toNatClampNeg) (xs ((nI k) + 2).toNatClampNeg) ∧ u = S)) hC hP hS (k_X10_person l X S (xs ((nI k) + 1).toNatClampNeg) (xs ((nI k) + 2).toNatClampNeg)) (cwV 2 hts gL_law_X10_person rfl rfl rfl hd_X10_person ⟨Nat.le_of_ble_eq_true rfl, Nat.le_of_ble_eq_true rfl⟩) xo_X10 rfl rfl rfl hl.1 (Nat.le_of_ble_eq_true rfl) dL_law_288 hcl hsl (fun r1 S1 hp_r1 H locs hP hS => ?_)
  obtain ⟨he_r1, hu_r1⟩ := hp_r1
  rw [← he_r1] at ho
  rw [hu_r1] at hP
  refine lv_aload_n hx hb dL_law_291 rfl (lv_at hl 2 rfl) ?_
  refine lv_aload_n hx hb dL_law_292 rfl (lv_at hl 0 rfl) ?_
  refine lv_iload_n hx hb dL_law_293 rfl (lv_at hl 3 rfl) ?_
  refine lv_iconst (v := 1) hx hb dL_law_294 (by decide) ?_
  refine lv_iadd hx hb dL_law_295 ?_
  refine va_sld hx hb hX hbl hbA hS (nI_idx (j := 1) (by omega) hL) dL_law_296 ?_
  refine lv_aload_n hx hb dL_law_297 rfl (lv_at hl 0 rfl) ?_
  refine lv_iload_n hx hb dL_law_298 rfl (lv_at hl 3 rfl) ?_
  refine lv_iconst (v := 2) hx hb dL_law_299 (by decide) ?_
  refine lv_iadd hx hb dL_law_300 ?_
  refine va_sld hx hb hX hbl hbA hS (nI_idx (j := 2) (by omega) hL) dL_law_301 ?_
  refine lwcall (bb := 127) (As := [.int (xs ((nI k) + 1).toNatClampNeg), .int (xs ((nI k) + 2).toNatClampNeg)]) (rest := [.int r1]) (P := (fun (r : Int32) (u : xS) => r = f_X11_person S (xs ((nI k) + 1).toNatClampNeg) (xs ((nI k) + 2).toNatClampNeg) ∧ u = S)) hC hP hS (k_X11_person l X S (xs ((nI k) + 1).toNatClampNeg) (xs ((nI k) + 2).toNatClampNeg) ho.1) (cwV 2 hts gL_law_X11_person rfl rfl rfl hd_X11_person ⟨Nat.le_of_ble_eq_true rfl, Nat.le_of_ble_eq_true rfl⟩) xo_X11 rfl rfl rfl hl.1 (Nat.le_of_ble_eq_true rfl) dL_law_302 hcl hsl (fun r2 S2 hp_r2 H locs hP hS => ?_)
  obtain ⟨he_r2, hu_r2⟩ := hp_r2
  rw [← he_r2] at ho
  rw [hu_r2] at hP
  refine lv_icmp_eq (tgt := 1061) hx hb dL_law_305 (by decide) (fun _ => ?_) (fun c => absurd ho.2.1 c)
  exact kk _ ho.2.2 _ _ hP hS ls hl
set_option maxHeartbeats 4000000 in
set_option maxRecDepth 100000 in
theorem law_case_liking {p : Program} {l : Launch} {e : Env} {s : State} {m : MethodId} {below : List Frame} {meth : Method} {c : Code} {X : xX} {b L : Nat} {xs : Nat → Int32} {Q : State → Prop} {cells slots : Nat} (hC : lwC X p s m meth c b L xs) (hcl : cells ≤ room_1.cells) (hsl : slots ≤ room_1.slots) {k : Nat} (hk : k + 4 ≤ L) {S : xS} (hR : xR S) {H : Heap} {locs : List Loc} (hP : va_P X.1 vwCl (xW X S) H) (hS : va_S (lwA s) s.heap H locs) {ls : Array Slot} (hl : lv_has ls 4 [(0, .ref b), (1, .ref (X.2.1 0)), (2, .ref (X.2.1 127)), (3, .int (nI k))])
    (kk : ∀ (S2 : xS) (_ : xR S2) (H : Heap) (locs : List Loc), va_P X.1 vwCl (xW X S2) H → va_S (lwA s) s.heap H locs → ∀ (ls : Array Slot), lv_has ls 4 [(0, .ref b), (1, .ref (X.2.1 0)), (2, .ref (X.2.1 127)), (3, .int (nI k))] → W p l e room_1 s m #[Value.ref b] below meth c H locs cells slots Q (F0 m 1061 ls [])) :
    W p l e room_1 s m #[Value.ref b] below meth c H locs cells slots Q (F0 m 310 ls []) := by
  have hx := hC.1.1
  have hb := hC.1.2.1
  have hts := hC.1.2.2.2.2
  have hX := hC.2.2.2.2.2.1
  have hbl := hC.2.2.2.2.2.2.1
  have hL := hC.2.2.2.2.2.2.2.2.2
  have hbA : ¬ lwA s b := Nat.not_le.mpr hbl
  refine lv_aload_n hx hb dL_law_310 rfl (lv_at hl 1 rfl) ?_
  refine lv_aload_n hx hb dL_law_311 rfl (lv_at hl 0 rfl) ?_
  refine lv_iload_n hx hb dL_law_312 rfl (lv_at hl 3 rfl) ?_
  refine lv_iconst (v := 1) hx hb dL_law_313 (by decide) ?_
  refine lv_iadd hx hb dL_law_314 ?_
  refine va_sld hx hb hX hbl hbA hS (nI_idx (j := 1) (by omega) hL) dL_law_315 ?_
  refine lv_aload_n hx hb dL_law_316 rfl (lv_at hl 0 rfl) ?_
  refine lv_iload_n hx hb dL_law_317 rfl (lv_at hl 3 rfl) ?_
  refine lv_iconst (v := 2) hx hb dL_law_318 (by decide) ?_
  refine lv_iadd hx hb dL_law_319 ?_
  refine va_sld hx hb hX hbl hbA hS (nI_idx (j := 2) (by omega) hL) dL_law_320 ?_
  have ho := op_liking hR (xs ((nI k) + 1).toNatClampNeg) (xs ((nI k) + 2).toNatClampNeg)
  refine lwcall (bb := 0) (As := [.int (xs ((nI k) + 1).toNatClampNeg), .int (xs ((nI k) + 2).toNatClampNeg)]) (rest := []) (P := (fun (r : Int32) (u : xS) => r = f_X10_liking S (xs ((nI k) + 1).toNatClampNeg) (xs ((nI k) + 2).toNatClampNeg) ∧ u = S)) hC hP hS (k_X10_liking l X S (xs ((nI k) + 1).toNatClampNeg) (xs ((nI k) + 2).toNatClampNeg)) (cwV 2 hts gL_law_X10_liking rfl rfl rfl hd_X10_liking ⟨Nat.le_of_ble_eq_true rfl, Nat.le_of_ble_eq_true rfl⟩) xo_X10 rfl rfl rfl hl.1 (Nat.le_of_ble_eq_true rfl) dL_law_321 hcl hsl (fun r1 S1 hp_r1 H locs hP hS => ?_)
  obtain ⟨he_r1, hu_r1⟩ := hp_r1
  rw [← he_r1] at ho
  rw [hu_r1] at hP
  refine lv_aload_n hx hb dL_law_324 rfl (lv_at hl 2 rfl) ?_
  refine lv_aload_n hx hb dL_law_325 rfl (lv_at hl 0 rfl) ?_
  refine lv_iload_n hx hb dL_law_326 rfl (lv_at hl 3 rfl) ?_
  refine lv_iconst (v := 1) hx hb dL_law_327 (by decide) ?_
  refine lv_iadd hx hb dL_law_328 ?_
  refine va_sld hx hb hX hbl hbA hS (nI_idx (j := 1) (by omega) hL) dL_law_329 ?_
  refine lv_aload_n hx hb dL_law_330 rfl (lv_at hl 0 rfl) ?_
  refine lv_iload_n hx hb dL_law_331 rfl (lv_at hl 3 rfl) ?_
  refine lv_iconst (v := 2) hx hb dL_law_332 (by decide) ?_
  refine lv_iadd hx hb dL_law_333 ?_
  refine va_sld hx hb hX hbl hbA hS (nI_idx (j := 2) (by omega) hL) dL_law_334 ?_
  refine lwcall (bb := 127) (As := [.int (xs ((nI k) + 1).toNatClampNeg), .int (xs ((nI k) + 2).toNatClampNeg)]) (rest := [.int r1]) (P := (fun (r : Int32) (u : xS) => r = f_X11_liking S (xs ((nI k) + 1).toNatClampNeg) (xs ((nI k) + 2).toNatClampNeg) ∧ u = S)) hC hP hS (k_X11_liking l X S (xs ((nI k) + 1).toNatClampNeg) (xs ((nI k) + 2).toNatClampNeg) ho.1) (cwV 2 hts gL_law_X11_liking rfl rfl rfl hd_X11_liking ⟨Nat.le_of_ble_eq_true rfl, Nat.le_of_ble_eq_true rfl⟩) xo_X11 rfl rfl rfl hl.1 (Nat.le_of_ble_eq_true rfl) dL_law_335 hcl hsl (fun r2 S2 hp_r2 H locs hP hS => ?_)
  obtain ⟨he_r2, hu_r2⟩ := hp_r2
  rw [← he_r2] at ho
  rw [hu_r2] at hP
  refine lv_icmp_eq (tgt := 1061) hx hb dL_law_338 (by decide) (fun _ => ?_) (fun c => absurd ho.2.1 c)
  exact kk _ ho.2.2 _ _ hP hS ls hl
set_option maxHeartbeats 4000000 in
set_option maxRecDepth 100000 in
theorem law_case_said {p : Program} {l : Launch} {e : Env} {s : State} {m : MethodId} {below : List Frame} {meth : Method} {c : Code} {X : xX} {b L : Nat} {xs : Nat → Int32} {Q : State → Prop} {cells slots : Nat} (hC : lwC X p s m meth c b L xs) (hcl : cells ≤ room_1.cells) (hsl : slots ≤ room_1.slots) {k : Nat} (hk : k + 4 ≤ L) {S : xS} (hR : xR S) {H : Heap} {locs : List Loc} (hP : va_P X.1 vwCl (xW X S) H) (hS : va_S (lwA s) s.heap H locs) {ls : Array Slot} (hl : lv_has ls 4 [(0, .ref b), (1, .ref (X.2.1 0)), (2, .ref (X.2.1 127)), (3, .int (nI k))])
    (kk : ∀ (S2 : xS) (_ : xR S2) (H : Heap) (locs : List Loc), va_P X.1 vwCl (xW X S2) H → va_S (lwA s) s.heap H locs → ∀ (ls : Array Slot), lv_has ls 4 [(0, .ref b), (1, .ref (X.2.1 0)), (2, .ref (X.2.1 127)), (3, .int (nI k))] → W p l e room_1 s m #[Value.ref b] below meth c H locs cells slots Q (F0 m 1061 ls [])) :
    W p l e room_1 s m #[Value.ref b] below meth c H locs cells slots Q (F0 m 343 ls []) := by
  have hx := hC.1.1
  have hb := hC.1.2.1
  have hts := hC.1.2.2.2.2
  have hX := hC.2.2.2.2.2.1
  have hbl := hC.2.2.2.2.2.2.1
  have hL := hC.2.2.2.2.2.2.2.2.2
  have hbA : ¬ lwA s b := Nat.not_le.mpr hbl
  refine lv_aload_n hx hb dL_law_343 rfl (lv_at hl 1 rfl) ?_
  refine lv_aload_n hx hb dL_law_344 rfl (lv_at hl 0 rfl) ?_
  refine lv_iload_n hx hb dL_law_345 rfl (lv_at hl 3 rfl) ?_
  refine lv_iconst (v := 1) hx hb dL_law_346 (by decide) ?_
  refine lv_iadd hx hb dL_law_347 ?_
  refine va_sld hx hb hX hbl hbA hS (nI_idx (j := 1) (by omega) hL) dL_law_348 ?_
  refine lv_aload_n hx hb dL_law_349 rfl (lv_at hl 0 rfl) ?_
  refine lv_iload_n hx hb dL_law_350 rfl (lv_at hl 3 rfl) ?_
  refine lv_iconst (v := 2) hx hb dL_law_351 (by decide) ?_
  refine lv_iadd hx hb dL_law_352 ?_
  refine va_sld hx hb hX hbl hbA hS (nI_idx (j := 2) (by omega) hL) dL_law_353 ?_
  refine lv_aload_n hx hb dL_law_354 rfl (lv_at hl 0 rfl) ?_
  refine lv_iload_n hx hb dL_law_355 rfl (lv_at hl 3 rfl) ?_
  refine lv_iconst (v := 3) hx hb dL_law_356 (by decide) ?_
  refine lv_iadd hx hb dL_law_357 ?_
  refine va_sld hx hb hX hbl hbA hS (nI_idx (j := 3) (by omega) hL) dL_law_358 ?_
  have ho := op_said hR (xs ((nI k) + 1).toNatClampNeg) (xs ((nI k) + 2).toNatClampNeg) (xs ((nI k) + 3).toNatClampNeg)
  refine lwcall (bb := 0) (As := [.int (xs ((nI k) + 1).toNatClampNeg), .int (xs ((nI k) + 2).toNatClampNeg), .int (xs ((nI k) + 3).toNatClampNeg)]) (rest := []) (P := (fun (r : Int32) (u : xS) => r = f_X10_said S (xs ((nI k) + 1).toNatClampNeg) (xs ((nI k) + 2).toNatClampNeg) (xs ((nI k) + 3).toNatClampNeg) ∧ u = S)) hC hP hS (k_X10_said l X S (xs ((nI k) + 1).toNatClampNeg) (xs ((nI k) + 2).toNatClampNeg) (xs ((nI k) + 3).toNatClampNeg)) (cwV 3 hts gL_law_X10_said rfl rfl rfl hd_X10_said ⟨Nat.le_of_ble_eq_true rfl, Nat.le_of_ble_eq_true rfl⟩) xo_X10 rfl rfl rfl hl.1 (Nat.le_of_ble_eq_true rfl) dL_law_359 hcl hsl (fun r1 S1 hp_r1 H locs hP hS => ?_)
  obtain ⟨he_r1, hu_r1⟩ := hp_r1
  rw [← he_r1] at ho
  rw [hu_r1] at hP
  refine lv_aload_n hx hb dL_law_362 rfl (lv_at hl 2 rfl) ?_
  refine lv_aload_n hx hb dL_law_363 rfl (lv_at hl 0 rfl) ?_
  refine lv_iload_n hx hb dL_law_364 rfl (lv_at hl 3 rfl) ?_
  refine lv_iconst (v := 1) hx hb dL_law_365 (by decide) ?_
  refine lv_iadd hx hb dL_law_366 ?_
  refine va_sld hx hb hX hbl hbA hS (nI_idx (j := 1) (by omega) hL) dL_law_367 ?_
  refine lv_aload_n hx hb dL_law_368 rfl (lv_at hl 0 rfl) ?_
  refine lv_iload_n hx hb dL_law_369 rfl (lv_at hl 3 rfl) ?_
  refine lv_iconst (v := 2) hx hb dL_law_370 (by decide) ?_
  refine lv_iadd hx hb dL_law_371 ?_
  refine va_sld hx hb hX hbl hbA hS (nI_idx (j := 2) (by omega) hL) dL_law_372 ?_
  refine lv_aload_n hx hb dL_law_373 rfl (lv_at hl 0 rfl) ?_
  refine lv_iload_n hx hb dL_law_374 rfl (lv_at hl 3 rfl) ?_
  refine lv_iconst (v := 3) hx hb dL_law_375 (by decide) ?_
  refine lv_iadd hx hb dL_law_376 ?_
  refine va_sld hx hb hX hbl hbA hS (nI_idx (j := 3) (by omega) hL) dL_law_377 ?_
  refine lwcall (bb := 127) (As := [.int (xs ((nI k) + 1).toNatClampNeg), .int (xs ((nI k) + 2).toNatClampNeg), .int (xs ((nI k) + 3).toNatClampNeg)]) (rest := [.int r1]) (P := (fun (r : Int32) (u : xS) => r = f_X11_said S (xs ((nI k) + 1).toNatClampNeg) (xs ((nI k) + 2).toNatClampNeg) (xs ((nI k) + 3).toNatClampNeg) ∧ u = S)) hC hP hS (k_X11_said l X S (xs ((nI k) + 1).toNatClampNeg) (xs ((nI k) + 2).toNatClampNeg) (xs ((nI k) + 3).toNatClampNeg) ho.1) (cwV 3 hts gL_law_X11_said rfl rfl rfl hd_X11_said ⟨Nat.le_of_ble_eq_true rfl, Nat.le_of_ble_eq_true rfl⟩) xo_X11 rfl rfl rfl hl.1 (Nat.le_of_ble_eq_true rfl) dL_law_378 hcl hsl (fun r2 S2 hp_r2 H locs hP hS => ?_)
  obtain ⟨he_r2, hu_r2⟩ := hp_r2
  rw [← he_r2] at ho
  rw [hu_r2] at hP
  refine lv_icmp_eq (tgt := 1061) hx hb dL_law_381 (by decide) (fun _ => ?_) (fun c => absurd ho.2.1 c)
  exact kk _ ho.2.2 _ _ hP hS ls hl
set_option maxHeartbeats 4000000 in
set_option maxRecDepth 100000 in
theorem law_case_hour {p : Program} {l : Launch} {e : Env} {s : State} {m : MethodId} {below : List Frame} {meth : Method} {c : Code} {X : xX} {b L : Nat} {xs : Nat → Int32} {Q : State → Prop} {cells slots : Nat} (hC : lwC X p s m meth c b L xs) (hcl : cells ≤ room_1.cells) (hsl : slots ≤ room_1.slots) {k : Nat} (hk : k + 4 ≤ L) {S : xS} (hR : xR S) {H : Heap} {locs : List Loc} (hP : va_P X.1 vwCl (xW X S) H) (hS : va_S (lwA s) s.heap H locs) {ls : Array Slot} (hl : lv_has ls 4 [(0, .ref b), (1, .ref (X.2.1 0)), (2, .ref (X.2.1 127)), (3, .int (nI k))])
    (kk : ∀ (S2 : xS) (_ : xR S2) (H : Heap) (locs : List Loc), va_P X.1 vwCl (xW X S2) H → va_S (lwA s) s.heap H locs → ∀ (ls : Array Slot), lv_has ls 4 [(0, .ref b), (1, .ref (X.2.1 0)), (2, .ref (X.2.1 127)), (3, .int (nI k))] → W p l e room_1 s m #[Value.ref b] below meth c H locs cells slots Q (F0 m 1061 ls [])) :
    W p l e room_1 s m #[Value.ref b] below meth c H locs cells slots Q (F0 m 386 ls []) := by
  have hx := hC.1.1
  have hb := hC.1.2.1
  have hts := hC.1.2.2.2.2
  have hX := hC.2.2.2.2.2.1
  have hbl := hC.2.2.2.2.2.2.1
  have hL := hC.2.2.2.2.2.2.2.2.2
  have hbA : ¬ lwA s b := Nat.not_le.mpr hbl
  refine lv_aload_n hx hb dL_law_386 rfl (lv_at hl 1 rfl) ?_
  refine lv_aload_n hx hb dL_law_387 rfl (lv_at hl 0 rfl) ?_
  refine lv_iload_n hx hb dL_law_388 rfl (lv_at hl 3 rfl) ?_
  refine lv_iconst (v := 1) hx hb dL_law_389 (by decide) ?_
  refine lv_iadd hx hb dL_law_390 ?_
  refine va_sld hx hb hX hbl hbA hS (nI_idx (j := 1) (by omega) hL) dL_law_391 ?_
  have ho := op_hour hR (xs ((nI k) + 1).toNatClampNeg)
  refine lwcall (bb := 0) (As := [.int (xs ((nI k) + 1).toNatClampNeg)]) (rest := []) (P := (fun (r : Int32) (u : xS) => r = (f_X10_hour S (xs ((nI k) + 1).toNatClampNeg)).1 ∧ u = (f_X10_hour S (xs ((nI k) + 1).toNatClampNeg)).2)) hC hP hS (k_X10_hour l X S (xs ((nI k) + 1).toNatClampNeg) ho.1) (cwV 1 hts gL_law_X10_hour rfl rfl rfl hd_X10_hour ⟨Nat.le_of_ble_eq_true rfl, Nat.le_of_ble_eq_true rfl⟩) xo_X10 rfl rfl rfl hl.1 (Nat.le_of_ble_eq_true rfl) dL_law_392 hcl hsl (fun r1 S1 hp_r1 H locs hP hS => ?_)
  obtain ⟨he_r1, hu_r1⟩ := hp_r1
  rw [← hu_r1, ← he_r1] at ho
  refine lv_aload_n hx hb dL_law_395 rfl (lv_at hl 2 rfl) ?_
  refine lv_aload_n hx hb dL_law_396 rfl (lv_at hl 0 rfl) ?_
  refine lv_iload_n hx hb dL_law_397 rfl (lv_at hl 3 rfl) ?_
  refine lv_iconst (v := 1) hx hb dL_law_398 (by decide) ?_
  refine lv_iadd hx hb dL_law_399 ?_
  refine va_sld hx hb hX hbl hbA hS (nI_idx (j := 1) (by omega) hL) dL_law_400 ?_
  refine lwcall (bb := 127) (As := [.int (xs ((nI k) + 1).toNatClampNeg)]) (rest := [.int r1]) (P := (fun (r : Int32) (u : xS) => r = (f_X11_hour S1 (xs ((nI k) + 1).toNatClampNeg)).1 ∧ u = (f_X11_hour S1 (xs ((nI k) + 1).toNatClampNeg)).2)) hC hP hS (k_X11_hour l X S1 (xs ((nI k) + 1).toNatClampNeg) ho.2.1) (cwV 1 hts gL_law_X11_hour rfl rfl rfl hd_X11_hour ⟨Nat.le_of_ble_eq_true rfl, Nat.le_of_ble_eq_true rfl⟩) xo_X11 rfl rfl rfl hl.1 (Nat.le_of_ble_eq_true rfl) dL_law_401 hcl hsl (fun r2 S2 hp_r2 H locs hP hS => ?_)
  obtain ⟨he_r2, hu_r2⟩ := hp_r2
  rw [← he_r2, ← hu_r2] at ho
  refine lv_icmp_eq (tgt := 1061) hx hb dL_law_404 (by decide) (fun _ => ?_) (fun c => absurd ho.2.2.1 c)
  exact kk _ ho.2.2.2 _ _ hP hS ls hl
set_option maxHeartbeats 4000000 in
set_option maxRecDepth 100000 in
theorem law_case_go {p : Program} {l : Launch} {e : Env} {s : State} {m : MethodId} {below : List Frame} {meth : Method} {c : Code} {X : xX} {b L : Nat} {xs : Nat → Int32} {Q : State → Prop} {cells slots : Nat} (hC : lwC X p s m meth c b L xs) (hcl : cells ≤ room_1.cells) (hsl : slots ≤ room_1.slots) {k : Nat} (hk : k + 4 ≤ L) {S : xS} (hR : xR S) {H : Heap} {locs : List Loc} (hP : va_P X.1 vwCl (xW X S) H) (hS : va_S (lwA s) s.heap H locs) {ls : Array Slot} (hl : lv_has ls 4 [(0, .ref b), (1, .ref (X.2.1 0)), (2, .ref (X.2.1 127)), (3, .int (nI k))])
    (kk : ∀ (S2 : xS) (_ : xR S2) (H : Heap) (locs : List Loc), va_P X.1 vwCl (xW X S2) H → va_S (lwA s) s.heap H locs → ∀ (ls : Array Slot), lv_has ls 4 [(0, .ref b), (1, .ref (X.2.1 0)), (2, .ref (X.2.1 127)), (3, .int (nI k))] → W p l e room_1 s m #[Value.ref b] below meth c H locs cells slots Q (F0 m 1061 ls [])) :
    W p l e room_1 s m #[Value.ref b] below meth c H locs cells slots Q (F0 m 409 ls []) := by
  have hx := hC.1.1
  have hb := hC.1.2.1
  have hts := hC.1.2.2.2.2
  have hX := hC.2.2.2.2.2.1
  have hbl := hC.2.2.2.2.2.2.1
  have hL := hC.2.2.2.2.2.2.2.2.2
  have hbA : ¬ lwA s b := Nat.not_le.mpr hbl
  refine lv_aload_n hx hb dL_law_409 rfl (lv_at hl 1 rfl) ?_
  refine lv_aload_n hx hb dL_law_410 rfl (lv_at hl 0 rfl) ?_
  refine lv_iload_n hx hb dL_law_411 rfl (lv_at hl 3 rfl) ?_
  refine lv_iconst (v := 1) hx hb dL_law_412 (by decide) ?_
  refine lv_iadd hx hb dL_law_413 ?_
  refine va_sld hx hb hX hbl hbA hS (nI_idx (j := 1) (by omega) hL) dL_law_414 ?_
  refine lv_aload_n hx hb dL_law_415 rfl (lv_at hl 0 rfl) ?_
  refine lv_iload_n hx hb dL_law_416 rfl (lv_at hl 3 rfl) ?_
  refine lv_iconst (v := 2) hx hb dL_law_417 (by decide) ?_
  refine lv_iadd hx hb dL_law_418 ?_
  refine va_sld hx hb hX hbl hbA hS (nI_idx (j := 2) (by omega) hL) dL_law_419 ?_
  have ho := op_go hR (xs ((nI k) + 1).toNatClampNeg) (xs ((nI k) + 2).toNatClampNeg)
  refine lwcall (bb := 0) (As := [.int (xs ((nI k) + 1).toNatClampNeg), .int (xs ((nI k) + 2).toNatClampNeg)]) (rest := []) (P := (fun (r : Int32) (u : xS) => r = (f_X10_go S (xs ((nI k) + 1).toNatClampNeg) (xs ((nI k) + 2).toNatClampNeg)).1 ∧ u = (f_X10_go S (xs ((nI k) + 1).toNatClampNeg) (xs ((nI k) + 2).toNatClampNeg)).2)) hC hP hS (k_X10_go l X S (xs ((nI k) + 1).toNatClampNeg) (xs ((nI k) + 2).toNatClampNeg) ho.1) (cwV 2 hts gL_law_X10_go rfl rfl rfl hd_X10_go ⟨Nat.le_of_ble_eq_true rfl, Nat.le_of_ble_eq_true rfl⟩) xo_X10 rfl rfl rfl hl.1 (Nat.le_of_ble_eq_true rfl) dL_law_420 hcl hsl (fun r1 S1 hp_r1 H locs hP hS => ?_)
  obtain ⟨he_r1, hu_r1⟩ := hp_r1
  rw [← hu_r1, ← he_r1] at ho
  refine lv_aload_n hx hb dL_law_423 rfl (lv_at hl 2 rfl) ?_
  refine lv_aload_n hx hb dL_law_424 rfl (lv_at hl 0 rfl) ?_
  refine lv_iload_n hx hb dL_law_425 rfl (lv_at hl 3 rfl) ?_
  refine lv_iconst (v := 1) hx hb dL_law_426 (by decide) ?_
  refine lv_iadd hx hb dL_law_427 ?_
  refine va_sld hx hb hX hbl hbA hS (nI_idx (j := 1) (by omega) hL) dL_law_428 ?_
  refine lv_aload_n hx hb dL_law_429 rfl (lv_at hl 0 rfl) ?_
  refine lv_iload_n hx hb dL_law_430 rfl (lv_at hl 3 rfl) ?_
  refine lv_iconst (v := 2) hx hb dL_law_431 (by decide) ?_
  refine lv_iadd hx hb dL_law_432 ?_
  refine va_sld hx hb hX hbl hbA hS (nI_idx (j := 2) (by omega) hL) dL_law_433 ?_
  refine lwcall (bb := 127) (As := [.int (xs ((nI k) + 1).toNatClampNeg), .int (xs ((nI k) + 2).toNatClampNeg)]) (rest := [.int r1]) (P := (fun (r : Int32) (u : xS) => r = (f_X11_go S1 (xs ((nI k) + 1).toNatClampNeg) (xs ((nI k) + 2).toNatClampNeg)).1 ∧ u = (f_X11_go S1 (xs ((nI k) + 1).toNatClampNeg) (xs ((nI k) + 2).toNatClampNeg)).2)) hC hP hS (k_X11_go l X S1 (xs ((nI k) + 1).toNatClampNeg) (xs ((nI k) + 2).toNatClampNeg) ho.2.1) (cwV 2 hts gL_law_X11_go rfl rfl rfl hd_X11_go ⟨Nat.le_of_ble_eq_true rfl, Nat.le_of_ble_eq_true rfl⟩) xo_X11 rfl rfl rfl hl.1 (Nat.le_of_ble_eq_true rfl) dL_law_434 hcl hsl (fun r2 S2 hp_r2 H locs hP hS => ?_)
  obtain ⟨he_r2, hu_r2⟩ := hp_r2
  rw [← he_r2, ← hu_r2] at ho
  refine lv_icmp_eq (tgt := 1061) hx hb dL_law_437 (by decide) (fun _ => ?_) (fun c => absurd ho.2.2.1 c)
  exact kk _ ho.2.2.2 _ _ hP hS ls hl
set_option maxHeartbeats 4000000 in
set_option maxRecDepth 100000 in
theorem law_case_cough {p : Program} {l : Launch} {e : Env} {s : State} {m : MethodId} {below : List Frame} {meth : Method} {c : Code} {X : xX} {b L : Nat} {xs : Nat → Int32} {Q : State → Prop} {cells slots : Nat} (hC : lwC X p s m meth c b L xs) (hcl : cells ≤ room_1.cells) (hsl : slots ≤ room_1.slots) {k : Nat} (hk : k + 4 ≤ L) {S : xS} (hR : xR S) {H : Heap} {locs : List Loc} (hP : va_P X.1 vwCl (xW X S) H) (hS : va_S (lwA s) s.heap H locs) {ls : Array Slot} (hl : lv_has ls 4 [(0, .ref b), (1, .ref (X.2.1 0)), (2, .ref (X.2.1 127)), (3, .int (nI k))])
    (kk : ∀ (S2 : xS) (_ : xR S2) (H : Heap) (locs : List Loc), va_P X.1 vwCl (xW X S2) H → va_S (lwA s) s.heap H locs → ∀ (ls : Array Slot), lv_has ls 4 [(0, .ref b), (1, .ref (X.2.1 0)), (2, .ref (X.2.1 127)), (3, .int (nI k))] → W p l e room_1 s m #[Value.ref b] below meth c H locs cells slots Q (F0 m 1061 ls [])) :
    W p l e room_1 s m #[Value.ref b] below meth c H locs cells slots Q (F0 m 442 ls []) := by
  have hx := hC.1.1
  have hb := hC.1.2.1
  have hts := hC.1.2.2.2.2
  have hX := hC.2.2.2.2.2.1
  have hbl := hC.2.2.2.2.2.2.1
  have hL := hC.2.2.2.2.2.2.2.2.2
  have hbA : ¬ lwA s b := Nat.not_le.mpr hbl
  refine lv_aload_n hx hb dL_law_442 rfl (lv_at hl 1 rfl) ?_
  refine lv_aload_n hx hb dL_law_443 rfl (lv_at hl 0 rfl) ?_
  refine lv_iload_n hx hb dL_law_444 rfl (lv_at hl 3 rfl) ?_
  refine lv_iconst (v := 1) hx hb dL_law_445 (by decide) ?_
  refine lv_iadd hx hb dL_law_446 ?_
  refine va_sld hx hb hX hbl hbA hS (nI_idx (j := 1) (by omega) hL) dL_law_447 ?_
  have ho := op_cough hR (xs ((nI k) + 1).toNatClampNeg)
  refine lwcall (bb := 0) (As := [.int (xs ((nI k) + 1).toNatClampNeg)]) (rest := []) (P := (fun (r : Int32) (u : xS) => r = (f_X10_cough S (xs ((nI k) + 1).toNatClampNeg)).1 ∧ u = (f_X10_cough S (xs ((nI k) + 1).toNatClampNeg)).2)) hC hP hS (k_X10_cough l X S (xs ((nI k) + 1).toNatClampNeg) ho.1) (cwV 1 hts gL_law_X10_cough rfl rfl rfl hd_X10_cough ⟨Nat.le_of_ble_eq_true rfl, Nat.le_of_ble_eq_true rfl⟩) xo_X10 rfl rfl rfl hl.1 (Nat.le_of_ble_eq_true rfl) dL_law_448 hcl hsl (fun r1 S1 hp_r1 H locs hP hS => ?_)
  obtain ⟨he_r1, hu_r1⟩ := hp_r1
  rw [← hu_r1, ← he_r1] at ho
  refine lv_aload_n hx hb dL_law_451 rfl (lv_at hl 2 rfl) ?_
  refine lv_aload_n hx hb dL_law_452 rfl (lv_at hl 0 rfl) ?_
  refine lv_iload_n hx hb dL_law_453 rfl (lv_at hl 3 rfl) ?_
  refine lv_iconst (v := 1) hx hb dL_law_454 (by decide) ?_
  refine lv_iadd hx hb dL_law_455 ?_
  refine va_sld hx hb hX hbl hbA hS (nI_idx (j := 1) (by omega) hL) dL_law_456 ?_
  refine lwcall (bb := 127) (As := [.int (xs ((nI k) + 1).toNatClampNeg)]) (rest := [.int r1]) (P := (fun (r : Int32) (u : xS) => r = (f_X11_cough S1 (xs ((nI k) + 1).toNatClampNeg)).1 ∧ u = (f_X11_cough S1 (xs ((nI k) + 1).toNatClampNeg)).2)) hC hP hS (k_X11_cough l X S1 (xs ((nI k) + 1).toNatClampNeg) ho.2.1) (cwV 1 hts gL_law_X11_cough rfl rfl rfl hd_X11_cough ⟨Nat.le_of_ble_eq_true rfl, Nat.le_of_ble_eq_true rfl⟩) xo_X11 rfl rfl rfl hl.1 (Nat.le_of_ble_eq_true rfl) dL_law_457 hcl hsl (fun r2 S2 hp_r2 H locs hP hS => ?_)
  obtain ⟨he_r2, hu_r2⟩ := hp_r2
  rw [← he_r2, ← hu_r2] at ho
  refine lv_icmp_eq (tgt := 1061) hx hb dL_law_460 (by decide) (fun _ => ?_) (fun c => absurd ho.2.2.1 c)
  exact kk _ ho.2.2.2 _ _ hP hS ls hl
set_option maxHeartbeats 4000000 in
set_option maxRecDepth 100000 in
theorem law_case_like {p : Program} {l : Launch} {e : Env} {s : State} {m : MethodId} {below : List Frame} {meth : Method} {c : Code} {X : xX} {b L : Nat} {xs : Nat → Int32} {Q : State → Prop} {cells slots : Nat} (hC : lwC X p s m meth c b L xs) (hcl : cells ≤ room_1.cells) (hsl : slots ≤ room_1.slots) {k : Nat} (hk : k + 4 ≤ L) {S : xS} (hR : xR S) {H : Heap} {locs : List Loc} (hP : va_P X.1 vwCl (xW X S) H) (hS : va_S (lwA s) s.heap H locs) {ls : Array Slot} (hl : lv_has ls 4 [(0, .ref b), (1, .ref (X.2.1 0)), (2, .ref (X.2.1 127)), (3, .int (nI k))])
    (kk : ∀ (S2 : xS) (_ : xR S2) (H : Heap) (locs : List Loc), va_P X.1 vwCl (xW X S2) H → va_S (lwA s) s.heap H locs → ∀ (ls : Array Slot), lv_has ls 4 [(0, .ref b), (1, .ref (X.2.1 0)), (2, .ref (X.2.1 127)), (3, .int (nI k))] → W p l e room_1 s m #[Value.ref b] below meth c H locs cells slots Q (F0 m 1061 ls [])) :
    W p l e room_1 s m #[Value.ref b] below meth c H locs cells slots Q (F0 m 465 ls []) := by
  have hx := hC.1.1
  have hb := hC.1.2.1
  have hts := hC.1.2.2.2.2
  have hX := hC.2.2.2.2.2.1
  have hbl := hC.2.2.2.2.2.2.1
  have hL := hC.2.2.2.2.2.2.2.2.2
  have hbA : ¬ lwA s b := Nat.not_le.mpr hbl
  refine lv_aload_n hx hb dL_law_465 rfl (lv_at hl 1 rfl) ?_
  refine lv_aload_n hx hb dL_law_466 rfl (lv_at hl 0 rfl) ?_
  refine lv_iload_n hx hb dL_law_467 rfl (lv_at hl 3 rfl) ?_
  refine lv_iconst (v := 1) hx hb dL_law_468 (by decide) ?_
  refine lv_iadd hx hb dL_law_469 ?_
  refine va_sld hx hb hX hbl hbA hS (nI_idx (j := 1) (by omega) hL) dL_law_470 ?_
  refine lv_aload_n hx hb dL_law_471 rfl (lv_at hl 0 rfl) ?_
  refine lv_iload_n hx hb dL_law_472 rfl (lv_at hl 3 rfl) ?_
  refine lv_iconst (v := 2) hx hb dL_law_473 (by decide) ?_
  refine lv_iadd hx hb dL_law_474 ?_
  refine va_sld hx hb hX hbl hbA hS (nI_idx (j := 2) (by omega) hL) dL_law_475 ?_
  refine lv_aload_n hx hb dL_law_476 rfl (lv_at hl 0 rfl) ?_
  refine lv_iload_n hx hb dL_law_477 rfl (lv_at hl 3 rfl) ?_
  refine lv_iconst (v := 3) hx hb dL_law_478 (by decide) ?_
  refine lv_iadd hx hb dL_law_479 ?_
  refine va_sld hx hb hX hbl hbA hS (nI_idx (j := 3) (by omega) hL) dL_law_480 ?_
  have ho := op_like hR (xs ((nI k) + 1).toNatClampNeg) (xs ((nI k) + 2).toNatClampNeg) (xs ((nI k) + 3).toNatClampNeg)
  refine lwcall (bb := 0) (As := [.int (xs ((nI k) + 1).toNatClampNeg), .int (xs ((nI k) + 2).toNatClampNeg), .int (xs ((nI k) + 3).toNatClampNeg)]) (rest := []) (P := (fun (r : Int32) (u : xS) => r = (f_X10_like S (xs ((nI k) + 1).toNatClampNeg) (xs ((nI k) + 2).toNatClampNeg) (xs ((nI k) + 3).toNatClampNeg)).1 ∧ u = (f_X10_like S (xs ((nI k) + 1).toNatClampNeg) (xs ((nI k) + 2).toNatClampNeg) (xs ((nI k) + 3).toNatClampNeg)).2)) hC hP hS (k_X10_like l X S (xs ((nI k) + 1).toNatClampNeg) (xs ((nI k) + 2).toNatClampNeg) (xs ((nI k) + 3).toNatClampNeg) ho.1) (cwV 3 hts gL_law_X10_like rfl rfl rfl hd_X10_like ⟨Nat.le_of_ble_eq_true rfl, Nat.le_of_ble_eq_true rfl⟩) xo_X10 rfl rfl rfl hl.1 (Nat.le_of_ble_eq_true rfl) dL_law_481 hcl hsl (fun r1 S1 hp_r1 H locs hP hS => ?_)
  obtain ⟨he_r1, hu_r1⟩ := hp_r1
  rw [← hu_r1, ← he_r1] at ho
  refine lv_aload_n hx hb dL_law_484 rfl (lv_at hl 2 rfl) ?_
  refine lv_aload_n hx hb dL_law_485 rfl (lv_at hl 0 rfl) ?_
  refine lv_iload_n hx hb dL_law_486 rfl (lv_at hl 3 rfl) ?_
  refine lv_iconst (v := 1) hx hb dL_law_487 (by decide) ?_
  refine lv_iadd hx hb dL_law_488 ?_
  refine va_sld hx hb hX hbl hbA hS (nI_idx (j := 1) (by omega) hL) dL_law_489 ?_
  refine lv_aload_n hx hb dL_law_490 rfl (lv_at hl 0 rfl) ?_
  refine lv_iload_n hx hb dL_law_491 rfl (lv_at hl 3 rfl) ?_
  refine lv_iconst (v := 2) hx hb dL_law_492 (by decide) ?_
  refine lv_iadd hx hb dL_law_493 ?_
  refine va_sld hx hb hX hbl hbA hS (nI_idx (j := 2) (by omega) hL) dL_law_494 ?_
  refine lv_aload_n hx hb dL_law_495 rfl (lv_at hl 0 rfl) ?_
  refine lv_iload_n hx hb dL_law_496 rfl (lv_at hl 3 rfl) ?_
  refine lv_iconst (v := 3) hx hb dL_law_497 (by decide) ?_
  refine lv_iadd hx hb dL_law_498 ?_
  refine va_sld hx hb hX hbl hbA hS (nI_idx (j := 3) (by omega) hL) dL_law_499 ?_
  refine lwcall (bb := 127) (As := [.int (xs ((nI k) + 1).toNatClampNeg), .int (xs ((nI k) + 2).toNatClampNeg), .int (xs ((nI k) + 3).toNatClampNeg)]) (rest := [.int r1]) (P := (fun (r : Int32) (u : xS) => r = (f_X11_like S1 (xs ((nI k) + 1).toNatClampNeg) (xs ((nI k) + 2).toNatClampNeg) (xs ((nI k) + 3).toNatClampNeg)).1 ∧ u = (f_X11_like S1 (xs ((nI k) + 1).toNatClampNeg) (xs ((nI k) + 2).toNatClampNeg) (xs ((nI k) + 3).toNatClampNeg)).2)) hC hP hS (k_X11_like l X S1 (xs ((nI k) + 1).toNatClampNeg) (xs ((nI k) + 2).toNatClampNeg) (xs ((nI k) + 3).toNatClampNeg) ho.2.1) (cwV 3 hts gL_law_X11_like rfl rfl rfl hd_X11_like ⟨Nat.le_of_ble_eq_true rfl, Nat.le_of_ble_eq_true rfl⟩) xo_X11 rfl rfl rfl hl.1 (Nat.le_of_ble_eq_true rfl) dL_law_500 hcl hsl (fun r2 S2 hp_r2 H locs hP hS => ?_)
  obtain ⟨he_r2, hu_r2⟩ := hp_r2
  rw [← he_r2, ← hu_r2] at ho
  refine lv_icmp_eq (tgt := 1061) hx hb dL_law_503 (by decide) (fun _ => ?_) (fun c => absurd ho.2.2.1 c)
  exact kk _ ho.2.2.2 _ _ hP hS ls hl
set_option maxHeartbeats 4000000 in
set_option maxRecDepth 100000 in
theorem law_case_drift {p : Program} {l : Launch} {e : Env} {s : State} {m : MethodId} {below : List Frame} {meth : Method} {c : Code} {X : xX} {b L : Nat} {xs : Nat → Int32} {Q : State → Prop} {cells slots : Nat} (hC : lwC X p s m meth c b L xs) (hcl : cells ≤ room_1.cells) (hsl : slots ≤ room_1.slots) {k : Nat} (hk : k + 4 ≤ L) {S : xS} (hR : xR S) {H : Heap} {locs : List Loc} (hP : va_P X.1 vwCl (xW X S) H) (hS : va_S (lwA s) s.heap H locs) {ls : Array Slot} (hl : lv_has ls 4 [(0, .ref b), (1, .ref (X.2.1 0)), (2, .ref (X.2.1 127)), (3, .int (nI k))])
    (kk : ∀ (S2 : xS) (_ : xR S2) (H : Heap) (locs : List Loc), va_P X.1 vwCl (xW X S2) H → va_S (lwA s) s.heap H locs → ∀ (ls : Array Slot), lv_has ls 4 [(0, .ref b), (1, .ref (X.2.1 0)), (2, .ref (X.2.1 127)), (3, .int (nI k))] → W p l e room_1 s m #[Value.ref b] below meth c H locs cells slots Q (F0 m 1061 ls [])) :
    W p l e room_1 s m #[Value.ref b] below meth c H locs cells slots Q (F0 m 508 ls []) := by
  have hx := hC.1.1
  have hb := hC.1.2.1
  have hts := hC.1.2.2.2.2
  have hX := hC.2.2.2.2.2.1
  have hbl := hC.2.2.2.2.2.2.1
  have hL := hC.2.2.2.2.2.2.2.2.2
  have hbA : ¬ lwA s b := Nat.not_le.mpr hbl
  refine lv_aload_n hx hb dL_law_508 rfl (lv_at hl 1 rfl) ?_
  refine lv_aload_n hx hb dL_law_509 rfl (lv_at hl 0 rfl) ?_
  refine lv_iload_n hx hb dL_law_510 rfl (lv_at hl 3 rfl) ?_
  refine lv_iconst (v := 1) hx hb dL_law_511 (by decide) ?_
  refine lv_iadd hx hb dL_law_512 ?_
  refine va_sld hx hb hX hbl hbA hS (nI_idx (j := 1) (by omega) hL) dL_law_513 ?_
  have ho := op_drift hR (xs ((nI k) + 1).toNatClampNeg)
  refine lwcall (bb := 0) (As := [.int (xs ((nI k) + 1).toNatClampNeg)]) (rest := []) (P := (fun (r : Int32) (u : xS) => r = (f_X10_drift S (xs ((nI k) + 1).toNatClampNeg)).1 ∧ u = (f_X10_drift S (xs ((nI k) + 1).toNatClampNeg)).2)) hC hP hS (k_X10_drift l X S (xs ((nI k) + 1).toNatClampNeg) ho.1) (cwV 1 hts gL_law_X10_drift rfl rfl rfl hd_X10_drift ⟨Nat.le_of_ble_eq_true rfl, Nat.le_of_ble_eq_true rfl⟩) xo_X10 rfl rfl rfl hl.1 (Nat.le_of_ble_eq_true rfl) dL_law_514 hcl hsl (fun r1 S1 hp_r1 H locs hP hS => ?_)
  obtain ⟨he_r1, hu_r1⟩ := hp_r1
  rw [← hu_r1, ← he_r1] at ho
  refine lv_aload_n hx hb dL_law_517 rfl (lv_at hl 2 rfl) ?_
  refine lv_aload_n hx hb dL_law_518 rfl (lv_at hl 0 rfl) ?_
  refine lv_iload_n hx hb dL_law_519 rfl (lv_at hl 3 rfl) ?_
  refine lv_iconst (v := 1) hx hb dL_law_520 (by decide) ?_
  refine lv_iadd hx hb dL_law_521 ?_
  refine va_sld hx hb hX hbl hbA hS (nI_idx (j := 1) (by omega) hL) dL_law_522 ?_
  refine lwcall (bb := 127) (As := [.int (xs ((nI k) + 1).toNatClampNeg)]) (rest := [.int r1]) (P := (fun (r : Int32) (u : xS) => r = (f_X11_drift S1 (xs ((nI k) + 1).toNatClampNeg)).1 ∧ u = (f_X11_drift S1 (xs ((nI k) + 1).toNatClampNeg)).2)) hC hP hS (k_X11_drift l X S1 (xs ((nI k) + 1).toNatClampNeg) ho.2.1) (cwV 1 hts gL_law_X11_drift rfl rfl rfl hd_X11_drift ⟨Nat.le_of_ble_eq_true rfl, Nat.le_of_ble_eq_true rfl⟩) xo_X11 rfl rfl rfl hl.1 (Nat.le_of_ble_eq_true rfl) dL_law_523 hcl hsl (fun r2 S2 hp_r2 H locs hP hS => ?_)
  obtain ⟨he_r2, hu_r2⟩ := hp_r2
  rw [← he_r2, ← hu_r2] at ho
  refine lv_icmp_eq (tgt := 1061) hx hb dL_law_526 (by decide) (fun _ => ?_) (fun c => absurd ho.2.2.1 c)
  exact kk _ ho.2.2.2 _ _ hP hS ls hl
set_option maxHeartbeats 4000000 in
set_option maxRecDepth 100000 in
theorem law_case_undo {p : Program} {l : Launch} {e : Env} {s : State} {m : MethodId} {below : List Frame} {meth : Method} {c : Code} {X : xX} {b L : Nat} {xs : Nat → Int32} {Q : State → Prop} {cells slots : Nat} (hC : lwC X p s m meth c b L xs) (hcl : cells ≤ room_1.cells) (hsl : slots ≤ room_1.slots) {k : Nat} (hk : k + 4 ≤ L) {S : xS} (hR : xR S) {H : Heap} {locs : List Loc} (hP : va_P X.1 vwCl (xW X S) H) (hS : va_S (lwA s) s.heap H locs) {ls : Array Slot} (hl : lv_has ls 4 [(0, .ref b), (1, .ref (X.2.1 0)), (2, .ref (X.2.1 127)), (3, .int (nI k))])
    (kk : ∀ (S2 : xS) (_ : xR S2) (H : Heap) (locs : List Loc), va_P X.1 vwCl (xW X S2) H → va_S (lwA s) s.heap H locs → ∀ (ls : Array Slot), lv_has ls 4 [(0, .ref b), (1, .ref (X.2.1 0)), (2, .ref (X.2.1 127)), (3, .int (nI k))] → W p l e room_1 s m #[Value.ref b] below meth c H locs cells slots Q (F0 m 1061 ls [])) :
    W p l e room_1 s m #[Value.ref b] below meth c H locs cells slots Q (F0 m 531 ls []) := by
  have hx := hC.1.1
  have hb := hC.1.2.1
  have hts := hC.1.2.2.2.2
  have hX := hC.2.2.2.2.2.1
  have hbl := hC.2.2.2.2.2.2.1
  have hL := hC.2.2.2.2.2.2.2.2.2
  have hbA : ¬ lwA s b := Nat.not_le.mpr hbl
  refine lv_aload_n hx hb dL_law_531 rfl (lv_at hl 1 rfl) ?_
  have ho := op_undo hR
  refine lwcall (bb := 0) (As := []) (rest := []) (P := (fun (r : Int32) (u : xS) => r = (f_X10_undo S).1 ∧ u = (f_X10_undo S).2)) hC hP hS (k_X10_undo l X S ho.1) (cwV 0 hts gL_law_X10_undo rfl rfl rfl hd_X10_undo ⟨Nat.le_of_ble_eq_true rfl, Nat.le_of_ble_eq_true rfl⟩) xo_X10 rfl rfl rfl hl.1 (Nat.le_of_ble_eq_true rfl) dL_law_532 hcl hsl (fun r1 S1 hp_r1 H locs hP hS => ?_)
  obtain ⟨he_r1, hu_r1⟩ := hp_r1
  rw [← hu_r1, ← he_r1] at ho
  refine lv_aload_n hx hb dL_law_535 rfl (lv_at hl 2 rfl) ?_
  refine lwcall (bb := 127) (As := []) (rest := [.int r1]) (P := (fun (r : Int32) (u : xS) => r = (f_X11_undo S1).1 ∧ u = (f_X11_undo S1).2)) hC hP hS (k_X11_undo l X S1 ho.2.1) (cwV 0 hts gL_law_X11_undo rfl rfl rfl hd_X11_undo ⟨Nat.le_of_ble_eq_true rfl, Nat.le_of_ble_eq_true rfl⟩) xo_X11 rfl rfl rfl hl.1 (Nat.le_of_ble_eq_true rfl) dL_law_536 hcl hsl (fun r2 S2 hp_r2 H locs hP hS => ?_)
  obtain ⟨he_r2, hu_r2⟩ := hp_r2
  rw [← he_r2, ← hu_r2] at ho
  refine lv_icmp_eq (tgt := 1061) hx hb dL_law_539 (by decide) (fun _ => ?_) (fun c => absurd ho.2.2.1 c)
  exact kk _ ho.2.2.2 _ _ hP hS ls hl
set_option maxHeartbeats 4000000 in
set_option maxRecDepth 100000 in
theorem law_case_warm {p : Program} {l : Launch} {e : Env} {s : State} {m : MethodId} {below : List Frame} {meth : Method} {c : Code} {X : xX} {b L : Nat} {xs : Nat → Int32} {Q : State → Prop} {cells slots : Nat} (hC : lwC X p s m meth c b L xs) (hcl : cells ≤ room_1.cells) (hsl : slots ≤ room_1.slots) {k : Nat} (hk : k + 4 ≤ L) {S : xS} (hR : xR S) {H : Heap} {locs : List Loc} (hP : va_P X.1 vwCl (xW X S) H) (hS : va_S (lwA s) s.heap H locs) {ls : Array Slot} (hl : lv_has ls 4 [(0, .ref b), (1, .ref (X.2.1 0)), (2, .ref (X.2.1 127)), (3, .int (nI k))])
    (kk : ∀ (S2 : xS) (_ : xR S2) (H : Heap) (locs : List Loc), va_P X.1 vwCl (xW X S2) H → va_S (lwA s) s.heap H locs → ∀ (ls : Array Slot), lv_has ls 4 [(0, .ref b), (1, .ref (X.2.1 0)), (2, .ref (X.2.1 127)), (3, .int (nI k))] → W p l e room_1 s m #[Value.ref b] below meth c H locs cells slots Q (F0 m 1061 ls [])) :
    W p l e room_1 s m #[Value.ref b] below meth c H locs cells slots Q (F0 m 544 ls []) := by
  have hx := hC.1.1
  have hb := hC.1.2.1
  have hts := hC.1.2.2.2.2
  have hX := hC.2.2.2.2.2.1
  have hbl := hC.2.2.2.2.2.2.1
  have hL := hC.2.2.2.2.2.2.2.2.2
  have hbA : ¬ lwA s b := Nat.not_le.mpr hbl
  refine lv_aload_n hx hb dL_law_544 rfl (lv_at hl 1 rfl) ?_
  refine lv_aload_n hx hb dL_law_545 rfl (lv_at hl 0 rfl) ?_
  refine lv_iload_n hx hb dL_law_546 rfl (lv_at hl 3 rfl) ?_
  refine lv_iconst (v := 1) hx hb dL_law_547 (by decide) ?_
  refine lv_iadd hx hb dL_law_548 ?_
  refine va_sld hx hb hX hbl hbA hS (nI_idx (j := 1) (by omega) hL) dL_law_549 ?_
  refine lv_aload_n hx hb dL_law_550 rfl (lv_at hl 0 rfl) ?_
  refine lv_iload_n hx hb dL_law_551 rfl (lv_at hl 3 rfl) ?_
  refine lv_iconst (v := 2) hx hb dL_law_552 (by decide) ?_
  refine lv_iadd hx hb dL_law_553 ?_
  refine va_sld hx hb hX hbl hbA hS (nI_idx (j := 2) (by omega) hL) dL_law_554 ?_
  have ho := op_warm hR (xs ((nI k) + 1).toNatClampNeg) (xs ((nI k) + 2).toNatClampNeg)
  refine lwcall (bb := 0) (As := [.int (xs ((nI k) + 1).toNatClampNeg), .int (xs ((nI k) + 2).toNatClampNeg)]) (rest := []) (P := (fun (r : Int32) (u : xS) => r = f_X10_warm S (xs ((nI k) + 1).toNatClampNeg) (xs ((nI k) + 2).toNatClampNeg) ∧ u = S)) hC hP hS (k_X10_warm l X S (xs ((nI k) + 1).toNatClampNeg) (xs ((nI k) + 2).toNatClampNeg) ho.1) (cwV 2 hts gL_law_X10_warm rfl rfl rfl hd_X10_warm ⟨Nat.le_of_ble_eq_true rfl, Nat.le_of_ble_eq_true rfl⟩) xo_X10 rfl rfl rfl hl.1 (Nat.le_of_ble_eq_true rfl) dL_law_555 hcl hsl (fun r1 S1 hp_r1 H locs hP hS => ?_)
  obtain ⟨he_r1, hu_r1⟩ := hp_r1
  rw [← he_r1] at ho
  rw [hu_r1] at hP
  refine lv_aload_n hx hb dL_law_558 rfl (lv_at hl 2 rfl) ?_
  refine lv_aload_n hx hb dL_law_559 rfl (lv_at hl 0 rfl) ?_
  refine lv_iload_n hx hb dL_law_560 rfl (lv_at hl 3 rfl) ?_
  refine lv_iconst (v := 1) hx hb dL_law_561 (by decide) ?_
  refine lv_iadd hx hb dL_law_562 ?_
  refine va_sld hx hb hX hbl hbA hS (nI_idx (j := 1) (by omega) hL) dL_law_563 ?_
  refine lv_aload_n hx hb dL_law_564 rfl (lv_at hl 0 rfl) ?_
  refine lv_iload_n hx hb dL_law_565 rfl (lv_at hl 3 rfl) ?_
  refine lv_iconst (v := 2) hx hb dL_law_566 (by decide) ?_
  refine lv_iadd hx hb dL_law_567 ?_
  refine va_sld hx hb hX hbl hbA hS (nI_idx (j := 2) (by omega) hL) dL_law_568 ?_
  refine lwcall (bb := 127) (As := [.int (xs ((nI k) + 1).toNatClampNeg), .int (xs ((nI k) + 2).toNatClampNeg)]) (rest := [.int r1]) (P := (fun (r : Int32) (u : xS) => r = (f_X11_warm S (xs ((nI k) + 1).toNatClampNeg) (xs ((nI k) + 2).toNatClampNeg)).1 ∧ u = (f_X11_warm S (xs ((nI k) + 1).toNatClampNeg) (xs ((nI k) + 2).toNatClampNeg)).2)) hC hP hS (k_X11_warm l X S (xs ((nI k) + 1).toNatClampNeg) (xs ((nI k) + 2).toNatClampNeg) ho.2.1) (cwV 2 hts gL_law_X11_warm rfl rfl rfl hd_X11_warm ⟨Nat.le_of_ble_eq_true rfl, Nat.le_of_ble_eq_true rfl⟩) xo_X11 rfl rfl rfl hl.1 (Nat.le_of_ble_eq_true rfl) dL_law_569 hcl hsl (fun r2 S2 hp_r2 H locs hP hS => ?_)
  obtain ⟨he_r2, hu_r2⟩ := hp_r2
  rw [← he_r2, ← hu_r2] at ho
  refine lv_icmp_eq (tgt := 1061) hx hb dL_law_572 (by decide) (fun _ => ?_) (fun c => absurd ho.2.2.1 c)
  exact kk _ ho.2.2.2 _ _ hP hS ls hl
set_option maxHeartbeats 4000000 in
set_option maxRecDepth 100000 in
theorem law_case_bestRoom {p : Program} {l : Launch} {e : Env} {s : State} {m : MethodId} {below : List Frame} {meth : Method} {c : Code} {X : xX} {b L : Nat} {xs : Nat → Int32} {Q : State → Prop} {cells slots : Nat} (hC : lwC X p s m meth c b L xs) (hcl : cells ≤ room_1.cells) (hsl : slots ≤ room_1.slots) {k : Nat} (hk : k + 4 ≤ L) {S : xS} (hR : xR S) {H : Heap} {locs : List Loc} (hP : va_P X.1 vwCl (xW X S) H) (hS : va_S (lwA s) s.heap H locs) {ls : Array Slot} (hl : lv_has ls 4 [(0, .ref b), (1, .ref (X.2.1 0)), (2, .ref (X.2.1 127)), (3, .int (nI k))])
    (kk : ∀ (S2 : xS) (_ : xR S2) (H : Heap) (locs : List Loc), va_P X.1 vwCl (xW X S2) H → va_S (lwA s) s.heap H locs → ∀ (ls : Array Slot), lv_has ls 4 [(0, .ref b), (1, .ref (X.2.1 0)), (2, .ref (X.2.1 127)), (3, .int (nI k))] → W p l e room_1 s m #[Value.ref b] below meth c H locs cells slots Q (F0 m 1061 ls [])) :
    W p l e room_1 s m #[Value.ref b] below meth c H locs cells slots Q (F0 m 577 ls []) := by
  have hx := hC.1.1
  have hb := hC.1.2.1
  have hts := hC.1.2.2.2.2
  have hX := hC.2.2.2.2.2.1
  have hbl := hC.2.2.2.2.2.2.1
  have hL := hC.2.2.2.2.2.2.2.2.2
  have hbA : ¬ lwA s b := Nat.not_le.mpr hbl
  refine lv_aload_n hx hb dL_law_577 rfl (lv_at hl 1 rfl) ?_
  refine lv_aload_n hx hb dL_law_578 rfl (lv_at hl 0 rfl) ?_
  refine lv_iload_n hx hb dL_law_579 rfl (lv_at hl 3 rfl) ?_
  refine lv_iconst (v := 1) hx hb dL_law_580 (by decide) ?_
  refine lv_iadd hx hb dL_law_581 ?_
  refine va_sld hx hb hX hbl hbA hS (nI_idx (j := 1) (by omega) hL) dL_law_582 ?_
  refine lv_aload_n hx hb dL_law_583 rfl (lv_at hl 0 rfl) ?_
  refine lv_iload_n hx hb dL_law_584 rfl (lv_at hl 3 rfl) ?_
  refine lv_iconst (v := 2) hx hb dL_law_585 (by decide) ?_
  refine lv_iadd hx hb dL_law_586 ?_
  refine va_sld hx hb hX hbl hbA hS (nI_idx (j := 2) (by omega) hL) dL_law_587 ?_
  refine lv_aload_n hx hb dL_law_588 rfl (lv_at hl 0 rfl) ?_
  refine lv_iload_n hx hb dL_law_589 rfl (lv_at hl 3 rfl) ?_
  refine lv_iconst (v := 3) hx hb dL_law_590 (by decide) ?_
  refine lv_iadd hx hb dL_law_591 ?_
  refine va_sld hx hb hX hbl hbA hS (nI_idx (j := 3) (by omega) hL) dL_law_592 ?_
  have ho := op_bestRoom hR (xs ((nI k) + 1).toNatClampNeg) (xs ((nI k) + 2).toNatClampNeg) (xs ((nI k) + 3).toNatClampNeg)
  refine lwcall (bb := 0) (As := [.int (xs ((nI k) + 1).toNatClampNeg), .int (xs ((nI k) + 2).toNatClampNeg), .int (xs ((nI k) + 3).toNatClampNeg)]) (rest := []) (P := (fun (r : Int32) (u : xS) => r = f_X10_bestRoom S (xs ((nI k) + 1).toNatClampNeg) (xs ((nI k) + 2).toNatClampNeg) (xs ((nI k) + 3).toNatClampNeg) ∧ u = S)) hC hP hS (k_X10_bestRoom l X S (xs ((nI k) + 1).toNatClampNeg) (xs ((nI k) + 2).toNatClampNeg) (xs ((nI k) + 3).toNatClampNeg) ho.1) (cwV 3 hts gL_law_X10_bestRoom rfl rfl rfl hd_X10_bestRoom ⟨Nat.le_of_ble_eq_true rfl, Nat.le_of_ble_eq_true rfl⟩) xo_X10 rfl rfl rfl hl.1 (Nat.le_of_ble_eq_true rfl) dL_law_593 hcl hsl (fun r1 S1 hp_r1 H locs hP hS => ?_)
  obtain ⟨he_r1, hu_r1⟩ := hp_r1
  rw [← he_r1] at ho
  rw [hu_r1] at hP
  refine lv_aload_n hx hb dL_law_596 rfl (lv_at hl 2 rfl) ?_
  refine lv_aload_n hx hb dL_law_597 rfl (lv_at hl 0 rfl) ?_
  refine lv_iload_n hx hb dL_law_598 rfl (lv_at hl 3 rfl) ?_
  refine lv_iconst (v := 1) hx hb dL_law_599 (by decide) ?_
  refine lv_iadd hx hb dL_law_600 ?_
  refine va_sld hx hb hX hbl hbA hS (nI_idx (j := 1) (by omega) hL) dL_law_601 ?_
  refine lv_aload_n hx hb dL_law_602 rfl (lv_at hl 0 rfl) ?_
  refine lv_iload_n hx hb dL_law_603 rfl (lv_at hl 3 rfl) ?_
  refine lv_iconst (v := 2) hx hb dL_law_604 (by decide) ?_
  refine lv_iadd hx hb dL_law_605 ?_
  refine va_sld hx hb hX hbl hbA hS (nI_idx (j := 2) (by omega) hL) dL_law_606 ?_
  refine lv_aload_n hx hb dL_law_607 rfl (lv_at hl 0 rfl) ?_
  refine lv_iload_n hx hb dL_law_608 rfl (lv_at hl 3 rfl) ?_
  refine lv_iconst (v := 3) hx hb dL_law_609 (by decide) ?_
  refine lv_iadd hx hb dL_law_610 ?_
  refine va_sld hx hb hX hbl hbA hS (nI_idx (j := 3) (by omega) hL) dL_law_611 ?_
  refine lwcall (bb := 127) (As := [.int (xs ((nI k) + 1).toNatClampNeg), .int (xs ((nI k) + 2).toNatClampNeg), .int (xs ((nI k) + 3).toNatClampNeg)]) (rest := [.int r1]) (P := (fun (r : Int32) (u : xS) => r = (f_X11_bestRoom S (xs ((nI k) + 1).toNatClampNeg) (xs ((nI k) + 2).toNatClampNeg) (xs ((nI k) + 3).toNatClampNeg)).1 ∧ u = (f_X11_bestRoom S (xs ((nI k) + 1).toNatClampNeg) (xs ((nI k) + 2).toNatClampNeg) (xs ((nI k) + 3).toNatClampNeg)).2)) hC hP hS (k_X11_bestRoom l X S (xs ((nI k) + 1).toNatClampNeg) (xs ((nI k) + 2).toNatClampNeg) (xs ((nI k) + 3).toNatClampNeg) ho.2.1) (cwV 3 hts gL_law_X11_bestRoom rfl rfl rfl hd_X11_bestRoom ⟨Nat.le_of_ble_eq_true rfl, Nat.le_of_ble_eq_true rfl⟩) xo_X11 rfl rfl rfl hl.1 (Nat.le_of_ble_eq_true rfl) dL_law_612 hcl hsl (fun r2 S2 hp_r2 H locs hP hS => ?_)
  obtain ⟨he_r2, hu_r2⟩ := hp_r2
  rw [← he_r2, ← hu_r2] at ho
  refine lv_icmp_eq (tgt := 1061) hx hb dL_law_615 (by decide) (fun _ => ?_) (fun c => absurd ho.2.2.1 c)
  exact kk _ ho.2.2.2 _ _ hP hS ls hl
set_option maxHeartbeats 4000000 in
set_option maxRecDepth 100000 in
theorem law_case_route {p : Program} {l : Launch} {e : Env} {s : State} {m : MethodId} {below : List Frame} {meth : Method} {c : Code} {X : xX} {b L : Nat} {xs : Nat → Int32} {Q : State → Prop} {cells slots : Nat} (hC : lwC X p s m meth c b L xs) (hcl : cells ≤ room_1.cells) (hsl : slots ≤ room_1.slots) {k : Nat} (hk : k + 4 ≤ L) {S : xS} (hR : xR S) {H : Heap} {locs : List Loc} (hP : va_P X.1 vwCl (xW X S) H) (hS : va_S (lwA s) s.heap H locs) {ls : Array Slot} (hl : lv_has ls 4 [(0, .ref b), (1, .ref (X.2.1 0)), (2, .ref (X.2.1 127)), (3, .int (nI k))])
    (kk : ∀ (S2 : xS) (_ : xR S2) (H : Heap) (locs : List Loc), va_P X.1 vwCl (xW X S2) H → va_S (lwA s) s.heap H locs → ∀ (ls : Array Slot), lv_has ls 4 [(0, .ref b), (1, .ref (X.2.1 0)), (2, .ref (X.2.1 127)), (3, .int (nI k))] → W p l e room_1 s m #[Value.ref b] below meth c H locs cells slots Q (F0 m 1061 ls [])) :
    W p l e room_1 s m #[Value.ref b] below meth c H locs cells slots Q (F0 m 620 ls []) := by
  have hx := hC.1.1
  have hb := hC.1.2.1
  have hts := hC.1.2.2.2.2
  have hX := hC.2.2.2.2.2.1
  have hbl := hC.2.2.2.2.2.2.1
  have hL := hC.2.2.2.2.2.2.2.2.2
  have hbA : ¬ lwA s b := Nat.not_le.mpr hbl
  refine lv_aload_n hx hb dL_law_620 rfl (lv_at hl 1 rfl) ?_
  refine lv_aload_n hx hb dL_law_621 rfl (lv_at hl 0 rfl) ?_
  refine lv_iload_n hx hb dL_law_622 rfl (lv_at hl 3 rfl) ?_
  refine lv_iconst (v := 1) hx hb dL_law_623 (by decide) ?_
  refine lv_iadd hx hb dL_law_624 ?_
  refine va_sld hx hb hX hbl hbA hS (nI_idx (j := 1) (by omega) hL) dL_law_625 ?_
  refine lv_aload_n hx hb dL_law_626 rfl (lv_at hl 0 rfl) ?_
  refine lv_iload_n hx hb dL_law_627 rfl (lv_at hl 3 rfl) ?_
  refine lv_iconst (v := 2) hx hb dL_law_628 (by decide) ?_
  refine lv_iadd hx hb dL_law_629 ?_
  refine va_sld hx hb hX hbl hbA hS (nI_idx (j := 2) (by omega) hL) dL_law_630 ?_
  refine lv_aload_n hx hb dL_law_631 rfl (lv_at hl 0 rfl) ?_
  refine lv_iload_n hx hb dL_law_632 rfl (lv_at hl 3 rfl) ?_
  refine lv_iconst (v := 3) hx hb dL_law_633 (by decide) ?_
  refine lv_iadd hx hb dL_law_634 ?_
  refine va_sld hx hb hX hbl hbA hS (nI_idx (j := 3) (by omega) hL) dL_law_635 ?_
  have ho := op_route hR (xs ((nI k) + 1).toNatClampNeg) (xs ((nI k) + 2).toNatClampNeg) (xs ((nI k) + 3).toNatClampNeg)
  refine lwcall (bb := 0) (As := [.int (xs ((nI k) + 1).toNatClampNeg), .int (xs ((nI k) + 2).toNatClampNeg), .int (xs ((nI k) + 3).toNatClampNeg)]) (rest := []) (P := (fun (r : Int32) (u : xS) => r = (f_X10_route S (xs ((nI k) + 1).toNatClampNeg) (xs ((nI k) + 2).toNatClampNeg) (xs ((nI k) + 3).toNatClampNeg)).1 ∧ u = (f_X10_route S (xs ((nI k) + 1).toNatClampNeg) (xs ((nI k) + 2).toNatClampNeg) (xs ((nI k) + 3).toNatClampNeg)).2)) hC hP hS (k_X10_route l X S (xs ((nI k) + 1).toNatClampNeg) (xs ((nI k) + 2).toNatClampNeg) (xs ((nI k) + 3).toNatClampNeg) ho.1) (cwV 3 hts gL_law_X10_route rfl rfl rfl hd_X10_route ⟨Nat.le_of_ble_eq_true rfl, Nat.le_of_ble_eq_true rfl⟩) xo_X10 rfl rfl rfl hl.1 (Nat.le_of_ble_eq_true rfl) dL_law_636 hcl hsl (fun r1 S1 hp_r1 H locs hP hS => ?_)
  obtain ⟨he_r1, hu_r1⟩ := hp_r1
  rw [← hu_r1, ← he_r1] at ho
  refine lv_aload_n hx hb dL_law_639 rfl (lv_at hl 2 rfl) ?_
  refine lv_aload_n hx hb dL_law_640 rfl (lv_at hl 0 rfl) ?_
  refine lv_iload_n hx hb dL_law_641 rfl (lv_at hl 3 rfl) ?_
  refine lv_iconst (v := 1) hx hb dL_law_642 (by decide) ?_
  refine lv_iadd hx hb dL_law_643 ?_
  refine va_sld hx hb hX hbl hbA hS (nI_idx (j := 1) (by omega) hL) dL_law_644 ?_
  refine lv_aload_n hx hb dL_law_645 rfl (lv_at hl 0 rfl) ?_
  refine lv_iload_n hx hb dL_law_646 rfl (lv_at hl 3 rfl) ?_
  refine lv_iconst (v := 2) hx hb dL_law_647 (by decide) ?_
  refine lv_iadd hx hb dL_law_648 ?_
  refine va_sld hx hb hX hbl hbA hS (nI_idx (j := 2) (by omega) hL) dL_law_649 ?_
  refine lv_aload_n hx hb dL_law_650 rfl (lv_at hl 0 rfl) ?_
  refine lv_iload_n hx hb dL_law_651 rfl (lv_at hl 3 rfl) ?_
  refine lv_iconst (v := 3) hx hb dL_law_652 (by decide) ?_
  refine lv_iadd hx hb dL_law_653 ?_
  refine va_sld hx hb hX hbl hbA hS (nI_idx (j := 3) (by omega) hL) dL_law_654 ?_
  refine lwcall (bb := 127) (As := [.int (xs ((nI k) + 1).toNatClampNeg), .int (xs ((nI k) + 2).toNatClampNeg), .int (xs ((nI k) + 3).toNatClampNeg)]) (rest := [.int r1]) (P := (fun (r : Int32) (u : xS) => r = (f_X11_route S1 (xs ((nI k) + 1).toNatClampNeg) (xs ((nI k) + 2).toNatClampNeg) (xs ((nI k) + 3).toNatClampNeg)).1 ∧ u = (f_X11_route S1 (xs ((nI k) + 1).toNatClampNeg) (xs ((nI k) + 2).toNatClampNeg) (xs ((nI k) + 3).toNatClampNeg)).2)) hC hP hS (k_X11_route l X S1 (xs ((nI k) + 1).toNatClampNeg) (xs ((nI k) + 2).toNatClampNeg) (xs ((nI k) + 3).toNatClampNeg) ho.2.1) (cwV 3 hts gL_law_X11_route rfl rfl rfl hd_X11_route ⟨Nat.le_of_ble_eq_true rfl, Nat.le_of_ble_eq_true rfl⟩) xo_X11 rfl rfl rfl hl.1 (Nat.le_of_ble_eq_true rfl) dL_law_655 hcl hsl (fun r2 S2 hp_r2 H locs hP hS => ?_)
  obtain ⟨he_r2, hu_r2⟩ := hp_r2
  rw [← he_r2, ← hu_r2] at ho
  refine lv_icmp_eq (tgt := 1061) hx hb dL_law_658 (by decide) (fun _ => ?_) (fun c => absurd ho.2.2.1 c)
  exact kk _ ho.2.2.2 _ _ hP hS ls hl
set_option maxHeartbeats 4000000 in
set_option maxRecDepth 100000 in
theorem law_case_leavers {p : Program} {l : Launch} {e : Env} {s : State} {m : MethodId} {below : List Frame} {meth : Method} {c : Code} {X : xX} {b L : Nat} {xs : Nat → Int32} {Q : State → Prop} {cells slots : Nat} (hC : lwC X p s m meth c b L xs) (hcl : cells ≤ room_1.cells) (hsl : slots ≤ room_1.slots) {k : Nat} (hk : k + 4 ≤ L) {S : xS} (hR : xR S) {H : Heap} {locs : List Loc} (hP : va_P X.1 vwCl (xW X S) H) (hS : va_S (lwA s) s.heap H locs) {ls : Array Slot} (hl : lv_has ls 4 [(0, .ref b), (1, .ref (X.2.1 0)), (2, .ref (X.2.1 127)), (3, .int (nI k))])
    (kk : ∀ (S2 : xS) (_ : xR S2) (H : Heap) (locs : List Loc), va_P X.1 vwCl (xW X S2) H → va_S (lwA s) s.heap H locs → ∀ (ls : Array Slot), lv_has ls 4 [(0, .ref b), (1, .ref (X.2.1 0)), (2, .ref (X.2.1 127)), (3, .int (nI k))] → W p l e room_1 s m #[Value.ref b] below meth c H locs cells slots Q (F0 m 1061 ls [])) :
    W p l e room_1 s m #[Value.ref b] below meth c H locs cells slots Q (F0 m 663 ls []) := by
  have hx := hC.1.1
  have hb := hC.1.2.1
  have hts := hC.1.2.2.2.2
  have hX := hC.2.2.2.2.2.1
  have hbl := hC.2.2.2.2.2.2.1
  have hL := hC.2.2.2.2.2.2.2.2.2
  have hbA : ¬ lwA s b := Nat.not_le.mpr hbl
  refine lv_aload_n hx hb dL_law_663 rfl (lv_at hl 1 rfl) ?_
  refine lv_aload_n hx hb dL_law_664 rfl (lv_at hl 0 rfl) ?_
  refine lv_iload_n hx hb dL_law_665 rfl (lv_at hl 3 rfl) ?_
  refine lv_iconst (v := 1) hx hb dL_law_666 (by decide) ?_
  refine lv_iadd hx hb dL_law_667 ?_
  refine va_sld hx hb hX hbl hbA hS (nI_idx (j := 1) (by omega) hL) dL_law_668 ?_
  refine lv_aload_n hx hb dL_law_669 rfl (lv_at hl 0 rfl) ?_
  refine lv_iload_n hx hb dL_law_670 rfl (lv_at hl 3 rfl) ?_
  refine lv_iconst (v := 2) hx hb dL_law_671 (by decide) ?_
  refine lv_iadd hx hb dL_law_672 ?_
  refine va_sld hx hb hX hbl hbA hS (nI_idx (j := 2) (by omega) hL) dL_law_673 ?_
  have ho := op_leavers hR (xs ((nI k) + 1).toNatClampNeg) (xs ((nI k) + 2).toNatClampNeg)
  refine lwcall (bb := 0) (As := [.int (xs ((nI k) + 1).toNatClampNeg), .int (xs ((nI k) + 2).toNatClampNeg)]) (rest := []) (P := (fun (r : Int32) (u : xS) => r = f_X10_leavers S (xs ((nI k) + 1).toNatClampNeg) (xs ((nI k) + 2).toNatClampNeg) ∧ u = S)) hC hP hS (k_X10_leavers l X S (xs ((nI k) + 1).toNatClampNeg) (xs ((nI k) + 2).toNatClampNeg) ho.1) (cwV 2 hts gL_law_X10_leavers rfl rfl rfl hd_X10_leavers ⟨Nat.le_of_ble_eq_true rfl, Nat.le_of_ble_eq_true rfl⟩) xo_X10 rfl rfl rfl hl.1 (Nat.le_of_ble_eq_true rfl) dL_law_674 hcl hsl (fun r1 S1 hp_r1 H locs hP hS => ?_)
  obtain ⟨he_r1, hu_r1⟩ := hp_r1
  rw [← he_r1] at ho
  rw [hu_r1] at hP
  refine lv_aload_n hx hb dL_law_677 rfl (lv_at hl 2 rfl) ?_
  refine lv_aload_n hx hb dL_law_678 rfl (lv_at hl 0 rfl) ?_
  refine lv_iload_n hx hb dL_law_679 rfl (lv_at hl 3 rfl) ?_
  refine lv_iconst (v := 1) hx hb dL_law_680 (by decide) ?_
  refine lv_iadd hx hb dL_law_681 ?_
  refine va_sld hx hb hX hbl hbA hS (nI_idx (j := 1) (by omega) hL) dL_law_682 ?_
  refine lv_aload_n hx hb dL_law_683 rfl (lv_at hl 0 rfl) ?_
  refine lv_iload_n hx hb dL_law_684 rfl (lv_at hl 3 rfl) ?_
  refine lv_iconst (v := 2) hx hb dL_law_685 (by decide) ?_
  refine lv_iadd hx hb dL_law_686 ?_
  refine va_sld hx hb hX hbl hbA hS (nI_idx (j := 2) (by omega) hL) dL_law_687 ?_
  refine lwcall (bb := 127) (As := [.int (xs ((nI k) + 1).toNatClampNeg), .int (xs ((nI k) + 2).toNatClampNeg)]) (rest := [.int r1]) (P := (fun (r : Int32) (u : xS) => r = (f_X11_leavers S (xs ((nI k) + 1).toNatClampNeg) (xs ((nI k) + 2).toNatClampNeg)).1 ∧ u = (f_X11_leavers S (xs ((nI k) + 1).toNatClampNeg) (xs ((nI k) + 2).toNatClampNeg)).2)) hC hP hS (k_X11_leavers l X S (xs ((nI k) + 1).toNatClampNeg) (xs ((nI k) + 2).toNatClampNeg) ho.2.1) (cwV 2 hts gL_law_X11_leavers rfl rfl rfl hd_X11_leavers ⟨Nat.le_of_ble_eq_true rfl, Nat.le_of_ble_eq_true rfl⟩) xo_X11 rfl rfl rfl hl.1 (Nat.le_of_ble_eq_true rfl) dL_law_688 hcl hsl (fun r2 S2 hp_r2 H locs hP hS => ?_)
  obtain ⟨he_r2, hu_r2⟩ := hp_r2
  rw [← he_r2, ← hu_r2] at ho
  refine lv_icmp_eq (tgt := 1061) hx hb dL_law_691 (by decide) (fun _ => ?_) (fun c => absurd ho.2.2.1 c)
  exact kk _ ho.2.2.2 _ _ hP hS ls hl
set_option maxHeartbeats 4000000 in
set_option maxRecDepth 100000 in
theorem law_case_silent {p : Program} {l : Launch} {e : Env} {s : State} {m : MethodId} {below : List Frame} {meth : Method} {c : Code} {X : xX} {b L : Nat} {xs : Nat → Int32} {Q : State → Prop} {cells slots : Nat} (hC : lwC X p s m meth c b L xs) (hcl : cells ≤ room_1.cells) (hsl : slots ≤ room_1.slots) {k : Nat} (hk : k + 4 ≤ L) {S : xS} (hR : xR S) {H : Heap} {locs : List Loc} (hP : va_P X.1 vwCl (xW X S) H) (hS : va_S (lwA s) s.heap H locs) {ls : Array Slot} (hl : lv_has ls 4 [(0, .ref b), (1, .ref (X.2.1 0)), (2, .ref (X.2.1 127)), (3, .int (nI k))])
    (kk : ∀ (S2 : xS) (_ : xR S2) (H : Heap) (locs : List Loc), va_P X.1 vwCl (xW X S2) H → va_S (lwA s) s.heap H locs → ∀ (ls : Array Slot), lv_has ls 4 [(0, .ref b), (1, .ref (X.2.1 0)), (2, .ref (X.2.1 127)), (3, .int (nI k))] → W p l e room_1 s m #[Value.ref b] below meth c H locs cells slots Q (F0 m 1061 ls [])) :
    W p l e room_1 s m #[Value.ref b] below meth c H locs cells slots Q (F0 m 696 ls []) := by
  have hx := hC.1.1
  have hb := hC.1.2.1
  have hts := hC.1.2.2.2.2
  have hX := hC.2.2.2.2.2.1
  have hbl := hC.2.2.2.2.2.2.1
  have hL := hC.2.2.2.2.2.2.2.2.2
  have hbA : ¬ lwA s b := Nat.not_le.mpr hbl
  refine lv_aload_n hx hb dL_law_696 rfl (lv_at hl 1 rfl) ?_
  refine lv_aload_n hx hb dL_law_697 rfl (lv_at hl 0 rfl) ?_
  refine lv_iload_n hx hb dL_law_698 rfl (lv_at hl 3 rfl) ?_
  refine lv_iconst (v := 1) hx hb dL_law_699 (by decide) ?_
  refine lv_iadd hx hb dL_law_700 ?_
  refine va_sld hx hb hX hbl hbA hS (nI_idx (j := 1) (by omega) hL) dL_law_701 ?_
  have ho := op_silent hR (xs ((nI k) + 1).toNatClampNeg)
  refine lwcall (bb := 0) (As := [.int (xs ((nI k) + 1).toNatClampNeg)]) (rest := []) (P := (fun (r : Int32) (u : xS) => r = f_X10_silent S (xs ((nI k) + 1).toNatClampNeg) ∧ u = S)) hC hP hS (k_X10_silent l X S (xs ((nI k) + 1).toNatClampNeg) ho.1) (cwV 1 hts gL_law_X10_silent rfl rfl rfl hd_X10_silent ⟨Nat.le_of_ble_eq_true rfl, Nat.le_of_ble_eq_true rfl⟩) xo_X10 rfl rfl rfl hl.1 (Nat.le_of_ble_eq_true rfl) dL_law_702 hcl hsl (fun r1 S1 hp_r1 H locs hP hS => ?_)
  obtain ⟨he_r1, hu_r1⟩ := hp_r1
  rw [← he_r1] at ho
  rw [hu_r1] at hP
  refine lv_aload_n hx hb dL_law_705 rfl (lv_at hl 2 rfl) ?_
  refine lv_aload_n hx hb dL_law_706 rfl (lv_at hl 0 rfl) ?_
  refine lv_iload_n hx hb dL_law_707 rfl (lv_at hl 3 rfl) ?_
  refine lv_iconst (v := 1) hx hb dL_law_708 (by decide) ?_
  refine lv_iadd hx hb dL_law_709 ?_
  refine va_sld hx hb hX hbl hbA hS (nI_idx (j := 1) (by omega) hL) dL_law_710 ?_
  refine lwcall (bb := 127) (As := [.int (xs ((nI k) + 1).toNatClampNeg)]) (rest := [.int r1]) (P := (fun (r : Int32) (u : xS) => r = f_X11_silent S (xs ((nI k) + 1).toNatClampNeg) ∧ u = S)) hC hP hS (k_X11_silent l X S (xs ((nI k) + 1).toNatClampNeg) ho.2.1) (cwV 1 hts gL_law_X11_silent rfl rfl rfl hd_X11_silent ⟨Nat.le_of_ble_eq_true rfl, Nat.le_of_ble_eq_true rfl⟩) xo_X11 rfl rfl rfl hl.1 (Nat.le_of_ble_eq_true rfl) dL_law_711 hcl hsl (fun r2 S2 hp_r2 H locs hP hS => ?_)
  obtain ⟨he_r2, hu_r2⟩ := hp_r2
  rw [← he_r2] at ho
  rw [hu_r2] at hP
  refine lv_icmp_eq (tgt := 1061) hx hb dL_law_714 (by decide) (fun _ => ?_) (fun c => absurd ho.2.2.1 c)
  exact kk _ ho.2.2.2 _ _ hP hS ls hl
set_option maxHeartbeats 4000000 in
set_option maxRecDepth 100000 in
theorem law_case_carried {p : Program} {l : Launch} {e : Env} {s : State} {m : MethodId} {below : List Frame} {meth : Method} {c : Code} {X : xX} {b L : Nat} {xs : Nat → Int32} {Q : State → Prop} {cells slots : Nat} (hC : lwC X p s m meth c b L xs) (hcl : cells ≤ room_1.cells) (hsl : slots ≤ room_1.slots) {k : Nat} (hk : k + 4 ≤ L) {S : xS} (hR : xR S) {H : Heap} {locs : List Loc} (hP : va_P X.1 vwCl (xW X S) H) (hS : va_S (lwA s) s.heap H locs) {ls : Array Slot} (hl : lv_has ls 4 [(0, .ref b), (1, .ref (X.2.1 0)), (2, .ref (X.2.1 127)), (3, .int (nI k))])
    (kk : ∀ (S2 : xS) (_ : xR S2) (H : Heap) (locs : List Loc), va_P X.1 vwCl (xW X S2) H → va_S (lwA s) s.heap H locs → ∀ (ls : Array Slot), lv_has ls 4 [(0, .ref b), (1, .ref (X.2.1 0)), (2, .ref (X.2.1 127)), (3, .int (nI k))] → W p l e room_1 s m #[Value.ref b] below meth c H locs cells slots Q (F0 m 1061 ls [])) :
    W p l e room_1 s m #[Value.ref b] below meth c H locs cells slots Q (F0 m 719 ls []) := by
  have hx := hC.1.1
  have hb := hC.1.2.1
  have hts := hC.1.2.2.2.2
  have hX := hC.2.2.2.2.2.1
  have hbl := hC.2.2.2.2.2.2.1
  have hL := hC.2.2.2.2.2.2.2.2.2
  have hbA : ¬ lwA s b := Nat.not_le.mpr hbl
  refine lv_aload_n hx hb dL_law_719 rfl (lv_at hl 1 rfl) ?_
  refine lv_aload_n hx hb dL_law_720 rfl (lv_at hl 0 rfl) ?_
  refine lv_iload_n hx hb dL_law_721 rfl (lv_at hl 3 rfl) ?_
  refine lv_iconst (v := 1) hx hb dL_law_722 (by decide) ?_
  refine lv_iadd hx hb dL_law_723 ?_
  refine va_sld hx hb hX hbl hbA hS (nI_idx (j := 1) (by omega) hL) dL_law_724 ?_
  refine lv_aload_n hx hb dL_law_725 rfl (lv_at hl 0 rfl) ?_
  refine lv_iload_n hx hb dL_law_726 rfl (lv_at hl 3 rfl) ?_
  refine lv_iconst (v := 2) hx hb dL_law_727 (by decide) ?_
  refine lv_iadd hx hb dL_law_728 ?_
  refine va_sld hx hb hX hbl hbA hS (nI_idx (j := 2) (by omega) hL) dL_law_729 ?_
  have ho := op_carried hR (xs ((nI k) + 1).toNatClampNeg) (xs ((nI k) + 2).toNatClampNeg)
  refine lwcall (bb := 0) (As := [.int (xs ((nI k) + 1).toNatClampNeg), .int (xs ((nI k) + 2).toNatClampNeg)]) (rest := []) (P := (fun (r : Int32) (u : xS) => r = f_X10_carried S (xs ((nI k) + 1).toNatClampNeg) (xs ((nI k) + 2).toNatClampNeg) ∧ u = S)) hC hP hS (k_X10_carried l X S (xs ((nI k) + 1).toNatClampNeg) (xs ((nI k) + 2).toNatClampNeg) ho.1) (cwV 2 hts gL_law_X10_carried rfl rfl rfl hd_X10_carried ⟨Nat.le_of_ble_eq_true rfl, Nat.le_of_ble_eq_true rfl⟩) xo_X10 rfl rfl rfl hl.1 (Nat.le_of_ble_eq_true rfl) dL_law_730 hcl hsl (fun r1 S1 hp_r1 H locs hP hS => ?_)
  obtain ⟨he_r1, hu_r1⟩ := hp_r1
  rw [← he_r1] at ho
  rw [hu_r1] at hP
  refine lv_aload_n hx hb dL_law_733 rfl (lv_at hl 2 rfl) ?_
  refine lv_aload_n hx hb dL_law_734 rfl (lv_at hl 0 rfl) ?_
  refine lv_iload_n hx hb dL_law_735 rfl (lv_at hl 3 rfl) ?_
  refine lv_iconst (v := 1) hx hb dL_law_736 (by decide) ?_
  refine lv_iadd hx hb dL_law_737 ?_
  refine va_sld hx hb hX hbl hbA hS (nI_idx (j := 1) (by omega) hL) dL_law_738 ?_
  refine lv_aload_n hx hb dL_law_739 rfl (lv_at hl 0 rfl) ?_
  refine lv_iload_n hx hb dL_law_740 rfl (lv_at hl 3 rfl) ?_
  refine lv_iconst (v := 2) hx hb dL_law_741 (by decide) ?_
  refine lv_iadd hx hb dL_law_742 ?_
  refine va_sld hx hb hX hbl hbA hS (nI_idx (j := 2) (by omega) hL) dL_law_743 ?_
  refine lwcall (bb := 127) (As := [.int (xs ((nI k) + 1).toNatClampNeg), .int (xs ((nI k) + 2).toNatClampNeg)]) (rest := [.int r1]) (P := (fun (r : Int32) (u : xS) => r = f_X11_carried S (xs ((nI k) + 1).toNatClampNeg) (xs ((nI k) + 2).toNatClampNeg) ∧ u = S)) hC hP hS (k_X11_carried l X S (xs ((nI k) + 1).toNatClampNeg) (xs ((nI k) + 2).toNatClampNeg) ho.2.1) (cwV 2 hts gL_law_X11_carried rfl rfl rfl hd_X11_carried ⟨Nat.le_of_ble_eq_true rfl, Nat.le_of_ble_eq_true rfl⟩) xo_X11 rfl rfl rfl hl.1 (Nat.le_of_ble_eq_true rfl) dL_law_744 hcl hsl (fun r2 S2 hp_r2 H locs hP hS => ?_)
  obtain ⟨he_r2, hu_r2⟩ := hp_r2
  rw [← he_r2] at ho
  rw [hu_r2] at hP
  refine lv_icmp_eq (tgt := 1061) hx hb dL_law_747 (by decide) (fun _ => ?_) (fun c => absurd ho.2.2.1 c)
  exact kk _ ho.2.2.2 _ _ hP hS ls hl
set_option maxHeartbeats 4000000 in
set_option maxRecDepth 100000 in
theorem law_case_hale {p : Program} {l : Launch} {e : Env} {s : State} {m : MethodId} {below : List Frame} {meth : Method} {c : Code} {X : xX} {b L : Nat} {xs : Nat → Int32} {Q : State → Prop} {cells slots : Nat} (hC : lwC X p s m meth c b L xs) (hcl : cells ≤ room_1.cells) (hsl : slots ≤ room_1.slots) {k : Nat} (hk : k + 4 ≤ L) {S : xS} (hR : xR S) {H : Heap} {locs : List Loc} (hP : va_P X.1 vwCl (xW X S) H) (hS : va_S (lwA s) s.heap H locs) {ls : Array Slot} (hl : lv_has ls 4 [(0, .ref b), (1, .ref (X.2.1 0)), (2, .ref (X.2.1 127)), (3, .int (nI k))])
    (kk : ∀ (S2 : xS) (_ : xR S2) (H : Heap) (locs : List Loc), va_P X.1 vwCl (xW X S2) H → va_S (lwA s) s.heap H locs → ∀ (ls : Array Slot), lv_has ls 4 [(0, .ref b), (1, .ref (X.2.1 0)), (2, .ref (X.2.1 127)), (3, .int (nI k))] → W p l e room_1 s m #[Value.ref b] below meth c H locs cells slots Q (F0 m 1061 ls [])) :
    W p l e room_1 s m #[Value.ref b] below meth c H locs cells slots Q (F0 m 752 ls []) := by
  have hx := hC.1.1
  have hb := hC.1.2.1
  have hts := hC.1.2.2.2.2
  have hX := hC.2.2.2.2.2.1
  have hbl := hC.2.2.2.2.2.2.1
  have hL := hC.2.2.2.2.2.2.2.2.2
  have hbA : ¬ lwA s b := Nat.not_le.mpr hbl
  refine lv_aload_n hx hb dL_law_752 rfl (lv_at hl 1 rfl) ?_
  refine lv_aload_n hx hb dL_law_753 rfl (lv_at hl 0 rfl) ?_
  refine lv_iload_n hx hb dL_law_754 rfl (lv_at hl 3 rfl) ?_
  refine lv_iconst (v := 1) hx hb dL_law_755 (by decide) ?_
  refine lv_iadd hx hb dL_law_756 ?_
  refine va_sld hx hb hX hbl hbA hS (nI_idx (j := 1) (by omega) hL) dL_law_757 ?_
  refine lv_aload_n hx hb dL_law_758 rfl (lv_at hl 0 rfl) ?_
  refine lv_iload_n hx hb dL_law_759 rfl (lv_at hl 3 rfl) ?_
  refine lv_iconst (v := 2) hx hb dL_law_760 (by decide) ?_
  refine lv_iadd hx hb dL_law_761 ?_
  refine va_sld hx hb hX hbl hbA hS (nI_idx (j := 2) (by omega) hL) dL_law_762 ?_
  have ho := op_hale hR (xs ((nI k) + 1).toNatClampNeg) (xs ((nI k) + 2).toNatClampNeg)
  refine lwcall (bb := 0) (As := [.int (xs ((nI k) + 1).toNatClampNeg), .int (xs ((nI k) + 2).toNatClampNeg)]) (rest := []) (P := (fun (r : Int32) (u : xS) => r = f_X10_hale S (xs ((nI k) + 1).toNatClampNeg) (xs ((nI k) + 2).toNatClampNeg) ∧ u = S)) hC hP hS (k_X10_hale l X S (xs ((nI k) + 1).toNatClampNeg) (xs ((nI k) + 2).toNatClampNeg) ho.1) (cwV 2 hts gL_law_X10_hale rfl rfl rfl hd_X10_hale ⟨Nat.le_of_ble_eq_true rfl, Nat.le_of_ble_eq_true rfl⟩) xo_X10 rfl rfl rfl hl.1 (Nat.le_of_ble_eq_true rfl) dL_law_763 hcl hsl (fun r1 S1 hp_r1 H locs hP hS => ?_)
  obtain ⟨he_r1, hu_r1⟩ := hp_r1
  rw [← he_r1] at ho
  rw [hu_r1] at hP
  refine lv_aload_n hx hb dL_law_766 rfl (lv_at hl 2 rfl) ?_
  refine lv_aload_n hx hb dL_law_767 rfl (lv_at hl 0 rfl) ?_
  refine lv_iload_n hx hb dL_law_768 rfl (lv_at hl 3 rfl) ?_
  refine lv_iconst (v := 1) hx hb dL_law_769 (by decide) ?_
  refine lv_iadd hx hb dL_law_770 ?_
  refine va_sld hx hb hX hbl hbA hS (nI_idx (j := 1) (by omega) hL) dL_law_771 ?_
  refine lv_aload_n hx hb dL_law_772 rfl (lv_at hl 0 rfl) ?_
  refine lv_iload_n hx hb dL_law_773 rfl (lv_at hl 3 rfl) ?_
  refine lv_iconst (v := 2) hx hb dL_law_774 (by decide) ?_
  refine lv_iadd hx hb dL_law_775 ?_
  refine va_sld hx hb hX hbl hbA hS (nI_idx (j := 2) (by omega) hL) dL_law_776 ?_
  refine lwcall (bb := 127) (As := [.int (xs ((nI k) + 1).toNatClampNeg), .int (xs ((nI k) + 2).toNatClampNeg)]) (rest := [.int r1]) (P := (fun (r : Int32) (u : xS) => r = f_X11_hale S (xs ((nI k) + 1).toNatClampNeg) (xs ((nI k) + 2).toNatClampNeg) ∧ u = S)) hC hP hS (k_X11_hale l X S (xs ((nI k) + 1).toNatClampNeg) (xs ((nI k) + 2).toNatClampNeg) ho.2.1) (cwV 2 hts gL_law_X11_hale rfl rfl rfl hd_X11_hale ⟨Nat.le_of_ble_eq_true rfl, Nat.le_of_ble_eq_true rfl⟩) xo_X11 rfl rfl rfl hl.1 (Nat.le_of_ble_eq_true rfl) dL_law_777 hcl hsl (fun r2 S2 hp_r2 H locs hP hS => ?_)
  obtain ⟨he_r2, hu_r2⟩ := hp_r2
  rw [← he_r2] at ho
  rw [hu_r2] at hP
  refine lv_icmp_eq (tgt := 1061) hx hb dL_law_780 (by decide) (fun _ => ?_) (fun c => absurd ho.2.2.1 c)
  exact kk _ ho.2.2.2 _ _ hP hS ls hl
set_option maxHeartbeats 4000000 in
set_option maxRecDepth 100000 in
theorem law_case_note {p : Program} {l : Launch} {e : Env} {s : State} {m : MethodId} {below : List Frame} {meth : Method} {c : Code} {X : xX} {b L : Nat} {xs : Nat → Int32} {Q : State → Prop} {cells slots : Nat} (hC : lwC X p s m meth c b L xs) (hcl : cells ≤ room_1.cells) (hsl : slots ≤ room_1.slots) {k : Nat} (hk : k + 4 ≤ L) {S : xS} (hR : xR S) {H : Heap} {locs : List Loc} (hP : va_P X.1 vwCl (xW X S) H) (hS : va_S (lwA s) s.heap H locs) {ls : Array Slot} (hl : lv_has ls 4 [(0, .ref b), (1, .ref (X.2.1 0)), (2, .ref (X.2.1 127)), (3, .int (nI k))])
    (kk : ∀ (S2 : xS) (_ : xR S2) (H : Heap) (locs : List Loc), va_P X.1 vwCl (xW X S2) H → va_S (lwA s) s.heap H locs → ∀ (ls : Array Slot), lv_has ls 4 [(0, .ref b), (1, .ref (X.2.1 0)), (2, .ref (X.2.1 127)), (3, .int (nI k))] → W p l e room_1 s m #[Value.ref b] below meth c H locs cells slots Q (F0 m 1061 ls [])) :
    W p l e room_1 s m #[Value.ref b] below meth c H locs cells slots Q (F0 m 785 ls []) := by
  have hx := hC.1.1
  have hb := hC.1.2.1
  have hts := hC.1.2.2.2.2
  have hX := hC.2.2.2.2.2.1
  have hbl := hC.2.2.2.2.2.2.1
  have hL := hC.2.2.2.2.2.2.2.2.2
  have hbA : ¬ lwA s b := Nat.not_le.mpr hbl
  refine lv_aload_n hx hb dL_law_785 rfl (lv_at hl 1 rfl) ?_
  refine lv_aload_n hx hb dL_law_786 rfl (lv_at hl 0 rfl) ?_
  refine lv_iload_n hx hb dL_law_787 rfl (lv_at hl 3 rfl) ?_
  refine lv_iconst (v := 1) hx hb dL_law_788 (by decide) ?_
  refine lv_iadd hx hb dL_law_789 ?_
  refine va_sld hx hb hX hbl hbA hS (nI_idx (j := 1) (by omega) hL) dL_law_790 ?_
  refine lv_aload_n hx hb dL_law_791 rfl (lv_at hl 0 rfl) ?_
  refine lv_iload_n hx hb dL_law_792 rfl (lv_at hl 3 rfl) ?_
  refine lv_iconst (v := 2) hx hb dL_law_793 (by decide) ?_
  refine lv_iadd hx hb dL_law_794 ?_
  refine va_sld hx hb hX hbl hbA hS (nI_idx (j := 2) (by omega) hL) dL_law_795 ?_
  refine lv_aload_n hx hb dL_law_796 rfl (lv_at hl 0 rfl) ?_
  refine lv_iload_n hx hb dL_law_797 rfl (lv_at hl 3 rfl) ?_
  refine lv_iconst (v := 3) hx hb dL_law_798 (by decide) ?_
  refine lv_iadd hx hb dL_law_799 ?_
  refine va_sld hx hb hX hbl hbA hS (nI_idx (j := 3) (by omega) hL) dL_law_800 ?_
  refine lv_if_eq (tgt := 808) hx hb dL_law_801 (by decide) (fun cz => ?_) (fun cz => ?_)
  · refine lv_iconst (v := 0) hx hb dL_law_808 (by decide) ?_
    have ho := op_note hR (xs ((nI k) + 1).toNatClampNeg) (xs ((nI k) + 2).toNatClampNeg) 0 (.inl rfl)
    refine lwcall (bb := 0) (As := [.int (xs ((nI k) + 1).toNatClampNeg), .int (xs ((nI k) + 2).toNatClampNeg), .int 0]) (rest := []) (P := (fun (r : Int32) (u : xS) => r = (f_X10_note S (xs ((nI k) + 1).toNatClampNeg) (xs ((nI k) + 2).toNatClampNeg) 0).1 ∧ u = (f_X10_note S (xs ((nI k) + 1).toNatClampNeg) (xs ((nI k) + 2).toNatClampNeg) 0).2)) hC hP hS (k_X10_note l X S (xs ((nI k) + 1).toNatClampNeg) (xs ((nI k) + 2).toNatClampNeg) 0) (cwV 3 hts gL_law_X10_note rfl rfl rfl hd_X10_note ⟨Nat.le_of_ble_eq_true rfl, Nat.le_of_ble_eq_true rfl⟩) xo_X10 rfl rfl rfl hl.1 (Nat.le_of_ble_eq_true rfl) dL_law_809 hcl hsl (fun r1 S1 hp_r1 H locs hP hS => ?_)
    obtain ⟨he_r1, hu_r1⟩ := hp_r1
    rw [← hu_r1, ← he_r1] at ho
    refine lv_aload_n hx hb dL_law_812 rfl (lv_at hl 2 rfl) ?_
    refine lv_aload_n hx hb dL_law_813 rfl (lv_at hl 0 rfl) ?_
    refine lv_iload_n hx hb dL_law_814 rfl (lv_at hl 3 rfl) ?_
    refine lv_iconst (v := 1) hx hb dL_law_815 (by decide) ?_
    refine lv_iadd hx hb dL_law_816 ?_
    refine va_sld hx hb hX hbl hbA hS (nI_idx (j := 1) (by omega) hL) dL_law_817 ?_
    refine lv_aload_n hx hb dL_law_818 rfl (lv_at hl 0 rfl) ?_
    refine lv_iload_n hx hb dL_law_819 rfl (lv_at hl 3 rfl) ?_
    refine lv_iconst (v := 2) hx hb dL_law_820 (by decide) ?_
    refine lv_iadd hx hb dL_law_821 ?_
    refine va_sld hx hb hX hbl hbA hS (nI_idx (j := 2) (by omega) hL) dL_law_822 ?_
    refine lv_aload_n hx hb dL_law_823 rfl (lv_at hl 0 rfl) ?_
    refine lv_iload_n hx hb dL_law_824 rfl (lv_at hl 3 rfl) ?_
    refine lv_iconst (v := 3) hx hb dL_law_825 (by decide) ?_
    refine lv_iadd hx hb dL_law_826 ?_
    refine va_sld hx hb hX hbl hbA hS (nI_idx (j := 3) (by omega) hL) dL_law_827 ?_
    refine lv_if_eq (tgt := 835) hx hb dL_law_828 (by decide) (fun _ => ?_) (fun c => absurd cz c)
    refine lv_iconst (v := 0) hx hb dL_law_835 (by decide) ?_
    refine lwcall (bb := 127) (As := [.int (xs ((nI k) + 1).toNatClampNeg), .int (xs ((nI k) + 2).toNatClampNeg), .int 0]) (rest := [.int r1]) (P := (fun (r : Int32) (u : xS) => r = (f_X11_note S1 (xs ((nI k) + 1).toNatClampNeg) (xs ((nI k) + 2).toNatClampNeg) 0).1 ∧ u = (f_X11_note S1 (xs ((nI k) + 1).toNatClampNeg) (xs ((nI k) + 2).toNatClampNeg) 0).2)) hC hP hS (k_X11_note l X S1 (xs ((nI k) + 1).toNatClampNeg) (xs ((nI k) + 2).toNatClampNeg) 0 ho.1) (cwV 3 hts gL_law_X11_note rfl rfl rfl hd_X11_note ⟨Nat.le_of_ble_eq_true rfl, Nat.le_of_ble_eq_true rfl⟩) xo_X11 rfl rfl rfl hl.1 (Nat.le_of_ble_eq_true rfl) dL_law_836 hcl hsl (fun r2 S2 hp_r2 H locs hP hS => ?_)
    obtain ⟨he_r2, hu_r2⟩ := hp_r2
    rw [← he_r2, ← hu_r2] at ho
    refine lv_icmp_eq (tgt := 1061) hx hb dL_law_839 (by decide) (fun _ => ?_) (fun c => absurd ho.2.1 c)
    exact kk _ ho.2.2 _ _ hP hS ls hl
  · refine lv_iconst (v := 1) hx hb dL_law_804 (by decide) ?_
    refine lv_goto (tgt := 809) hx hb dL_law_805 (by decide) ?_
    have ho := op_note hR (xs ((nI k) + 1).toNatClampNeg) (xs ((nI k) + 2).toNatClampNeg) 1 (.inr rfl)
    refine lwcall (bb := 0) (As := [.int (xs ((nI k) + 1).toNatClampNeg), .int (xs ((nI k) + 2).toNatClampNeg), .int 1]) (rest := []) (P := (fun (r : Int32) (u : xS) => r = (f_X10_note S (xs ((nI k) + 1).toNatClampNeg) (xs ((nI k) + 2).toNatClampNeg) 1).1 ∧ u = (f_X10_note S (xs ((nI k) + 1).toNatClampNeg) (xs ((nI k) + 2).toNatClampNeg) 1).2)) hC hP hS (k_X10_note l X S (xs ((nI k) + 1).toNatClampNeg) (xs ((nI k) + 2).toNatClampNeg) 1) (cwV 3 hts gL_law_X10_note rfl rfl rfl hd_X10_note ⟨Nat.le_of_ble_eq_true rfl, Nat.le_of_ble_eq_true rfl⟩) xo_X10 rfl rfl rfl hl.1 (Nat.le_of_ble_eq_true rfl) dL_law_809 hcl hsl (fun r1 S1 hp_r1 H locs hP hS => ?_)
    obtain ⟨he_r1, hu_r1⟩ := hp_r1
    rw [← hu_r1, ← he_r1] at ho
    refine lv_aload_n hx hb dL_law_812 rfl (lv_at hl 2 rfl) ?_
    refine lv_aload_n hx hb dL_law_813 rfl (lv_at hl 0 rfl) ?_
    refine lv_iload_n hx hb dL_law_814 rfl (lv_at hl 3 rfl) ?_
    refine lv_iconst (v := 1) hx hb dL_law_815 (by decide) ?_
    refine lv_iadd hx hb dL_law_816 ?_
    refine va_sld hx hb hX hbl hbA hS (nI_idx (j := 1) (by omega) hL) dL_law_817 ?_
    refine lv_aload_n hx hb dL_law_818 rfl (lv_at hl 0 rfl) ?_
    refine lv_iload_n hx hb dL_law_819 rfl (lv_at hl 3 rfl) ?_
    refine lv_iconst (v := 2) hx hb dL_law_820 (by decide) ?_
    refine lv_iadd hx hb dL_law_821 ?_
    refine va_sld hx hb hX hbl hbA hS (nI_idx (j := 2) (by omega) hL) dL_law_822 ?_
    refine lv_aload_n hx hb dL_law_823 rfl (lv_at hl 0 rfl) ?_
    refine lv_iload_n hx hb dL_law_824 rfl (lv_at hl 3 rfl) ?_
    refine lv_iconst (v := 3) hx hb dL_law_825 (by decide) ?_
    refine lv_iadd hx hb dL_law_826 ?_
    refine va_sld hx hb hX hbl hbA hS (nI_idx (j := 3) (by omega) hL) dL_law_827 ?_
    refine lv_if_eq (tgt := 835) hx hb dL_law_828 (by decide) (fun c => absurd c cz) (fun _ => ?_)
    refine lv_iconst (v := 1) hx hb dL_law_831 (by decide) ?_
    refine lv_goto (tgt := 836) hx hb dL_law_832 (by decide) ?_
    refine lwcall (bb := 127) (As := [.int (xs ((nI k) + 1).toNatClampNeg), .int (xs ((nI k) + 2).toNatClampNeg), .int 1]) (rest := [.int r1]) (P := (fun (r : Int32) (u : xS) => r = (f_X11_note S1 (xs ((nI k) + 1).toNatClampNeg) (xs ((nI k) + 2).toNatClampNeg) 1).1 ∧ u = (f_X11_note S1 (xs ((nI k) + 1).toNatClampNeg) (xs ((nI k) + 2).toNatClampNeg) 1).2)) hC hP hS (k_X11_note l X S1 (xs ((nI k) + 1).toNatClampNeg) (xs ((nI k) + 2).toNatClampNeg) 1 ho.1) (cwV 3 hts gL_law_X11_note rfl rfl rfl hd_X11_note ⟨Nat.le_of_ble_eq_true rfl, Nat.le_of_ble_eq_true rfl⟩) xo_X11 rfl rfl rfl hl.1 (Nat.le_of_ble_eq_true rfl) dL_law_836 hcl hsl (fun r2 S2 hp_r2 H locs hP hS => ?_)
    obtain ⟨he_r2, hu_r2⟩ := hp_r2
    rw [← he_r2, ← hu_r2] at ho
    refine lv_icmp_eq (tgt := 1061) hx hb dL_law_839 (by decide) (fun _ => ?_) (fun c => absurd ho.2.1 c)
    exact kk _ ho.2.2 _ _ hP hS ls hl
set_option maxHeartbeats 4000000 in
set_option maxRecDepth 100000 in
theorem law_case_thinks {p : Program} {l : Launch} {e : Env} {s : State} {m : MethodId} {below : List Frame} {meth : Method} {c : Code} {X : xX} {b L : Nat} {xs : Nat → Int32} {Q : State → Prop} {cells slots : Nat} (hC : lwC X p s m meth c b L xs) (hcl : cells ≤ room_1.cells) (hsl : slots ≤ room_1.slots) {k : Nat} (hk : k + 4 ≤ L) {S : xS} (hR : xR S) {H : Heap} {locs : List Loc} (hP : va_P X.1 vwCl (xW X S) H) (hS : va_S (lwA s) s.heap H locs) {ls : Array Slot} (hl : lv_has ls 4 [(0, .ref b), (1, .ref (X.2.1 0)), (2, .ref (X.2.1 127)), (3, .int (nI k))])
    (kk : ∀ (S2 : xS) (_ : xR S2) (H : Heap) (locs : List Loc), va_P X.1 vwCl (xW X S2) H → va_S (lwA s) s.heap H locs → ∀ (ls : Array Slot), lv_has ls 4 [(0, .ref b), (1, .ref (X.2.1 0)), (2, .ref (X.2.1 127)), (3, .int (nI k))] → W p l e room_1 s m #[Value.ref b] below meth c H locs cells slots Q (F0 m 1061 ls [])) :
    W p l e room_1 s m #[Value.ref b] below meth c H locs cells slots Q (F0 m 844 ls []) := by
  have hx := hC.1.1
  have hb := hC.1.2.1
  have hts := hC.1.2.2.2.2
  have hX := hC.2.2.2.2.2.1
  have hbl := hC.2.2.2.2.2.2.1
  have hL := hC.2.2.2.2.2.2.2.2.2
  have hbA : ¬ lwA s b := Nat.not_le.mpr hbl
  refine lv_aload_n hx hb dL_law_844 rfl (lv_at hl 1 rfl) ?_
  refine lv_aload_n hx hb dL_law_845 rfl (lv_at hl 0 rfl) ?_
  refine lv_iload_n hx hb dL_law_846 rfl (lv_at hl 3 rfl) ?_
  refine lv_iconst (v := 1) hx hb dL_law_847 (by decide) ?_
  refine lv_iadd hx hb dL_law_848 ?_
  refine va_sld hx hb hX hbl hbA hS (nI_idx (j := 1) (by omega) hL) dL_law_849 ?_
  have ho := op_thinks hR (xs ((nI k) + 1).toNatClampNeg)
  refine lwcall (bb := 0) (As := [.int (xs ((nI k) + 1).toNatClampNeg)]) (rest := []) (P := (fun (r : Int32) (u : xS) => r = f_X10_thinks S (xs ((nI k) + 1).toNatClampNeg) ∧ u = S)) hC hP hS (k_X10_thinks l X S (xs ((nI k) + 1).toNatClampNeg) ho.1) (cwV 1 hts gL_law_X10_thinks rfl rfl rfl hd_X10_thinks ⟨Nat.le_of_ble_eq_true rfl, Nat.le_of_ble_eq_true rfl⟩) xo_X10 rfl rfl rfl hl.1 (Nat.le_of_ble_eq_true rfl) dL_law_850 hcl hsl (fun r1 S1 hp_r1 H locs hP hS => ?_)
  obtain ⟨he_r1, hu_r1⟩ := hp_r1
  rw [← he_r1] at ho
  rw [hu_r1] at hP
  refine lv_aload_n hx hb dL_law_853 rfl (lv_at hl 2 rfl) ?_
  refine lv_aload_n hx hb dL_law_854 rfl (lv_at hl 0 rfl) ?_
  refine lv_iload_n hx hb dL_law_855 rfl (lv_at hl 3 rfl) ?_
  refine lv_iconst (v := 1) hx hb dL_law_856 (by decide) ?_
  refine lv_iadd hx hb dL_law_857 ?_
  refine va_sld hx hb hX hbl hbA hS (nI_idx (j := 1) (by omega) hL) dL_law_858 ?_
  refine lwcall (bb := 127) (As := [.int (xs ((nI k) + 1).toNatClampNeg)]) (rest := [.int r1]) (P := (fun (r : Int32) (u : xS) => r = f_X11_thinks S (xs ((nI k) + 1).toNatClampNeg) ∧ u = S)) hC hP hS (k_X11_thinks l X S (xs ((nI k) + 1).toNatClampNeg) ho.2.1) (cwV 1 hts gL_law_X11_thinks rfl rfl rfl hd_X11_thinks ⟨Nat.le_of_ble_eq_true rfl, Nat.le_of_ble_eq_true rfl⟩) xo_X11 rfl rfl rfl hl.1 (Nat.le_of_ble_eq_true rfl) dL_law_859 hcl hsl (fun r2 S2 hp_r2 H locs hP hS => ?_)
  obtain ⟨he_r2, hu_r2⟩ := hp_r2
  rw [← he_r2] at ho
  rw [hu_r2] at hP
  refine lv_icmp_eq (tgt := 1061) hx hb dL_law_862 (by decide) (fun _ => ?_) (fun c => absurd ho.2.2.1 c)
  exact kk _ ho.2.2.2 _ _ hP hS ls hl
set_option maxHeartbeats 4000000 in
set_option maxRecDepth 100000 in
theorem law_case_ask {p : Program} {l : Launch} {e : Env} {s : State} {m : MethodId} {below : List Frame} {meth : Method} {c : Code} {X : xX} {b L : Nat} {xs : Nat → Int32} {Q : State → Prop} {cells slots : Nat} (hC : lwC X p s m meth c b L xs) (hcl : cells ≤ room_1.cells) (hsl : slots ≤ room_1.slots) {k : Nat} (hk : k + 4 ≤ L) {S : xS} (hR : xR S) {H : Heap} {locs : List Loc} (hP : va_P X.1 vwCl (xW X S) H) (hS : va_S (lwA s) s.heap H locs) {ls : Array Slot} (hl : lv_has ls 4 [(0, .ref b), (1, .ref (X.2.1 0)), (2, .ref (X.2.1 127)), (3, .int (nI k))])
    (kk : ∀ (S2 : xS) (_ : xR S2) (H : Heap) (locs : List Loc), va_P X.1 vwCl (xW X S2) H → va_S (lwA s) s.heap H locs → ∀ (ls : Array Slot), lv_has ls 4 [(0, .ref b), (1, .ref (X.2.1 0)), (2, .ref (X.2.1 127)), (3, .int (nI k))] → W p l e room_1 s m #[Value.ref b] below meth c H locs cells slots Q (F0 m 1061 ls [])) :
    W p l e room_1 s m #[Value.ref b] below meth c H locs cells slots Q (F0 m 867 ls []) := by
  have hx := hC.1.1
  have hb := hC.1.2.1
  have hts := hC.1.2.2.2.2
  have hX := hC.2.2.2.2.2.1
  have hbl := hC.2.2.2.2.2.2.1
  have hL := hC.2.2.2.2.2.2.2.2.2
  have hbA : ¬ lwA s b := Nat.not_le.mpr hbl
  refine lv_aload_n hx hb dL_law_867 rfl (lv_at hl 1 rfl) ?_
  refine lv_aload_n hx hb dL_law_868 rfl (lv_at hl 0 rfl) ?_
  refine lv_iload_n hx hb dL_law_869 rfl (lv_at hl 3 rfl) ?_
  refine lv_iconst (v := 1) hx hb dL_law_870 (by decide) ?_
  refine lv_iadd hx hb dL_law_871 ?_
  refine va_sld hx hb hX hbl hbA hS (nI_idx (j := 1) (by omega) hL) dL_law_872 ?_
  have ho := op_ask hR (xs ((nI k) + 1).toNatClampNeg)
  refine lwcall (bb := 0) (As := [.int (xs ((nI k) + 1).toNatClampNeg)]) (rest := []) (P := (fun (r : Int32) (u : xS) => r = f_X10_ask S (xs ((nI k) + 1).toNatClampNeg) ∧ u = S)) hC hP hS (k_X10_ask l X S (xs ((nI k) + 1).toNatClampNeg) ho.1) (cwV 1 hts gL_law_X10_ask rfl rfl rfl hd_X10_ask ⟨Nat.le_of_ble_eq_true rfl, Nat.le_of_ble_eq_true rfl⟩) xo_X10 rfl rfl rfl hl.1 (Nat.le_of_ble_eq_true rfl) dL_law_873 hcl hsl (fun r1 S1 hp_r1 H locs hP hS => ?_)
  obtain ⟨he_r1, hu_r1⟩ := hp_r1
  rw [← he_r1] at ho
  rw [hu_r1] at hP
  refine lv_aload_n hx hb dL_law_876 rfl (lv_at hl 2 rfl) ?_
  refine lv_aload_n hx hb dL_law_877 rfl (lv_at hl 0 rfl) ?_
  refine lv_iload_n hx hb dL_law_878 rfl (lv_at hl 3 rfl) ?_
  refine lv_iconst (v := 1) hx hb dL_law_879 (by decide) ?_
  refine lv_iadd hx hb dL_law_880 ?_
  refine va_sld hx hb hX hbl hbA hS (nI_idx (j := 1) (by omega) hL) dL_law_881 ?_
  refine lwcall (bb := 127) (As := [.int (xs ((nI k) + 1).toNatClampNeg)]) (rest := [.int r1]) (P := (fun (r : Int32) (u : xS) => r = f_X11_ask S (xs ((nI k) + 1).toNatClampNeg) ∧ u = S)) hC hP hS (k_X11_ask l X S (xs ((nI k) + 1).toNatClampNeg) ho.2.1) (cwV 1 hts gL_law_X11_ask rfl rfl rfl hd_X11_ask ⟨Nat.le_of_ble_eq_true rfl, Nat.le_of_ble_eq_true rfl⟩) xo_X11 rfl rfl rfl hl.1 (Nat.le_of_ble_eq_true rfl) dL_law_882 hcl hsl (fun r2 S2 hp_r2 H locs hP hS => ?_)
  obtain ⟨he_r2, hu_r2⟩ := hp_r2
  rw [← he_r2] at ho
  rw [hu_r2] at hP
  refine lv_icmp_eq (tgt := 1061) hx hb dL_law_885 (by decide) (fun _ => ?_) (fun c => absurd ho.2.2.1 c)
  exact kk _ ho.2.2.2 _ _ hP hS ls hl
set_option maxHeartbeats 4000000 in
set_option maxRecDepth 100000 in
theorem law_case_listens {p : Program} {l : Launch} {e : Env} {s : State} {m : MethodId} {below : List Frame} {meth : Method} {c : Code} {X : xX} {b L : Nat} {xs : Nat → Int32} {Q : State → Prop} {cells slots : Nat} (hC : lwC X p s m meth c b L xs) (hcl : cells ≤ room_1.cells) (hsl : slots ≤ room_1.slots) {k : Nat} (hk : k + 4 ≤ L) {S : xS} (hR : xR S) {H : Heap} {locs : List Loc} (hP : va_P X.1 vwCl (xW X S) H) (hS : va_S (lwA s) s.heap H locs) {ls : Array Slot} (hl : lv_has ls 4 [(0, .ref b), (1, .ref (X.2.1 0)), (2, .ref (X.2.1 127)), (3, .int (nI k))])
    (kk : ∀ (S2 : xS) (_ : xR S2) (H : Heap) (locs : List Loc), va_P X.1 vwCl (xW X S2) H → va_S (lwA s) s.heap H locs → ∀ (ls : Array Slot), lv_has ls 4 [(0, .ref b), (1, .ref (X.2.1 0)), (2, .ref (X.2.1 127)), (3, .int (nI k))] → W p l e room_1 s m #[Value.ref b] below meth c H locs cells slots Q (F0 m 1061 ls [])) :
    W p l e room_1 s m #[Value.ref b] below meth c H locs cells slots Q (F0 m 890 ls []) := by
  have hx := hC.1.1
  have hb := hC.1.2.1
  have hts := hC.1.2.2.2.2
  have hX := hC.2.2.2.2.2.1
  have hbl := hC.2.2.2.2.2.2.1
  have hL := hC.2.2.2.2.2.2.2.2.2
  have hbA : ¬ lwA s b := Nat.not_le.mpr hbl
  refine lv_aload_n hx hb dL_law_890 rfl (lv_at hl 1 rfl) ?_
  refine lv_aload_n hx hb dL_law_891 rfl (lv_at hl 0 rfl) ?_
  refine lv_iload_n hx hb dL_law_892 rfl (lv_at hl 3 rfl) ?_
  refine lv_iconst (v := 1) hx hb dL_law_893 (by decide) ?_
  refine lv_iadd hx hb dL_law_894 ?_
  refine va_sld hx hb hX hbl hbA hS (nI_idx (j := 1) (by omega) hL) dL_law_895 ?_
  refine lv_aload_n hx hb dL_law_896 rfl (lv_at hl 0 rfl) ?_
  refine lv_iload_n hx hb dL_law_897 rfl (lv_at hl 3 rfl) ?_
  refine lv_iconst (v := 2) hx hb dL_law_898 (by decide) ?_
  refine lv_iadd hx hb dL_law_899 ?_
  refine va_sld hx hb hX hbl hbA hS (nI_idx (j := 2) (by omega) hL) dL_law_900 ?_
  refine lv_aload_n hx hb dL_law_901 rfl (lv_at hl 0 rfl) ?_
  refine lv_iload_n hx hb dL_law_902 rfl (lv_at hl 3 rfl) ?_
  refine lv_iconst (v := 3) hx hb dL_law_903 (by decide) ?_
  refine lv_iadd hx hb dL_law_904 ?_
  refine va_sld hx hb hX hbl hbA hS (nI_idx (j := 3) (by omega) hL) dL_law_905 ?_
  have ho := op_listens hR (xs ((nI k) + 1).toNatClampNeg) (xs ((nI k) + 2).toNatClampNeg) (xs ((nI k) + 3).toNatClampNeg)
  refine lwcall (bb := 0) (As := [.int (xs ((nI k) + 1).toNatClampNeg), .int (xs ((nI k) + 2).toNatClampNeg), .int (xs ((nI k) + 3).toNatClampNeg)]) (rest := []) (P := (fun (r : Int32) (u : xS) => r = f_X10_listens S (xs ((nI k) + 1).toNatClampNeg) (xs ((nI k) + 2).toNatClampNeg) (xs ((nI k) + 3).toNatClampNeg) ∧ u = S)) hC hP hS (k_X10_listens l X S (xs ((nI k) + 1).toNatClampNeg) (xs ((nI k) + 2).toNatClampNeg) (xs ((nI k) + 3).toNatClampNeg) ho.1) (cwV 3 hts gL_law_X10_listens rfl rfl rfl hd_X10_listens ⟨Nat.le_of_ble_eq_true rfl, Nat.le_of_ble_eq_true rfl⟩) xo_X10 rfl rfl rfl hl.1 (Nat.le_of_ble_eq_true rfl) dL_law_906 hcl hsl (fun r1 S1 hp_r1 H locs hP hS => ?_)
  obtain ⟨he_r1, hu_r1⟩ := hp_r1
  rw [← he_r1] at ho
  rw [hu_r1] at hP
  refine lv_aload_n hx hb dL_law_909 rfl (lv_at hl 2 rfl) ?_
  refine lv_aload_n hx hb dL_law_910 rfl (lv_at hl 0 rfl) ?_
  refine lv_iload_n hx hb dL_law_911 rfl (lv_at hl 3 rfl) ?_
  refine lv_iconst (v := 1) hx hb dL_law_912 (by decide) ?_
  refine lv_iadd hx hb dL_law_913 ?_
  refine va_sld hx hb hX hbl hbA hS (nI_idx (j := 1) (by omega) hL) dL_law_914 ?_
  refine lv_aload_n hx hb dL_law_915 rfl (lv_at hl 0 rfl) ?_
  refine lv_iload_n hx hb dL_law_916 rfl (lv_at hl 3 rfl) ?_
  refine lv_iconst (v := 2) hx hb dL_law_917 (by decide) ?_
  refine lv_iadd hx hb dL_law_918 ?_
  refine va_sld hx hb hX hbl hbA hS (nI_idx (j := 2) (by omega) hL) dL_law_919 ?_
  refine lv_aload_n hx hb dL_law_920 rfl (lv_at hl 0 rfl) ?_
  refine lv_iload_n hx hb dL_law_921 rfl (lv_at hl 3 rfl) ?_
  refine lv_iconst (v := 3) hx hb dL_law_922 (by decide) ?_
  refine lv_iadd hx hb dL_law_923 ?_
  refine va_sld hx hb hX hbl hbA hS (nI_idx (j := 3) (by omega) hL) dL_law_924 ?_
  refine lwcall (bb := 127) (As := [.int (xs ((nI k) + 1).toNatClampNeg), .int (xs ((nI k) + 2).toNatClampNeg), .int (xs ((nI k) + 3).toNatClampNeg)]) (rest := [.int r1]) (P := (fun (r : Int32) (u : xS) => r = (f_X11_listens S (xs ((nI k) + 1).toNatClampNeg) (xs ((nI k) + 2).toNatClampNeg) (xs ((nI k) + 3).toNatClampNeg)).1 ∧ u = (f_X11_listens S (xs ((nI k) + 1).toNatClampNeg) (xs ((nI k) + 2).toNatClampNeg) (xs ((nI k) + 3).toNatClampNeg)).2)) hC hP hS (k_X11_listens l X S (xs ((nI k) + 1).toNatClampNeg) (xs ((nI k) + 2).toNatClampNeg) (xs ((nI k) + 3).toNatClampNeg) ho.2.1) (cwV 3 hts gL_law_X11_listens rfl rfl rfl hd_X11_listens ⟨Nat.le_of_ble_eq_true rfl, Nat.le_of_ble_eq_true rfl⟩) xo_X11 rfl rfl rfl hl.1 (Nat.le_of_ble_eq_true rfl) dL_law_925 hcl hsl (fun r2 S2 hp_r2 H locs hP hS => ?_)
  obtain ⟨he_r2, hu_r2⟩ := hp_r2
  rw [← he_r2, ← hu_r2] at ho
  refine lv_icmp_eq (tgt := 1061) hx hb dL_law_928 (by decide) (fun _ => ?_) (fun c => absurd ho.2.2.1 c)
  exact kk _ ho.2.2.2 _ _ hP hS ls hl
set_option maxHeartbeats 4000000 in
set_option maxRecDepth 100000 in
theorem law_case_write {p : Program} {l : Launch} {e : Env} {s : State} {m : MethodId} {below : List Frame} {meth : Method} {c : Code} {X : xX} {b L : Nat} {xs : Nat → Int32} {Q : State → Prop} {cells slots : Nat} (hC : lwC X p s m meth c b L xs) (hcl : cells ≤ room_1.cells) (hsl : slots ≤ room_1.slots) {k : Nat} (hk : k + 4 ≤ L) {S : xS} (hR : xR S) {H : Heap} {locs : List Loc} (hP : va_P X.1 vwCl (xW X S) H) (hS : va_S (lwA s) s.heap H locs) {ls : Array Slot} (hl : lv_has ls 4 [(0, .ref b), (1, .ref (X.2.1 0)), (2, .ref (X.2.1 127)), (3, .int (nI k))])
    (kk : ∀ (S2 : xS) (_ : xR S2) (H : Heap) (locs : List Loc), va_P X.1 vwCl (xW X S2) H → va_S (lwA s) s.heap H locs → ∀ (ls : Array Slot), lv_has ls 4 [(0, .ref b), (1, .ref (X.2.1 0)), (2, .ref (X.2.1 127)), (3, .int (nI k))] → W p l e room_1 s m #[Value.ref b] below meth c H locs cells slots Q (F0 m 1061 ls [])) :
    W p l e room_1 s m #[Value.ref b] below meth c H locs cells slots Q (F0 m 933 ls []) := by
  have hx := hC.1.1
  have hb := hC.1.2.1
  have hts := hC.1.2.2.2.2
  have hX := hC.2.2.2.2.2.1
  have hbl := hC.2.2.2.2.2.2.1
  have hL := hC.2.2.2.2.2.2.2.2.2
  have hbA : ¬ lwA s b := Nat.not_le.mpr hbl
  refine lv_aload_n hx hb dL_law_933 rfl (lv_at hl 1 rfl) ?_
  refine lv_aload_n hx hb dL_law_934 rfl (lv_at hl 0 rfl) ?_
  refine lv_iload_n hx hb dL_law_935 rfl (lv_at hl 3 rfl) ?_
  refine lv_iconst (v := 1) hx hb dL_law_936 (by decide) ?_
  refine lv_iadd hx hb dL_law_937 ?_
  refine va_sld hx hb hX hbl hbA hS (nI_idx (j := 1) (by omega) hL) dL_law_938 ?_
  refine lv_aload_n hx hb dL_law_939 rfl (lv_at hl 0 rfl) ?_
  refine lv_iload_n hx hb dL_law_940 rfl (lv_at hl 3 rfl) ?_
  refine lv_iconst (v := 2) hx hb dL_law_941 (by decide) ?_
  refine lv_iadd hx hb dL_law_942 ?_
  refine va_sld hx hb hX hbl hbA hS (nI_idx (j := 2) (by omega) hL) dL_law_943 ?_
  have ho := op_write hR (xs ((nI k) + 1).toNatClampNeg) (xs ((nI k) + 2).toNatClampNeg)
  refine lwcall (bb := 0) (As := [.int (xs ((nI k) + 1).toNatClampNeg), .int (xs ((nI k) + 2).toNatClampNeg)]) (rest := []) (P := (fun (r : Int32) (u : xS) => r = (f_X10_write S (xs ((nI k) + 1).toNatClampNeg) (xs ((nI k) + 2).toNatClampNeg)).1 ∧ u = (f_X10_write S (xs ((nI k) + 1).toNatClampNeg) (xs ((nI k) + 2).toNatClampNeg)).2)) hC hP hS (k_X10_write l X S (xs ((nI k) + 1).toNatClampNeg) (xs ((nI k) + 2).toNatClampNeg)) (cwV 2 hts gL_law_X10_write rfl rfl rfl hd_X10_write ⟨Nat.le_of_ble_eq_true rfl, Nat.le_of_ble_eq_true rfl⟩) xo_X10 rfl rfl rfl hl.1 (Nat.le_of_ble_eq_true rfl) dL_law_944 hcl hsl (fun r1 S1 hp_r1 H locs hP hS => ?_)
  obtain ⟨he_r1, hu_r1⟩ := hp_r1
  rw [← hu_r1, ← he_r1] at ho
  refine lv_aload_n hx hb dL_law_947 rfl (lv_at hl 2 rfl) ?_
  refine lv_aload_n hx hb dL_law_948 rfl (lv_at hl 0 rfl) ?_
  refine lv_iload_n hx hb dL_law_949 rfl (lv_at hl 3 rfl) ?_
  refine lv_iconst (v := 1) hx hb dL_law_950 (by decide) ?_
  refine lv_iadd hx hb dL_law_951 ?_
  refine va_sld hx hb hX hbl hbA hS (nI_idx (j := 1) (by omega) hL) dL_law_952 ?_
  refine lv_aload_n hx hb dL_law_953 rfl (lv_at hl 0 rfl) ?_
  refine lv_iload_n hx hb dL_law_954 rfl (lv_at hl 3 rfl) ?_
  refine lv_iconst (v := 2) hx hb dL_law_955 (by decide) ?_
  refine lv_iadd hx hb dL_law_956 ?_
  refine va_sld hx hb hX hbl hbA hS (nI_idx (j := 2) (by omega) hL) dL_law_957 ?_
  refine lwcall (bb := 127) (As := [.int (xs ((nI k) + 1).toNatClampNeg), .int (xs ((nI k) + 2).toNatClampNeg)]) (rest := [.int r1]) (P := (fun (r : Int32) (u : xS) => r = (f_X11_write S1 (xs ((nI k) + 1).toNatClampNeg) (xs ((nI k) + 2).toNatClampNeg)).1 ∧ u = (f_X11_write S1 (xs ((nI k) + 1).toNatClampNeg) (xs ((nI k) + 2).toNatClampNeg)).2)) hC hP hS (k_X11_write l X S1 (xs ((nI k) + 1).toNatClampNeg) (xs ((nI k) + 2).toNatClampNeg) ho.1) (cwV 2 hts gL_law_X11_write rfl rfl rfl hd_X11_write ⟨Nat.le_of_ble_eq_true rfl, Nat.le_of_ble_eq_true rfl⟩) xo_X11 rfl rfl rfl hl.1 (Nat.le_of_ble_eq_true rfl) dL_law_958 hcl hsl (fun r2 S2 hp_r2 H locs hP hS => ?_)
  obtain ⟨he_r2, hu_r2⟩ := hp_r2
  rw [← he_r2, ← hu_r2] at ho
  refine lv_icmp_eq (tgt := 1061) hx hb dL_law_961 (by decide) (fun _ => ?_) (fun c => absurd ho.2.1 c)
  exact kk _ ho.2.2 _ _ hP hS ls hl
set_option maxHeartbeats 4000000 in
set_option maxRecDepth 100000 in
theorem law_case_tear {p : Program} {l : Launch} {e : Env} {s : State} {m : MethodId} {below : List Frame} {meth : Method} {c : Code} {X : xX} {b L : Nat} {xs : Nat → Int32} {Q : State → Prop} {cells slots : Nat} (hC : lwC X p s m meth c b L xs) (hcl : cells ≤ room_1.cells) (hsl : slots ≤ room_1.slots) {k : Nat} (hk : k + 4 ≤ L) {S : xS} (hR : xR S) {H : Heap} {locs : List Loc} (hP : va_P X.1 vwCl (xW X S) H) (hS : va_S (lwA s) s.heap H locs) {ls : Array Slot} (hl : lv_has ls 4 [(0, .ref b), (1, .ref (X.2.1 0)), (2, .ref (X.2.1 127)), (3, .int (nI k))])
    (kk : ∀ (S2 : xS) (_ : xR S2) (H : Heap) (locs : List Loc), va_P X.1 vwCl (xW X S2) H → va_S (lwA s) s.heap H locs → ∀ (ls : Array Slot), lv_has ls 4 [(0, .ref b), (1, .ref (X.2.1 0)), (2, .ref (X.2.1 127)), (3, .int (nI k))] → W p l e room_1 s m #[Value.ref b] below meth c H locs cells slots Q (F0 m 1061 ls [])) :
    W p l e room_1 s m #[Value.ref b] below meth c H locs cells slots Q (F0 m 966 ls []) := by
  have hx := hC.1.1
  have hb := hC.1.2.1
  have hts := hC.1.2.2.2.2
  have hX := hC.2.2.2.2.2.1
  have hbl := hC.2.2.2.2.2.2.1
  have hL := hC.2.2.2.2.2.2.2.2.2
  have hbA : ¬ lwA s b := Nat.not_le.mpr hbl
  refine lv_aload_n hx hb dL_law_966 rfl (lv_at hl 1 rfl) ?_
  have ho := op_tear hR
  refine lwcall (bb := 0) (As := []) (rest := []) (P := (fun (r : Int32) (u : xS) => r = (f_X10_tear S).1 ∧ u = (f_X10_tear S).2)) hC hP hS (k_X10_tear l X S) (cwV 0 hts gL_law_X10_tear rfl rfl rfl hd_X10_tear ⟨Nat.le_of_ble_eq_true rfl, Nat.le_of_ble_eq_true rfl⟩) xo_X10 rfl rfl rfl hl.1 (Nat.le_of_ble_eq_true rfl) dL_law_967 hcl hsl (fun r1 S1 hp_r1 H locs hP hS => ?_)
  obtain ⟨he_r1, hu_r1⟩ := hp_r1
  rw [← hu_r1, ← he_r1] at ho
  refine lv_aload_n hx hb dL_law_970 rfl (lv_at hl 2 rfl) ?_
  refine lwcall (bb := 127) (As := []) (rest := [.int r1]) (P := (fun (r : Int32) (u : xS) => r = (f_X11_tear S1).1 ∧ u = (f_X11_tear S1).2)) hC hP hS (k_X11_tear l X S1) (cwV 0 hts gL_law_X11_tear rfl rfl rfl hd_X11_tear ⟨Nat.le_of_ble_eq_true rfl, Nat.le_of_ble_eq_true rfl⟩) xo_X11 rfl rfl rfl hl.1 (Nat.le_of_ble_eq_true rfl) dL_law_971 hcl hsl (fun r2 S2 hp_r2 H locs hP hS => ?_)
  obtain ⟨he_r2, hu_r2⟩ := hp_r2
  rw [← he_r2, ← hu_r2] at ho
  refine lv_icmp_eq (tgt := 1061) hx hb dL_law_974 (by decide) (fun _ => ?_) (fun c => absurd ho.1 c)
  exact kk _ ho.2 _ _ hP hS ls hl
set_option maxHeartbeats 4000000 in
set_option maxRecDepth 100000 in
theorem law_case_judge {p : Program} {l : Launch} {e : Env} {s : State} {m : MethodId} {below : List Frame} {meth : Method} {c : Code} {X : xX} {b L : Nat} {xs : Nat → Int32} {Q : State → Prop} {cells slots : Nat} (hC : lwC X p s m meth c b L xs) (hcl : cells ≤ room_1.cells) (hsl : slots ≤ room_1.slots) {k : Nat} (hk : k + 4 ≤ L) {S : xS} (hR : xR S) {H : Heap} {locs : List Loc} (hP : va_P X.1 vwCl (xW X S) H) (hS : va_S (lwA s) s.heap H locs) {ls : Array Slot} (hl : lv_has ls 4 [(0, .ref b), (1, .ref (X.2.1 0)), (2, .ref (X.2.1 127)), (3, .int (nI k))])
    (kk : ∀ (S2 : xS) (_ : xR S2) (H : Heap) (locs : List Loc), va_P X.1 vwCl (xW X S2) H → va_S (lwA s) s.heap H locs → ∀ (ls : Array Slot), lv_has ls 4 [(0, .ref b), (1, .ref (X.2.1 0)), (2, .ref (X.2.1 127)), (3, .int (nI k))] → W p l e room_1 s m #[Value.ref b] below meth c H locs cells slots Q (F0 m 1061 ls [])) :
    W p l e room_1 s m #[Value.ref b] below meth c H locs cells slots Q (F0 m 979 ls []) := by
  have hx := hC.1.1
  have hb := hC.1.2.1
  have hts := hC.1.2.2.2.2
  have hX := hC.2.2.2.2.2.1
  have hbl := hC.2.2.2.2.2.2.1
  have hL := hC.2.2.2.2.2.2.2.2.2
  have hbA : ¬ lwA s b := Nat.not_le.mpr hbl
  refine lv_aload_n hx hb dL_law_979 rfl (lv_at hl 1 rfl) ?_
  have ho := op_judge hR
  refine lwcall (bb := 0) (As := []) (rest := []) (P := (fun (r : Int32) (u : xS) => r = f_X10_judge S ∧ u = S)) hC hP hS (k_X10_judge l X S ho.1) (cwV 0 hts gL_law_X10_judge rfl rfl rfl hd_X10_judge ⟨Nat.le_of_ble_eq_true rfl, Nat.le_of_ble_eq_true rfl⟩) xo_X10 rfl rfl rfl hl.1 (Nat.le_of_ble_eq_true rfl) dL_law_980 hcl hsl (fun r1 S1 hp_r1 H locs hP hS => ?_)
  obtain ⟨he_r1, hu_r1⟩ := hp_r1
  rw [← he_r1] at ho
  rw [hu_r1] at hP
  refine lv_aload_n hx hb dL_law_983 rfl (lv_at hl 2 rfl) ?_
  refine lwcall (bb := 127) (As := []) (rest := [.int r1]) (P := (fun (r : Int32) (u : xS) => r = f_X11_judge S ∧ u = S)) hC hP hS (k_X11_judge l X S ho.2.1) (cwV 0 hts gL_law_X11_judge rfl rfl rfl hd_X11_judge ⟨Nat.le_of_ble_eq_true rfl, Nat.le_of_ble_eq_true rfl⟩) xo_X11 rfl rfl rfl hl.1 (Nat.le_of_ble_eq_true rfl) dL_law_984 hcl hsl (fun r2 S2 hp_r2 H locs hP hS => ?_)
  obtain ⟨he_r2, hu_r2⟩ := hp_r2
  rw [← he_r2] at ho
  rw [hu_r2] at hP
  refine lv_icmp_eq (tgt := 1061) hx hb dL_law_987 (by decide) (fun _ => ?_) (fun c => absurd ho.2.2.1 c)
  exact kk _ ho.2.2.2 _ _ hP hS ls hl
set_option maxHeartbeats 4000000 in
set_option maxRecDepth 100000 in
theorem law_case_seed {p : Program} {l : Launch} {e : Env} {s : State} {m : MethodId} {below : List Frame} {meth : Method} {c : Code} {X : xX} {b L : Nat} {xs : Nat → Int32} {Q : State → Prop} {cells slots : Nat} (hC : lwC X p s m meth c b L xs) (hcl : cells ≤ room_1.cells) (hsl : slots ≤ room_1.slots) {k : Nat} (hk : k + 4 ≤ L) {S : xS} (hR : xR S) {H : Heap} {locs : List Loc} (hP : va_P X.1 vwCl (xW X S) H) (hS : va_S (lwA s) s.heap H locs) {ls : Array Slot} (hl : lv_has ls 4 [(0, .ref b), (1, .ref (X.2.1 0)), (2, .ref (X.2.1 127)), (3, .int (nI k))])
    (kk : ∀ (S2 : xS) (_ : xR S2) (H : Heap) (locs : List Loc), va_P X.1 vwCl (xW X S2) H → va_S (lwA s) s.heap H locs → ∀ (ls : Array Slot), lv_has ls 4 [(0, .ref b), (1, .ref (X.2.1 0)), (2, .ref (X.2.1 127)), (3, .int (nI k))] → W p l e room_1 s m #[Value.ref b] below meth c H locs cells slots Q (F0 m 1061 ls [])) :
    W p l e room_1 s m #[Value.ref b] below meth c H locs cells slots Q (F0 m 992 ls []) := by
  have hx := hC.1.1
  have hb := hC.1.2.1
  have hts := hC.1.2.2.2.2
  have hX := hC.2.2.2.2.2.1
  have hbl := hC.2.2.2.2.2.2.1
  have hL := hC.2.2.2.2.2.2.2.2.2
  have hbA : ¬ lwA s b := Nat.not_le.mpr hbl
  refine lv_aload_n hx hb dL_law_992 rfl (lv_at hl 1 rfl) ?_
  refine lv_aload_n hx hb dL_law_993 rfl (lv_at hl 0 rfl) ?_
  refine lv_iload_n hx hb dL_law_994 rfl (lv_at hl 3 rfl) ?_
  refine lv_iconst (v := 1) hx hb dL_law_995 (by decide) ?_
  refine lv_iadd hx hb dL_law_996 ?_
  refine va_sld hx hb hX hbl hbA hS (nI_idx (j := 1) (by omega) hL) dL_law_997 ?_
  have ho := op_seed hR (xs ((nI k) + 1).toNatClampNeg)
  refine lwcall (bb := 0) (As := [.int (xs ((nI k) + 1).toNatClampNeg)]) (rest := []) (P := (fun (r : Int32) (u : xS) => r = (f_X10_seed S (xs ((nI k) + 1).toNatClampNeg)).1 ∧ u = (f_X10_seed S (xs ((nI k) + 1).toNatClampNeg)).2)) hC hP hS (k_X10_seed l X S (xs ((nI k) + 1).toNatClampNeg)) (cwV 1 hts gL_law_X10_seed rfl rfl rfl hd_X10_seed ⟨Nat.le_of_ble_eq_true rfl, Nat.le_of_ble_eq_true rfl⟩) xo_X10 rfl rfl rfl hl.1 (Nat.le_of_ble_eq_true rfl) dL_law_998 hcl hsl (fun r1 S1 hp_r1 H locs hP hS => ?_)
  obtain ⟨he_r1, hu_r1⟩ := hp_r1
  rw [← hu_r1, ← he_r1] at ho
  refine lv_aload_n hx hb dL_law_1001 rfl (lv_at hl 2 rfl) ?_
  refine lv_aload_n hx hb dL_law_1002 rfl (lv_at hl 0 rfl) ?_
  refine lv_iload_n hx hb dL_law_1003 rfl (lv_at hl 3 rfl) ?_
  refine lv_iconst (v := 1) hx hb dL_law_1004 (by decide) ?_
  refine lv_iadd hx hb dL_law_1005 ?_
  refine va_sld hx hb hX hbl hbA hS (nI_idx (j := 1) (by omega) hL) dL_law_1006 ?_
  refine lwcall (bb := 127) (As := [.int (xs ((nI k) + 1).toNatClampNeg)]) (rest := [.int r1]) (P := (fun (r : Int32) (u : xS) => r = (f_X11_seed S1 (xs ((nI k) + 1).toNatClampNeg)).1 ∧ u = (f_X11_seed S1 (xs ((nI k) + 1).toNatClampNeg)).2)) hC hP hS (k_X11_seed l X S1 (xs ((nI k) + 1).toNatClampNeg)) (cwV 1 hts gL_law_X11_seed rfl rfl rfl hd_X11_seed ⟨Nat.le_of_ble_eq_true rfl, Nat.le_of_ble_eq_true rfl⟩) xo_X11 rfl rfl rfl hl.1 (Nat.le_of_ble_eq_true rfl) dL_law_1007 hcl hsl (fun r2 S2 hp_r2 H locs hP hS => ?_)
  obtain ⟨he_r2, hu_r2⟩ := hp_r2
  rw [← he_r2, ← hu_r2] at ho
  refine lv_icmp_eq (tgt := 1061) hx hb dL_law_1010 (by decide) (fun _ => ?_) (fun c => absurd ho.1 c)
  exact kk _ ho.2 _ _ hP hS ls hl
set_option maxHeartbeats 4000000 in
set_option maxRecDepth 100000 in
theorem law_case_keep {p : Program} {l : Launch} {e : Env} {s : State} {m : MethodId} {below : List Frame} {meth : Method} {c : Code} {X : xX} {b L : Nat} {xs : Nat → Int32} {Q : State → Prop} {cells slots : Nat} (hC : lwC X p s m meth c b L xs) (hcl : cells ≤ room_1.cells) (hsl : slots ≤ room_1.slots) {k : Nat} (hk : k + 4 ≤ L) {S : xS} (hR : xR S) {H : Heap} {locs : List Loc} (hP : va_P X.1 vwCl (xW X S) H) (hS : va_S (lwA s) s.heap H locs) {ls : Array Slot} (hl : lv_has ls 4 [(0, .ref b), (1, .ref (X.2.1 0)), (2, .ref (X.2.1 127)), (3, .int (nI k))])
    (kk : ∀ (S2 : xS) (_ : xR S2) (H : Heap) (locs : List Loc), va_P X.1 vwCl (xW X S2) H → va_S (lwA s) s.heap H locs → ∀ (ls : Array Slot), lv_has ls 4 [(0, .ref b), (1, .ref (X.2.1 0)), (2, .ref (X.2.1 127)), (3, .int (nI k))] → W p l e room_1 s m #[Value.ref b] below meth c H locs cells slots Q (F0 m 1061 ls [])) :
    W p l e room_1 s m #[Value.ref b] below meth c H locs cells slots Q (F0 m 1015 ls []) := by
  have hx := hC.1.1
  have hb := hC.1.2.1
  have hts := hC.1.2.2.2.2
  have hX := hC.2.2.2.2.2.1
  have hbl := hC.2.2.2.2.2.2.1
  have hL := hC.2.2.2.2.2.2.2.2.2
  have hbA : ¬ lwA s b := Nat.not_le.mpr hbl
  refine lv_aload_n hx hb dL_law_1015 rfl (lv_at hl 1 rfl) ?_
  refine lv_aload_n hx hb dL_law_1016 rfl (lv_at hl 0 rfl) ?_
  refine lv_iload_n hx hb dL_law_1017 rfl (lv_at hl 3 rfl) ?_
  refine lv_iconst (v := 1) hx hb dL_law_1018 (by decide) ?_
  refine lv_iadd hx hb dL_law_1019 ?_
  refine va_sld hx hb hX hbl hbA hS (nI_idx (j := 1) (by omega) hL) dL_law_1020 ?_
  have ho := op_keep hR (xs ((nI k) + 1).toNatClampNeg)
  refine lwcall (bb := 0) (As := [.int (xs ((nI k) + 1).toNatClampNeg)]) (rest := []) (P := (fun (r : Int32) (u : xS) => r = (f_X10_keep S (xs ((nI k) + 1).toNatClampNeg)).1 ∧ u = (f_X10_keep S (xs ((nI k) + 1).toNatClampNeg)).2)) hC hP hS (k_X10_keep l X S (xs ((nI k) + 1).toNatClampNeg) ho.1) (cwV 1 hts gL_law_X10_keep rfl rfl rfl hd_X10_keep ⟨Nat.le_of_ble_eq_true rfl, Nat.le_of_ble_eq_true rfl⟩) xo_X10 rfl rfl rfl hl.1 (Nat.le_of_ble_eq_true rfl) dL_law_1021 hcl hsl (fun r1 S1 hp_r1 H locs hP hS => ?_)
  obtain ⟨he_r1, hu_r1⟩ := hp_r1
  rw [← hu_r1, ← he_r1] at ho
  refine lv_aload_n hx hb dL_law_1024 rfl (lv_at hl 2 rfl) ?_
  refine lv_aload_n hx hb dL_law_1025 rfl (lv_at hl 0 rfl) ?_
  refine lv_iload_n hx hb dL_law_1026 rfl (lv_at hl 3 rfl) ?_
  refine lv_iconst (v := 1) hx hb dL_law_1027 (by decide) ?_
  refine lv_iadd hx hb dL_law_1028 ?_
  refine va_sld hx hb hX hbl hbA hS (nI_idx (j := 1) (by omega) hL) dL_law_1029 ?_
  refine lwcall (bb := 127) (As := [.int (xs ((nI k) + 1).toNatClampNeg)]) (rest := [.int r1]) (P := (fun (r : Int32) (u : xS) => r = (f_X11_keep S1 (xs ((nI k) + 1).toNatClampNeg)).1 ∧ u = (f_X11_keep S1 (xs ((nI k) + 1).toNatClampNeg)).2)) hC hP hS (k_X11_keep l X S1 (xs ((nI k) + 1).toNatClampNeg) ho.2.1) (cwV 1 hts gL_law_X11_keep rfl rfl rfl hd_X11_keep ⟨Nat.le_of_ble_eq_true rfl, Nat.le_of_ble_eq_true rfl⟩) xo_X11 rfl rfl rfl hl.1 (Nat.le_of_ble_eq_true rfl) dL_law_1030 hcl hsl (fun r2 S2 hp_r2 H locs hP hS => ?_)
  obtain ⟨he_r2, hu_r2⟩ := hp_r2
  rw [← he_r2, ← hu_r2] at ho
  refine lv_icmp_eq (tgt := 1061) hx hb dL_law_1033 (by decide) (fun _ => ?_) (fun c => absurd ho.2.2.1 c)
  exact kk _ ho.2.2.2 _ _ hP hS ls hl
set_option maxHeartbeats 4000000 in
set_option maxRecDepth 100000 in
theorem law_case_goBack {p : Program} {l : Launch} {e : Env} {s : State} {m : MethodId} {below : List Frame} {meth : Method} {c : Code} {X : xX} {b L : Nat} {xs : Nat → Int32} {Q : State → Prop} {cells slots : Nat} (hC : lwC X p s m meth c b L xs) (hcl : cells ≤ room_1.cells) (hsl : slots ≤ room_1.slots) {k : Nat} (hk : k + 4 ≤ L) {S : xS} (hR : xR S) {H : Heap} {locs : List Loc} (hP : va_P X.1 vwCl (xW X S) H) (hS : va_S (lwA s) s.heap H locs) {ls : Array Slot} (hl : lv_has ls 4 [(0, .ref b), (1, .ref (X.2.1 0)), (2, .ref (X.2.1 127)), (3, .int (nI k))])
    (kk : ∀ (S2 : xS) (_ : xR S2) (H : Heap) (locs : List Loc), va_P X.1 vwCl (xW X S2) H → va_S (lwA s) s.heap H locs → ∀ (ls : Array Slot), lv_has ls 4 [(0, .ref b), (1, .ref (X.2.1 0)), (2, .ref (X.2.1 127)), (3, .int (nI k))] → W p l e room_1 s m #[Value.ref b] below meth c H locs cells slots Q (F0 m 1061 ls [])) :
    W p l e room_1 s m #[Value.ref b] below meth c H locs cells slots Q (F0 m 1038 ls []) := by
  have hx := hC.1.1
  have hb := hC.1.2.1
  have hts := hC.1.2.2.2.2
  have hX := hC.2.2.2.2.2.1
  have hbl := hC.2.2.2.2.2.2.1
  have hL := hC.2.2.2.2.2.2.2.2.2
  have hbA : ¬ lwA s b := Nat.not_le.mpr hbl
  refine lv_aload_n hx hb dL_law_1038 rfl (lv_at hl 1 rfl) ?_
  refine lv_aload_n hx hb dL_law_1039 rfl (lv_at hl 0 rfl) ?_
  refine lv_iload_n hx hb dL_law_1040 rfl (lv_at hl 3 rfl) ?_
  refine lv_iconst (v := 1) hx hb dL_law_1041 (by decide) ?_
  refine lv_iadd hx hb dL_law_1042 ?_
  refine va_sld hx hb hX hbl hbA hS (nI_idx (j := 1) (by omega) hL) dL_law_1043 ?_
  have ho := op_goBack hR (xs ((nI k) + 1).toNatClampNeg)
  refine lwcall (bb := 0) (As := [.int (xs ((nI k) + 1).toNatClampNeg)]) (rest := []) (P := (fun (r : Int32) (u : xS) => r = (f_X10_goBack S (xs ((nI k) + 1).toNatClampNeg)).1 ∧ u = (f_X10_goBack S (xs ((nI k) + 1).toNatClampNeg)).2)) hC hP hS (k_X10_goBack l X S (xs ((nI k) + 1).toNatClampNeg) ho.1) (cwV 1 hts gL_law_X10_goBack rfl rfl rfl hd_X10_goBack ⟨Nat.le_of_ble_eq_true rfl, Nat.le_of_ble_eq_true rfl⟩) xo_X10 rfl rfl rfl hl.1 (Nat.le_of_ble_eq_true rfl) dL_law_1044 hcl hsl (fun r1 S1 hp_r1 H locs hP hS => ?_)
  obtain ⟨he_r1, hu_r1⟩ := hp_r1
  rw [← hu_r1, ← he_r1] at ho
  refine lv_aload_n hx hb dL_law_1047 rfl (lv_at hl 2 rfl) ?_
  refine lv_aload_n hx hb dL_law_1048 rfl (lv_at hl 0 rfl) ?_
  refine lv_iload_n hx hb dL_law_1049 rfl (lv_at hl 3 rfl) ?_
  refine lv_iconst (v := 1) hx hb dL_law_1050 (by decide) ?_
  refine lv_iadd hx hb dL_law_1051 ?_
  refine va_sld hx hb hX hbl hbA hS (nI_idx (j := 1) (by omega) hL) dL_law_1052 ?_
  refine lwcall (bb := 127) (As := [.int (xs ((nI k) + 1).toNatClampNeg)]) (rest := [.int r1]) (P := (fun (r : Int32) (u : xS) => r = (f_X11_goBack S1 (xs ((nI k) + 1).toNatClampNeg)).1 ∧ u = (f_X11_goBack S1 (xs ((nI k) + 1).toNatClampNeg)).2)) hC hP hS (k_X11_goBack l X S1 (xs ((nI k) + 1).toNatClampNeg) ho.2.1) (cwV 1 hts gL_law_X11_goBack rfl rfl rfl hd_X11_goBack ⟨Nat.le_of_ble_eq_true rfl, Nat.le_of_ble_eq_true rfl⟩) xo_X11 rfl rfl rfl hl.1 (Nat.le_of_ble_eq_true rfl) dL_law_1053 hcl hsl (fun r2 S2 hp_r2 H locs hP hS => ?_)
  obtain ⟨he_r2, hu_r2⟩ := hp_r2
  rw [← he_r2, ← hu_r2] at ho
  refine lv_icmp_eq (tgt := 1061) hx hb dL_law_1056 (by decide) (fun _ => ?_) (fun c => absurd ho.2.2.1 c)
  exact kk _ ho.2.2.2 _ _ hP hS ls hl
