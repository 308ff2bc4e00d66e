set_option maxHeartbeats 4000000 in
set_option maxRecDepth 100000 in
theorem law_loop {p : Program} {l : Launch} {e : Env} {s : State} {m : MethodId} {below : List Frame} {meth : Method} {c : Code} {X : xX} {b L : Nat} {xs : Nat → Int32} (hC : lwC X p s m meth c b L xs) :
    ∀ (n k : Nat), k ≤ L → L + 1 ≤ k + n → ∀ (S : xS), xR S → ∀ (H : Heap) (locs : List Loc), va_P X.1 vwCl (xW X S) H → va_S (lwA s) s.heap H locs → ∀ (ls : Array Slot), lv_has ls 4 [(0, .ref b), (1, .ref (X.2.1 0)), (2, .ref (X.2.1 127)), (3, .int (nI k))] → W p l e room_1 s m #[Value.ref b] below meth c H locs 600000 7302250 (lw_Z below #[Value.ref b] s) (F0 m 18 ls []) := by
  have hx := hC.1.1
  have hb := hC.1.2.1
  have hX := hC.2.2.2.2.2.1
  have hbl := hC.2.2.2.2.2.2.1
  have hr := hC.2.2.2.2.2.2.2.1
  have hlocks := hC.2.2.2.2.2.2.2.2.1
  have hL := hC.2.2.2.2.2.2.2.2.2
  have hbA : ¬ lwA s b := Nat.not_le.mpr hbl
  intro n
  induction n with
  | zero => intro k h1 h2; exact absurd h2 (by omega)
  | succ n ih =>
    intro k h1 h2 S hR H locs hP hS ls hl
    refine lv_iload_n hx hb dL_law_18 rfl (lv_at hl 3 rfl) ?_
    refine lv_aload_n hx hb dL_law_19 rfl (lv_at hl 0 rfl) ?_
    refine va_slen hx hb hX hbl hbA hS dL_law_20 ?_
    refine lv_iconst (v := 4) hx hb dL_law_21 (by decide) ?_
    refine lv_isub hx hb dL_law_22 ?_
    refine lv_icmp_gt (tgt := 1067) hx hb dL_law_23 (by decide) (fun _ => ?_) (fun cg => ?_)
    · refine lv_iconst (v := 1) hx hb dL_law_1067 (by decide) ?_
      refine va_forget (fun q hq => hS.2.2 q hq) ?_
      exact lw_ret hx hb hr hlocks dL_law_1068
    · have hk : k + 4 ≤ L := law_ok (by omega) hL cg
      have kk : ∀ (S2 : xS) (_ : xR S2) (H : Heap) (locs : List Loc), va_P X.1 vwCl (xW X S2) H → va_S (lwA s) s.heap H locs → ∀ (ls : Array Slot), lv_has ls 4 [(0, .ref b), (1, .ref (X.2.1 0)), (2, .ref (X.2.1 127)), (3, .int (nI k))] → W p l e room_1 s m #[Value.ref b] below meth c H locs 600000 7302250 (lw_Z below #[Value.ref b] s) (F0 m 1061 ls []) := by
        intro S2 hR2 H locs hP hS ls hl
        refine lv_iinc (v := nI (k + 4)) (lv' := [(3, .int (nI (k + 4))), (0, .ref b), (1, .ref (X.2.1 0)), (2, .ref (X.2.1 127))]) hx hb dL_law_1061 hl (k := 3) rfl (nI_4 k) (by decide) rfl (fun ls hl => ?_)
        refine lv_goto (tgt := 18) hx hb dL_law_1064 (by decide) ?_
        exact ih (k + 4) hk (by omega) S2 hR2 H locs hP hS ls (lv_sub hl [1, 2, 3, 0] rfl)
      refine lv_aload_n hx hb dL_law_26 rfl (lv_at hl 0 rfl) ?_
      refine lv_iload_n hx hb dL_law_27 rfl (lv_at hl 3 rfl) ?_
      refine va_sld hx hb hX hbl hbA hS (vp_in_nI (by omega) (by omega)) dL_law_28 ?_
      refine lv_bipush (v := 31) hx hb dL_law_29 (by decide) ?_
      refine lv_iand hx hb dL_law_31 ?_
      obtain ⟨j, hj, ej⟩ := and31 (xs (nI k).toNatClampNeg)
      rw [ej]
      match j, hj with
      | 0, _ => exact lv_tableIn (off := 140) (tgt := 172) hx hb dL_law_32 (by decide) (by decide) rfl (by decide) (law_case_feed hC (Nat.le_refl _) (Nat.le_refl _) hk hR hP hS hl kk)
      | 1, _ => exact lv_tableIn (off := 163) (tgt := 195) hx hb dL_law_32 (by decide) (by decide) rfl (by decide) (law_case_hill hC (Nat.le_refl _) (Nat.le_refl _) hk hR hP hS hl kk)
      | 2, _ => exact lv_tableIn (off := 176) (tgt := 208) hx hb dL_law_32 (by decide) (by decide) rfl (by decide) (law_case_fault hC (Nat.le_refl _) (Nat.le_refl _) hk hR hP hS hl kk)
      | 3, _ => exact lv_tableIn (off := 189) (tgt := 221) hx hb dL_law_32 (by decide) (by decide) rfl (by decide) (law_case_told hC (Nat.le_refl _) (Nat.le_refl _) hk hR hP hS hl kk)
      | 4, _ => exact lv_tableIn (off := 212) (tgt := 244) hx hb dL_law_32 (by decide) (by decide) rfl (by decide) (law_case_room hC (Nat.le_refl _) (Nat.le_refl _) hk hR hP hS hl kk)
      | 5, _ => exact lv_tableIn (off := 245) (tgt := 277) hx hb dL_law_32 (by decide) (by decide) rfl (by decide) (law_case_person hC (Nat.le_refl _) (Nat.le_refl _) hk hR hP hS hl kk)
      | 6, _ => exact lv_tableIn (off := 278) (tgt := 310) hx hb dL_law_32 (by decide) (by decide) rfl (by decide) (law_case_liking hC (Nat.le_refl _) (Nat.le_refl _) hk hR hP hS hl kk)
      | 7, _ => exact lv_tableIn (off := 311) (tgt := 343) hx hb dL_law_32 (by decide) (by decide) rfl (by decide) (law_case_said hC (Nat.le_refl _) (Nat.le_refl _) hk hR hP hS hl kk)
      | 8, _ => exact lv_tableIn (off := 354) (tgt := 386) hx hb dL_law_32 (by decide) (by decide) rfl (by decide) (law_case_hour hC (Nat.le_refl _) (Nat.le_refl _) hk hR hP hS hl kk)
      | 9, _ => exact lv_tableIn (off := 377) (tgt := 409) hx hb dL_law_32 (by decide) (by decide) rfl (by decide) (law_case_go hC (Nat.le_refl _) (Nat.le_refl _) hk hR hP hS hl kk)
      | 10, _ => exact lv_tableIn (off := 410) (tgt := 442) hx hb dL_law_32 (by decide) (by decide) rfl (by decide) (law_case_cough hC (Nat.le_refl _) (Nat.le_refl _) hk hR hP hS hl kk)
      | 11, _ => exact lv_tableIn (off := 433) (tgt := 465) hx hb dL_law_32 (by decide) (by decide) rfl (by decide) (law_case_like hC (Nat.le_refl _) (Nat.le_refl _) hk hR hP hS hl kk)
      | 12, _ => exact lv_tableIn (off := 476) (tgt := 508) hx hb dL_law_32 (by decide) (by decide) rfl (by decide) (law_case_drift hC (Nat.le_refl _) (Nat.le_refl _) hk hR hP hS hl kk)
      | 13, _ => exact lv_tableIn (off := 499) (tgt := 531) hx hb dL_law_32 (by decide) (by decide) rfl (by decide) (law_case_undo hC (Nat.le_refl _) (Nat.le_refl _) hk hR hP hS hl kk)
      | 14, _ => exact lv_tableIn (off := 512) (tgt := 544) hx hb dL_law_32 (by decide) (by decide) rfl (by decide) (law_case_warm hC (Nat.le_refl _) (Nat.le_refl _) hk hR hP hS hl kk)
      | 15, _ => exact lv_tableIn (off := 545) (tgt := 577) hx hb dL_law_32 (by decide) (by decide) rfl (by decide) (law_case_bestRoom hC (Nat.le_refl _) (Nat.le_refl _) hk hR hP hS hl kk)
      | 16, _ => exact lv_tableIn (off := 588) (tgt := 620) hx hb dL_law_32 (by decide) (by decide) rfl (by decide) (law_case_route hC (Nat.le_refl _) (Nat.le_refl _) hk hR hP hS hl kk)
      | 17, _ => exact lv_tableIn (off := 631) (tgt := 663) hx hb dL_law_32 (by decide) (by decide) rfl (by decide) (law_case_leavers hC (Nat.le_refl _) (Nat.le_refl _) hk hR hP hS hl kk)
      | 18, _ => exact lv_tableIn (off := 664) (tgt := 696) hx hb dL_law_32 (by decide) (by decide) rfl (by decide) (law_case_silent hC (Nat.le_refl _) (Nat.le_refl _) hk hR hP hS hl kk)
      | 19, _ => exact lv_tableIn (off := 687) (tgt := 719) hx hb dL_law_32 (by decide) (by decide) rfl (by decide) (law_case_carried hC (Nat.le_refl _) (Nat.le_refl _) hk hR hP hS hl kk)
      | 20, _ => exact lv_tableIn (off := 720) (tgt := 752) hx hb dL_law_32 (by decide) (by decide) rfl (by decide) (law_case_hale hC (Nat.le_refl _) (Nat.le_refl _) hk hR hP hS hl kk)
      | 21, _ => exact lv_tableIn (off := 753) (tgt := 785) hx hb dL_law_32 (by decide) (by decide) rfl (by decide) (law_case_note hC (Nat.le_refl _) (Nat.le_refl _) hk hR hP hS hl kk)
      | 22, _ => exact lv_tableIn (off := 812) (tgt := 844) hx hb dL_law_32 (by decide) (by decide) rfl (by decide) (law_case_thinks hC (Nat.le_refl _) (Nat.le_refl _) hk hR hP hS hl kk)
      | 23, _ => exact lv_tableIn (off := 835) (tgt := 867) hx hb dL_law_32 (by decide) (by decide) rfl (by decide) (law_case_ask hC (Nat.le_refl _) (Nat.le_refl _) hk hR hP hS hl kk)
      | 24, _ => exact lv_tableIn (off := 858) (tgt := 890) hx hb dL_law_32 (by decide) (by decide) rfl (by decide) (law_case_listens hC (Nat.le_refl _) (Nat.le_refl _) hk hR hP hS hl kk)
      | 25, _ => exact lv_tableIn (off := 901) (tgt := 933) hx hb dL_law_32 (by decide) (by decide) rfl (by decide) (law_case_write hC (Nat.le_refl _) (Nat.le_refl _) hk hR hP hS hl kk)
      | 26, _ => exact lv_tableIn (off := 934) (tgt := 966) hx hb dL_law_32 (by decide) (by decide) rfl (by decide) (law_case_tear hC (Nat.le_refl _) (Nat.le_refl _) hk hR hP hS hl kk)
      | 27, _ => exact lv_tableIn (off := 947) (tgt := 979) hx hb dL_law_32 (by decide) (by decide) rfl (by decide) (law_case_judge hC (Nat.le_refl _) (Nat.le_refl _) hk hR hP hS hl kk)
      | 28, _ => exact lv_tableIn (off := 960) (tgt := 992) hx hb dL_law_32 (by decide) (by decide) rfl (by decide) (law_case_seed hC (Nat.le_refl _) (Nat.le_refl _) hk hR hP hS hl kk)
      | 29, _ => exact lv_tableIn (off := 983) (tgt := 1015) hx hb dL_law_32 (by decide) (by decide) rfl (by decide) (law_case_keep hC (Nat.le_refl _) (Nat.le_refl _) hk hR hP hS hl kk)
      | 30, _ => exact lv_tableIn (off := 1006) (tgt := 1038) hx hb dL_law_32 (by decide) (by decide) rfl (by decide) (law_case_goBack hC (Nat.le_refl _) (Nat.le_refl _) hk hR hP hS hl kk)
      | 31, _ => exact lv_tableOut (tgt := 1061) hx hb dL_law_32 (by decide) (by decide) (kk S hR H locs hP hS ls hl)
      | j + 32, hj => exact absurd hj (by omega)
