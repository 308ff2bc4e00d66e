theorem xS0_z {k j : Nat} (h : k ≠ 1) (h2 : k ≠ 127) : xS0 k j = 0 := by
  unfold xS0
  rw [if_neg h, if_neg h2]
theorem xS0_1 {j : Nat} (h : j ≠ 4) : xS0 1 j = 0 := by
  unfold xS0
  rw [if_pos rfl, if_neg h]
theorem xS0_7 {j : Nat} (h : j ≠ 20) : xS0 127 j = 0 := by
  unfold xS0
  rw [if_neg (by decide), if_pos rfl, if_neg h]
theorem xS0_14 : xS0 1 4 = -1 := by
  unfold xS0
  rw [if_pos rfl, if_pos rfl]
theorem xS0_720 : xS0 127 20 = -1 := by
  unfold xS0
  rw [if_neg (by decide), if_pos rfl, if_pos rfl]
theorem xR_0 : xR xS0 := by
  have z0 : (0 : Int32) = nI 0 := rfl
  have hh : xRh xS0 0 0 := by
    refine ⟨by decide, by decide, fun q => absurd q (by omega), ?_, ?_, ?_, ?_, ?_, ?_, ?_, fun r hr => ⟨?_, ?_⟩, fun p hp => absurd hp (by omega), fun r hr => absurd hr (by omega), fun r hr => absurd hr (by omega)⟩
    · exact (xS0_z (by decide) (by decide)).trans z0
    · exact (xS0_7 (by decide)).trans z0
    · exact (xS0_z (by decide) (by decide)).trans z0
    · exact (xS0_7 (by decide)).trans z0
    · rw [xS0_z (by decide) (by decide), xS0_7 (by decide)]
    · rw [xS0_z (by decide) (by decide), xS0_7 (by decide)]
    · rw [xS0_z (by decide) (by decide), xS0_7 (by decide)]
    · rw [xS0_z (by decide) (by decide), xS0_z (by decide) (by decide)]
    · rw [xS0_z (by decide) (by decide), xS0_z (by decide) (by decide)]
  refine xR_none (R := 0) (P := 0) (n := 0) (d := 0) ?_ ?_ ?_ hh ?_ ?_ (fun p hp => absurd hp (by omega)) (fun p hp => ⟨?_, ?_, ?_, ?_, ?_⟩) (fun j hj => ⟨?_, 0, by decide, ?_⟩) ?_ ?_ ?_ (by decide) ?_ ?_ ?_ ?_ (fun i hi => ⟨?_, ?_⟩) ?_ ?_ ?_ ?_ (by decide)
  · exact (xS0_1 (by decide)).trans z0
  · exact (xS0_7 (by decide)).trans z0
  · rw [xS0_14, xS0_720]
  · exact xS0_z (by decide) (by decide)
  · exact xS0_z (by decide) (by decide)
  · rw [xS0_z (by decide) (by decide), xS0_z (by decide) (by decide)]
  · exact xS0_z (by decide) (by decide)
  · exact xS0_z (by decide) (by decide)
  · exact xS0_z (by decide) (by decide)
  · exact xS0_z (by decide) (by decide)
  · rw [xS0_z (by decide) (by decide), xS0_z (by decide) (by decide)]
  · exact (xS0_z (by decide) (by decide)).trans z0
  · exact xS0_z (by decide) (by decide)
  · exact xS0_z (by decide) (by decide)
  · exact (xS0_z (by decide) (by decide)).trans z0
  · exact (xS0_z (by decide) (by decide)).trans z0
  · exact (xS0_7 (by decide)).trans z0
  · exact (xS0_z (by decide) (by decide)).trans z0
  · exact (xS0_7 (by decide)).trans z0
  · exact xS0_z (by omega) (by omega)
  · exact xS0_z (by decide) (by decide)
  · exact (xS0_z (by decide) (by decide)).trans z0
  · exact (xS0_7 (by decide)).trans z0
  · exact (xS0_z (by decide) (by decide)).trans z0
  · exact (xS0_7 (by decide)).trans z0
