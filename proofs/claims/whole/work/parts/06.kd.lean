theorem vp_lit {i : Int32} {n : Nat} (h : ¬ (i < 0 ∨ n ≤ i.toNatClampNeg)) : vp_in i n := h
/-! what slotAt and imageAt answer is a Talk, an Image -/
theorem kd_X6_slotAt {S : xS} {i : Int32} {t : Nat} (h : f_X6_slotAt S i = some t) : isT t = true := by
  unfold f_X6_slotAt at h
  split at h
  · cases h
  · split at h
    · cases h
    · rename_i h1 h2
      cases h
      obtain ⟨j, g1, rfl⟩ := vp_in_of (vp_of (by decide) h1 h2) (by decide)
      rw [nI_clamp (by omega)]
      simp only [isT, Bool.and_eq_true, decide_eq_true_eq]
      omega
theorem kd_X10_imageAt {S : xS} {i : Int32} {t : Nat} (h : f_X10_imageAt S i = some t) : isM t = true := by
  unfold f_X10_imageAt at h
  split at h
  · cases h
  · split at h
    · cases h
    · rename_i h1 h2
      cases h
      obtain ⟨j, g1, rfl⟩ := vp_in_of (vp_of (by decide) h1 h2) (by decide)
      rw [nI_clamp (by omega)]
      simp only [isM, Bool.or_eq_true, beq_iff_eq]
      omega
