theorem vp_lit {i : Int32} {n : Nat} (h : ¬ (i < 0 ∨ n ≤ i.toNatClampNeg)) : vp_in i n := h
/-! what slotAt and imageAt answer is a Talk, an Image -/
theorem kd_X6_slotAt {S : xS} {i : Int32} {t : Nat} (h : f_X6_slotAt S i = some t) : isT t = true := by
  unfold f_X6_slotAt at h
  split at h
  · cases h
  · split at h
    · cases h
    · rename_i h1 h2
      cases h
      obtain ⟨j, g1, rfl⟩ := vp_in_of (vp_of (by decide) h1 h2) (by decide)
      rw [nI_clamp (by omega)]
      simp only [isT, Bool.and_eq_true, decide_eq_true_eq]
      omega
theorem kd_X10_imageAt {S : xS} {i : Int32} {t : Nat} (h : f_X10_imageAt S i = some t) : isM t = true := by
  unfold f_X10_imageAt at h
  split at h
  · cases h
  · split at h
    · cases h
    · rename_i h1 h2
      cases h
      obtain ⟨j, g1, rfl⟩ := vp_in_of (vp_of (by decide) h1 h2) (by decide)
      rw [nI_clamp (by omega)]
      simp only [isM, Bool.or_eq_true, beq_iff_eq]
      omega
/-! the nest links, each by its place -/
section NL
variable {s : State}
theorem xn_0 (h : xN s) : va_Nw (.methodLinkNest RX8 29 yX10_put "AbsentPraise") s := h 0 (RX8, 29, yX10_put, "AbsentPraise") rfl
theorem xn_1 (h : xN s) : va_Nw (.methodLinkNest RX8 130 yX10_within "AbsentPraise") s := h 1 (RX8, 130, yX10_within, "AbsentPraise") rfl
theorem xn_2 (h : xN s) : va_Nw (.methodLinkNest RX8 98 yX10_bit "AbsentPraise") s := h 2 (RX8, 98, yX10_bit, "AbsentPraise") rfl
theorem xn_3 (h : xN s) : va_Nw (.methodLinkNest RX2 57 yX10_at "AbsentPraise") s := h 3 (RX2, 57, yX10_at, "AbsentPraise") rfl
theorem xn_4 (h : xN s) : va_Nw (.methodLinkNest RX2 61 yX10_has "AbsentPraise") s := h 4 (RX2, 61, yX10_has, "AbsentPraise") rfl
theorem xn_5 (h : xN s) : va_Nw (.methodLinkNest RX2 65 yX10_bit "AbsentPraise") s := h 5 (RX2, 65, yX10_bit, "AbsentPraise") rfl
theorem xn_6 (h : xN s) : va_Nw (.methodLinkNest RX2 69 yX10_put "AbsentPraise") s := h 6 (RX2, 69, yX10_put, "AbsentPraise") rfl
theorem xn_7 (h : xN s) : va_Nw (.methodLinkNest RX2 73 yX10_pairIndex "AbsentPraise") s := h 7 (RX2, 73, yX10_pairIndex, "AbsentPraise") rfl
theorem xn_8 (h : xN s) : va_Nw (.methodLinkNest RX2 49 yX10_copy "AbsentPraise") s := h 8 (RX2, 49, yX10_copy, "AbsentPraise") rfl
theorem xn_9 (h : xN s) : va_Nw (.methodLinkNest RX7 29 yX10_copy "AbsentPraise") s := h 9 (RX7, 29, yX10_copy, "AbsentPraise") rfl
theorem xn_10 (h : xN s) : va_Nw (.methodLinkNest RX4 31 yX10_at "AbsentPraise") s := h 10 (RX4, 31, yX10_at, "AbsentPraise") rfl
theorem xn_11 (h : xN s) : va_Nw (.methodLinkNest RX4 35 yX10_has "AbsentPraise") s := h 11 (RX4, 35, yX10_has, "AbsentPraise") rfl
theorem xn_12 (h : xN s) : va_Nw (.methodLinkNest RX4 55 yX10_pairIndex "AbsentPraise") s := h 12 (RX4, 55, yX10_pairIndex, "AbsentPraise") rfl
theorem xn_13 (h : xN s) : va_Nw (.methodLinkNest RX4 59 yX10_words "AbsentPraise") s := h 13 (RX4, 59, yX10_words, "AbsentPraise") rfl
theorem xn_14 (h : xN s) : va_Nw (.methodLinkNest RX9 106 yX10_bit "AbsentPraise") s := h 14 (RX9, 106, yX10_bit, "AbsentPraise") rfl
theorem xn_15 (h : xN s) : va_Nw (.methodLinkNest RX9 56 yX10_has "AbsentPraise") s := h 15 (RX9, 56, yX10_has, "AbsentPraise") rfl
theorem xn_16 (h : xN s) : va_Nw (.methodLinkNest RX9 45 yX10_at "AbsentPraise") s := h 16 (RX9, 45, yX10_at, "AbsentPraise") rfl
theorem xn_17 (h : xN s) : va_Nw (.methodLinkNest RX9 109 yX10_isSmaller "AbsentPraise") s := h 17 (RX9, 109, yX10_isSmaller, "AbsentPraise") rfl
theorem xn_18 (h : xN s) : va_Nw (.methodLinkNest RX4 39 yX10_bit "AbsentPraise") s := h 18 (RX4, 39, yX10_bit, "AbsentPraise") rfl
theorem xn_19 (h : xN s) : va_Nw (.methodLinkNest RX4 100 yX10_bounded "AbsentPraise") s := h 19 (RX4, 100, yX10_bounded, "AbsentPraise") rfl
theorem xn_20 (h : xN s) : va_Nw (.methodLinkNest RX4 90 yX10_put "AbsentPraise") s := h 20 (RX4, 90, yX10_put, "AbsentPraise") rfl
theorem xn_21 (h : xN s) : va_Nw (.methodLinkNest RX9 86 yX10_put "AbsentPraise") s := h 21 (RX9, 86, yX10_put, "AbsentPraise") rfl
theorem xn_22 (h : xN s) : va_Nw (.methodLinkNest RX5 25 yX10_put "AbsentPraise") s := h 22 (RX5, 25, yX10_put, "AbsentPraise") rfl
theorem xn_23 (h : xN s) : va_Nw (.methodLinkNest RX5 37 yX10_at "AbsentPraise") s := h 23 (RX5, 37, yX10_at, "AbsentPraise") rfl
theorem xn_24 (h : xN s) : va_Nw (.methodLinkNest RX5 41 yX10_words "AbsentPraise") s := h 24 (RX5, 41, yX10_words, "AbsentPraise") rfl
theorem xn_25 (h : xN s) : va_Nw (.methodLinkNest RX5 33 yX10_bit "AbsentPraise") s := h 25 (RX5, 33, yX10_bit, "AbsentPraise") rfl
theorem xn_26 (h : xN s) : va_Nw (.methodLinkNest RX5 49 yX10_has "AbsentPraise") s := h 26 (RX5, 49, yX10_has, "AbsentPraise") rfl
theorem xn_27 (h : xN s) : va_Nw (.methodLinkNest RX0 22 yX10_put "AbsentPraise") s := h 27 (RX0, 22, yX10_put, "AbsentPraise") rfl
theorem xn_28 (h : xN s) : va_Nw (.methodLinkNest RX0 26 yX10_at "AbsentPraise") s := h 28 (RX0, 26, yX10_at, "AbsentPraise") rfl
end NL
