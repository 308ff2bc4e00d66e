theorem xR_0 : xR xS0 := sorry
