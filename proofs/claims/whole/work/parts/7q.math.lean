/-! A CLAUSE, THE WHOLE TEXT -/
theorem here_nb {M : xS} {n k : Nat} (t2 : M 127 19 = nI n) (hn : n ≤ 240) (p2 : M 127 21 = nI k) (hk : k < n) (nb : ¬ M 138 k = 32) : f_X11_here M = (M 138 k, M) ∧ s_X11_here M := by
  have ef : fu (M 127 21) (M 127 19) = (n - k + 1) + 1 := by rw [t2, p2, fu_n (by omega) (by omega)]
  have e1 : ¬ M 127 19 ≤ M 127 21 := by rw [t2, p2]; exact nI_ge hk (by omega)
  have e2 : ¬ M 138 (M 127 21).toNatClampNeg = 32 := by rw [p2, nI_clamp (by omega)]; exact nb
  have v : vp_in (M 127 21) 240 := by rw [p2]; exact vp_in_nI (by omega) (by decide)
  have e3 : f_X11_here_L0 ((n - k + 1) + 1) M = M := by simp only [f_X11_here_L0, e1, e2, ↓reduceIte, eq_self, n10, not_true_eq_false, not_false_eq_true, true_implies, false_implies, true_and, and_true, implies_true, forall_const, Sum.elim_inl, Sum.elim_inr, and_self]
  constructor
  · unfold f_X11_here
    dsimp only
    rw [ef, e3, if_neg e1, p2, nI_clamp (by omega)]
  · unfold s_X11_here
    dsimp only
    rw [ef, e3]
    exact ⟨by simp only [s_X11_here_L0, e1, e2, v, ↓reduceIte, eq_self, n10, not_true_eq_false, not_false_eq_true, true_implies, false_implies, true_and, and_true, implies_true, forall_const, Sum.elim_inl, Sum.elim_inr, and_self], fun q => absurd q e1, fun _ => ⟨v, trivial⟩⟩
theorem tb_0 (S : xS) : f_X11_takeBody S 0 = f_X11_takeRooms S := by
  unfold f_X11_takeBody
  rw [if_pos rfl]
theorem tb_1 (S : xS) : f_X11_takeBody S 1 = f_X11_takeBench S := by
  unfold f_X11_takeBody
  rw [if_neg (by decide), if_pos rfl]
theorem tb_2 (S : xS) : f_X11_takeBody S 2 = f_X11_takeWay S := by
  unfold f_X11_takeBody
  rw [if_neg (by decide), if_neg (by decide), if_pos rfl]
theorem tb_3 (S : xS) : f_X11_takeBody S 3 = f_X11_takePerson S := by
  unfold f_X11_takeBody
  rw [if_neg (by decide), if_neg (by decide), if_neg (by decide), if_pos rfl]
theorem tb_4 (S : xS) : f_X11_takeBody S 4 = f_X11_takeLiking S := by
  unfold f_X11_takeBody
  rw [if_neg (by decide), if_neg (by decide), if_neg (by decide), if_neg (by decide)]
def tcl (H : Int32 × xS) : Int32 × xS := if H.1 = 114 then (if f_X11_isFull H.2 0 = 0 then tcT (f_X11_takeBody (xu H.2 127 21 (H.2 127 21 + 1)) 0) else f_X11_fails H.2 3 (H.2 127 21)) else if H.1 = 98 then (if H.2 127 24 = 0 then f_X11_fails H.2 1 (H.2 127 21) else if f_X11_isFull H.2 1 = 0 then tcT (f_X11_takeBody (xu H.2 127 21 (H.2 127 21 + 1)) 1) else f_X11_fails H.2 3 (H.2 127 21)) else if H.1 = 103 then (if H.2 127 24 = 0 then f_X11_fails H.2 1 (H.2 127 21) else if f_X11_isFull H.2 2 = 0 then tcT (f_X11_takeBody (xu H.2 127 21 (H.2 127 21 + 1)) 2) else f_X11_fails H.2 3 (H.2 127 21)) else if H.1 = 112 then (if H.2 127 24 = 0 then f_X11_fails H.2 1 (H.2 127 21) else if f_X11_isFull H.2 3 = 0 then tcT (f_X11_takeBody (xu H.2 127 21 (H.2 127 21 + 1)) 3) else f_X11_fails H.2 3 (H.2 127 21)) else if H.1 = 108 then (if H.2 127 24 = 0 then f_X11_fails H.2 1 (H.2 127 21) else if f_X11_isFull H.2 4 = 0 then tcT (f_X11_takeBody (xu H.2 127 21 (H.2 127 21 + 1)) 4) else f_X11_fails H.2 3 (H.2 127 21)) else f_X11_fails H.2 1 (H.2 127 21)
theorem tc_eq (M : xS) : f_X11_takeClause M = tcl (f_X11_here M) := by
  unfold f_X11_takeClause tcl tcT
  dsimp only
theorem tcl_114 {M : xS} (h : f_X11_isFull M 0 = 0) : tcl (114, M) = tcT (f_X11_takeBody (xu M 127 21 (M 127 21 + 1)) 0) := (if_pos rfl).trans (if_pos h)
theorem tcl_114f {M : xS} (h : ¬ f_X11_isFull M 0 = 0) : tcl (114, M) = f_X11_fails M 3 (M 127 21) := (if_pos rfl).trans (if_neg h)
theorem tcl_98 {M : xS} (h0 : ¬ M 127 24 = 0) (h : f_X11_isFull M 1 = 0) : tcl (98, M) = tcT (f_X11_takeBody (xu M 127 21 (M 127 21 + 1)) 1) := (if_neg (show ¬ (98 : Int32) = 114 by decide)).trans ((if_pos rfl).trans ((if_neg h0).trans (if_pos h)))
theorem tcl_98f {M : xS} (h0 : ¬ M 127 24 = 0) (h : ¬ f_X11_isFull M 1 = 0) : tcl (98, M) = f_X11_fails M 3 (M 127 21) := (if_neg (show ¬ (98 : Int32) = 114 by decide)).trans ((if_pos rfl).trans ((if_neg h0).trans (if_neg h)))
theorem tcl_98z {M : xS} (h0 : M 127 24 = 0) : tcl (98, M) = f_X11_fails M 1 (M 127 21) := (if_neg (show ¬ (98 : Int32) = 114 by decide)).trans ((if_pos rfl).trans (if_pos h0))
theorem tcl_103 {M : xS} (h0 : ¬ M 127 24 = 0) (h : f_X11_isFull M 2 = 0) : tcl (103, M) = tcT (f_X11_takeBody (xu M 127 21 (M 127 21 + 1)) 2) := (if_neg (show ¬ (103 : Int32) = 114 by decide)).trans ((if_neg (show ¬ (103 : Int32) = 98 by decide)).trans ((if_pos rfl).trans ((if_neg h0).trans (if_pos h))))
theorem tcl_103f {M : xS} (h0 : ¬ M 127 24 = 0) (h : ¬ f_X11_isFull M 2 = 0) : tcl (103, M) = f_X11_fails M 3 (M 127 21) := (if_neg (show ¬ (103 : Int32) = 114 by decide)).trans ((if_neg (show ¬ (103 : Int32) = 98 by decide)).trans ((if_pos rfl).trans ((if_neg h0).trans (if_neg h))))
theorem tcl_103z {M : xS} (h0 : M 127 24 = 0) : tcl (103, M) = f_X11_fails M 1 (M 127 21) := (if_neg (show ¬ (103 : Int32) = 114 by decide)).trans ((if_neg (show ¬ (103 : Int32) = 98 by decide)).trans ((if_pos rfl).trans (if_pos h0)))
theorem tcl_112 {M : xS} (h0 : ¬ M 127 24 = 0) (h : f_X11_isFull M 3 = 0) : tcl (112, M) = tcT (f_X11_takeBody (xu M 127 21 (M 127 21 + 1)) 3) := (if_neg (show ¬ (112 : Int32) = 114 by decide)).trans ((if_neg (show ¬ (112 : Int32) = 98 by decide)).trans ((if_neg (show ¬ (112 : Int32) = 103 by decide)).trans ((if_pos rfl).trans ((if_neg h0).trans (if_pos h)))))
theorem tcl_112f {M : xS} (h0 : ¬ M 127 24 = 0) (h : ¬ f_X11_isFull M 3 = 0) : tcl (112, M) = f_X11_fails M 3 (M 127 21) := (if_neg (show ¬ (112 : Int32) = 114 by decide)).trans ((if_neg (show ¬ (112 : Int32) = 98 by decide)).trans ((if_neg (show ¬ (112 : Int32) = 103 by decide)).trans ((if_pos rfl).trans ((if_neg h0).trans (if_neg h)))))
theorem tcl_112z {M : xS} (h0 : M 127 24 = 0) : tcl (112, M) = f_X11_fails M 1 (M 127 21) := (if_neg (show ¬ (112 : Int32) = 114 by decide)).trans ((if_neg (show ¬ (112 : Int32) = 98 by decide)).trans ((if_neg (show ¬ (112 : Int32) = 103 by decide)).trans ((if_pos rfl).trans (if_pos h0))))
theorem tcl_108 {M : xS} (h0 : ¬ M 127 24 = 0) (h : f_X11_isFull M 4 = 0) : tcl (108, M) = tcT (f_X11_takeBody (xu M 127 21 (M 127 21 + 1)) 4) := (if_neg (show ¬ (108 : Int32) = 114 by decide)).trans ((if_neg (show ¬ (108 : Int32) = 98 by decide)).trans ((if_neg (show ¬ (108 : Int32) = 103 by decide)).trans ((if_neg (show ¬ (108 : Int32) = 112 by decide)).trans ((if_pos rfl).trans ((if_neg h0).trans (if_pos h))))))
theorem tcl_108f {M : xS} (h0 : ¬ M 127 24 = 0) (h : ¬ f_X11_isFull M 4 = 0) : tcl (108, M) = f_X11_fails M 3 (M 127 21) := (if_neg (show ¬ (108 : Int32) = 114 by decide)).trans ((if_neg (show ¬ (108 : Int32) = 98 by decide)).trans ((if_neg (show ¬ (108 : Int32) = 103 by decide)).trans ((if_neg (show ¬ (108 : Int32) = 112 by decide)).trans ((if_pos rfl).trans ((if_neg h0).trans (if_neg h))))))
theorem tcl_108z {M : xS} (h0 : M 127 24 = 0) : tcl (108, M) = f_X11_fails M 1 (M 127 21) := (if_neg (show ¬ (108 : Int32) = 114 by decide)).trans ((if_neg (show ¬ (108 : Int32) = 98 by decide)).trans ((if_neg (show ¬ (108 : Int32) = 103 by decide)).trans ((if_neg (show ¬ (108 : Int32) = 112 by decide)).trans ((if_pos rfl).trans (if_pos h0)))))
theorem tcl_x {M : xS} {c : Int32} (h1 : ¬ c = 114) (h2 : ¬ c = 98) (h3 : ¬ c = 103) (h4 : ¬ c = 112) (h5 : ¬ c = 108) : tcl (c, M) = f_X11_fails M 1 (M 127 21) := (if_neg h1).trans ((if_neg h2).trans ((if_neg h3).trans ((if_neg h4).trans (if_neg h5))))
theorem fl_x {C0 M0 C M : xS} {r : Int32} (h : fl C0 M0 r C M) : flx C0 M0 r C M := by
  obtain ⟨f, x, k, h1, h2, h3, h4, h5⟩ := h
  exact ⟨f, x, k, h1, h2, h3, by omega, h5⟩
theorem sd_1 {C0 M0 C M : xS} {n k R P : Nat} (h : sd C0 M0 n k R P C M) (hk : k < n) : sd C0 M0 n (k + 1) R P (xu C 1 5 (nI (k + 1))) (xu M 127 21 (nI (k + 1))) := by
  obtain ⟨t', d, hp, -, hf, h4, h20, fc, fm⟩ := h
  have f1 : frC C (xu C 1 5 (nI (k + 1))) := frC_1 (fun a q => xu_ne q) (by rw [xu_eq, upd_ne (by decide)])
  have f2 : frM M (xu M 127 21 (nI (k + 1))) := frM_1 (fun a q => xu_ne q) (fun j hj => by rw [xu_eq, upd_ne (by omega)])
  exact ⟨txt_f t' f1 f2, hR_cg (fun a _ _ => xu_ne (by omega)) (fun a _ _ => xu_ne (by omega)) (fun j hj => by rw [xu_eq, upd_ne (by omega)]) (by rw [xu_eq, upd_ne (by decide)]) d, ⟨by rw [xu_eq, upd_eq], by rw [xu_eq, upd_eq]⟩, hk, by rw [xu_eq, upd_ne (by decide)]; exact hf, by rw [xu_eq, upd_ne (by decide)]; exact h4, by rw [xu_eq, upd_ne (by decide)]; exact h20, frC_t fc f1, frM_t fm f2⟩
theorem cl_f {C0 M0 C M : xS} {n k R P f : Nat} {c : Int32} (h : sd C0 M0 n k R P C M) (hc : f_X8_letter C = c) (h1 : 1 ≤ f) (h2 : f ≤ 4) (e1 : f_X8_faultOfWord C c = nI f) (e2 : f_X11_takeClause M = f_X11_fails M (nI f) (nI k)) : s_X8_readClause C ∧ flx C0 M0 (f_X11_takeClause M).1 (f_X8_readClause C) (f_X11_takeClause M).2 := by
  have hn : n ≤ 240 := h.1.2.2.1
  obtain ⟨-, -, hp, hk, hf, -, -, fc, fm⟩ := h
  obtain ⟨b1, b2⟩ := blame_fl (C := C) (M := M) (f := f) (x := k) (k := k) hf h1 h2 (by omega) (by omega) hp.1
  have nf := (fl_r b1).1
  unfold s_X8_readClause f_X8_readClause
  dsimp only
  rw [hc, e1, hp.1, e2, if_neg nf]
  refine ⟨⟨fun q => absurd q nf, fun _ => trivial⟩, ?_⟩
  rw [b2]
  exact fl_x (fl_t b1 fc fm)
theorem told_0 {C : xS} {b : Nat} (h : C b 5 = nI 0) : f_X2_isTold C b = 0 := by
  unfold f_X2_isTold
  rw [h]
  exact if_pos z00
theorem told_1 {C : xS} {b R : Nat} (h : C b 5 = nI R) (h1 : 2 ≤ R) (h2 : R ≤ 6) : f_X2_isTold C b = 1 := by
  unfold f_X2_isTold
  rw [h]
  exact if_neg (nI_ge (a := 0) (by omega) (by omega))
theorem i_20 : (20 : Int32) = nI 20 := rfl
def clR (C0 M0 : xS) (n k : Nat) (C M : xS) : Prop := s_X8_readClause C ∧ s_X11_takeClause M ∧ (((f_X11_takeClause M).1 = 0 ∧ ∃ k' R P, k < k' ∧ sd C0 M0 n k' R P (f_X8_readClause C) (f_X11_takeClause M).2) ∨ flx C0 M0 (f_X11_takeClause M).1 (f_X8_readClause C) (f_X11_takeClause M).2)
theorem cg_rooms {C0 M0 C M : xS} {n k R P : Nat} (t : C0 1 2 = nI n) (h : sd C0 M0 n k R P C M) (hk : k < n) (hc : f_X8_letter C = 114) (hh : f_X11_here M = (114, M) ∧ s_X11_here M) (e1 : f_X8_faultOfWord C 114 = 0) (hl : f_X11_isFull M 0 = 0) (bd : s_X8_readRooms (xu C 1 5 (nI (k + 1))) ∧ s_X11_takeRooms (xu M 127 21 (nI (k + 1))) ∧ bo C0 M0 n (k + 1) (f_X11_takeRooms (xu M 127 21 (nI (k + 1)))).1 (f_X8_readRooms (xu C 1 5 (nI (k + 1)))) (f_X11_takeRooms (xu M 127 21 (nI (k + 1)))).2) : clR C0 M0 n k C M := by
  have hn : n ≤ 240 := h.1.2.2.1
  obtain ⟨-, -, hp, -, hf, -⟩ := h
  obtain ⟨b1, b2, b3⟩ := bd
  obtain ⟨r1, r2, r3⟩ := end_ok t hn b3
  have ec : f_X8_readClause C = f_X8_readEnd (f_X8_readRooms (xu C 1 5 (nI (k + 1)))) := by
    unfold f_X8_readClause
    dsimp only
    rw [hc, e1, blame_0 hf, hp.1, nI_1, if_pos hf, if_neg (by decide), if_neg (by decide), if_neg (by decide), if_pos rfl]
  have em : f_X11_takeClause M = tcT (f_X11_takeRooms (xu M 127 21 (nI (k + 1)))) := by
    rw [tc_eq, hh.1, tcl_114 hl, tb_0, hp.2, nI_1]
  unfold clR
  rw [ec, em]
  refine ⟨?_, ?_, ?_⟩
  · unfold s_X8_readClause
    dsimp only
    rw [hc, e1, blame_0 hf, hp.1, nI_1]
    exact ⟨fun _ => ⟨fun q => absurd q (by decide), fun _ => ⟨fun q => absurd q (by decide), fun _ => ⟨fun q => absurd q (by decide), fun _ => ⟨fun _ => ⟨b1, r1, trivial⟩, fun q => absurd rfl q⟩⟩⟩⟩, fun _ => trivial⟩
  · unfold s_X11_takeClause
    rw [hh.1]
    dsimp only
    rw [hp.2, nI_1, tb_0]
    refine ⟨hh.2, ?_⟩
    exact ⟨fun _ => ⟨fun _ => ⟨⟨fun _ => ⟨b2, trivial⟩, fun q => absurd rfl q⟩, fun q => ⟨r2 q, trivial⟩, fun _ => trivial⟩, fun q => absurd hl q⟩, fun q => absurd rfl q⟩
  · rcases r3 with ⟨z, k', R', P', z1, z2⟩ | z
    · exact Or.inl ⟨z, k', R', P', by omega, z2⟩
    · exact Or.inr z
theorem cg_bench {C0 M0 C M : xS} {n k R P : Nat} (t : C0 1 2 = nI n) (h : sd C0 M0 n k R P C M) (hk : k < n) (hc : f_X8_letter C = 98) (hh : f_X11_here M = (98, M) ∧ s_X11_here M) (e1 : f_X8_faultOfWord C 98 = 0) (h24 : ¬ M 127 24 = 0) (hl : f_X11_isFull M 1 = 0) (bd : s_X8_readBench (xu C 1 5 (nI (k + 1))) ∧ s_X11_takeBench (xu M 127 21 (nI (k + 1))) ∧ bo C0 M0 n (k + 1) (f_X11_takeBench (xu M 127 21 (nI (k + 1)))).1 (f_X8_readBench (xu C 1 5 (nI (k + 1)))) (f_X11_takeBench (xu M 127 21 (nI (k + 1)))).2) : clR C0 M0 n k C M := by
  have hn : n ≤ 240 := h.1.2.2.1
  obtain ⟨-, -, hp, -, hf, -⟩ := h
  obtain ⟨b1, b2, b3⟩ := bd
  obtain ⟨r1, r2, r3⟩ := end_ok t hn b3
  have ec : f_X8_readClause C = f_X8_readEnd (f_X8_readBench (xu C 1 5 (nI (k + 1)))) := by
    unfold f_X8_readClause
    dsimp only
    rw [hc, e1, blame_0 hf, hp.1, nI_1, if_pos hf, if_pos rfl]
  have em : f_X11_takeClause M = tcT (f_X11_takeBench (xu M 127 21 (nI (k + 1)))) := by
    rw [tc_eq, hh.1, tcl_98 h24 hl, tb_1, hp.2, nI_1]
  unfold clR
  rw [ec, em]
  refine ⟨?_, ?_, ?_⟩
  · unfold s_X8_readClause
    dsimp only
    rw [hc, e1, blame_0 hf, hp.1, nI_1]
    exact ⟨fun _ => ⟨fun _ => ⟨b1, r1, trivial⟩, fun q => absurd rfl q⟩, fun _ => trivial⟩
  · unfold s_X11_takeClause
    rw [hh.1]
    dsimp only
    rw [hp.2, nI_1, tb_1]
    refine ⟨hh.2, ?_⟩
    exact ⟨fun q => absurd q (by decide), fun _ => ⟨fun _ => ⟨fun q => absurd q h24, fun _ => ⟨fun _ => ⟨⟨fun q => absurd q (by decide), fun _ => ⟨fun _ => ⟨b2, trivial⟩, fun q => absurd rfl q⟩⟩, fun q => ⟨r2 q, trivial⟩, fun _ => trivial⟩, fun q => absurd hl q⟩⟩, fun q => absurd rfl q⟩⟩
  · rcases r3 with ⟨z, k', R', P', z1, z2⟩ | z
    · exact Or.inl ⟨z, k', R', P', by omega, z2⟩
    · exact Or.inr z
theorem cg_way {C0 M0 C M : xS} {n k R P : Nat} (t : C0 1 2 = nI n) (h : sd C0 M0 n k R P C M) (hk : k < n) (hc : f_X8_letter C = 103) (hh : f_X11_here M = (103, M) ∧ s_X11_here M) (e1 : f_X8_faultOfWord C 103 = 0) (h24 : ¬ M 127 24 = 0) (hl : f_X11_isFull M 2 = 0) (bd : s_X8_readWay (xu C 1 5 (nI (k + 1))) ∧ s_X11_takeWay (xu M 127 21 (nI (k + 1))) ∧ bo C0 M0 n (k + 1) (f_X11_takeWay (xu M 127 21 (nI (k + 1)))).1 (f_X8_readWay (xu C 1 5 (nI (k + 1)))) (f_X11_takeWay (xu M 127 21 (nI (k + 1)))).2) : clR C0 M0 n k C M := by
  have hn : n ≤ 240 := h.1.2.2.1
  obtain ⟨-, -, hp, -, hf, -⟩ := h
  obtain ⟨b1, b2, b3⟩ := bd
  obtain ⟨r1, r2, r3⟩ := end_ok t hn b3
  have ec : f_X8_readClause C = f_X8_readEnd (f_X8_readWay (xu C 1 5 (nI (k + 1)))) := by
    unfold f_X8_readClause
    dsimp only
    rw [hc, e1, blame_0 hf, hp.1, nI_1, if_pos hf, if_neg (by decide), if_pos rfl]
  have em : f_X11_takeClause M = tcT (f_X11_takeWay (xu M 127 21 (nI (k + 1)))) := by
    rw [tc_eq, hh.1, tcl_103 h24 hl, tb_2, hp.2, nI_1]
  unfold clR
  rw [ec, em]
  refine ⟨?_, ?_, ?_⟩
  · unfold s_X8_readClause
    dsimp only
    rw [hc, e1, blame_0 hf, hp.1, nI_1]
    exact ⟨fun _ => ⟨fun q => absurd q (by decide), fun _ => ⟨fun _ => ⟨b1, r1, trivial⟩, fun q => absurd rfl q⟩⟩, fun _ => trivial⟩
  · unfold s_X11_takeClause
    rw [hh.1]
    dsimp only
    rw [hp.2, nI_1, tb_2]
    refine ⟨hh.2, ?_⟩
    exact ⟨fun q => absurd q (by decide), fun _ => ⟨fun q => absurd q (by decide), fun _ => ⟨fun _ => ⟨fun q => absurd q h24, fun _ => ⟨fun _ => ⟨⟨fun q => absurd q (by decide), fun _ => ⟨fun q => absurd q (by decide), fun _ => ⟨fun _ => ⟨b2, trivial⟩, fun q => absurd rfl q⟩⟩⟩, fun q => ⟨r2 q, trivial⟩, fun _ => trivial⟩, fun q => absurd hl q⟩⟩, fun q => absurd rfl q⟩⟩⟩
  · rcases r3 with ⟨z, k', R', P', z1, z2⟩ | z
    · exact Or.inl ⟨z, k', R', P', by omega, z2⟩
    · exact Or.inr z
theorem cg_per {C0 M0 C M : xS} {n k R P : Nat} (t : C0 1 2 = nI n) (h : sd C0 M0 n k R P C M) (hk : k < n) (hc : f_X8_letter C = 112) (hh : f_X11_here M = (112, M) ∧ s_X11_here M) (e1 : f_X8_faultOfWord C 112 = 0) (h24 : ¬ M 127 24 = 0) (hl : f_X11_isFull M 3 = 0) (bd : s_X8_readPerson (xu C 1 5 (nI (k + 1))) ∧ s_X11_takePerson (xu M 127 21 (nI (k + 1))) ∧ bo C0 M0 n (k + 1) (f_X11_takePerson (xu M 127 21 (nI (k + 1)))).1 (f_X8_readPerson (xu C 1 5 (nI (k + 1)))) (f_X11_takePerson (xu M 127 21 (nI (k + 1)))).2) : clR C0 M0 n k C M := by
  have hn : n ≤ 240 := h.1.2.2.1
  obtain ⟨-, -, hp, -, hf, -⟩ := h
  obtain ⟨b1, b2, b3⟩ := bd
  obtain ⟨r1, r2, r3⟩ := end_ok t hn b3
  have ec : f_X8_readClause C = f_X8_readEnd (f_X8_readPerson (xu C 1 5 (nI (k + 1)))) := by
    unfold f_X8_readClause
    dsimp only
    rw [hc, e1, blame_0 hf, hp.1, nI_1, if_pos hf, if_neg (by decide), if_neg (by decide), if_pos rfl]
  have em : f_X11_takeClause M = tcT (f_X11_takePerson (xu M 127 21 (nI (k + 1)))) := by
    rw [tc_eq, hh.1, tcl_112 h24 hl, tb_3, hp.2, nI_1]
  unfold clR
  rw [ec, em]
  refine ⟨?_, ?_, ?_⟩
  · unfold s_X8_readClause
    dsimp only
    rw [hc, e1, blame_0 hf, hp.1, nI_1]
    exact ⟨fun _ => ⟨fun q => absurd q (by decide), fun _ => ⟨fun q => absurd q (by decide), fun _ => ⟨fun _ => ⟨b1, r1, trivial⟩, fun q => absurd rfl q⟩⟩⟩, fun _ => trivial⟩
  · unfold s_X11_takeClause
    rw [hh.1]
    dsimp only
    rw [hp.2, nI_1, tb_3]
    refine ⟨hh.2, ?_⟩
    exact ⟨fun q => absurd q (by decide), fun _ => ⟨fun q => absurd q (by decide), fun _ => ⟨fun q => absurd q (by decide), fun _ => ⟨fun _ => ⟨fun q => absurd q h24, fun _ => ⟨fun _ => ⟨⟨fun q => absurd q (by decide), fun _ => ⟨fun q => absurd q (by decide), fun _ => ⟨fun q => absurd q (by decide), fun _ => ⟨fun _ => ⟨b2, trivial⟩, fun q => absurd rfl q⟩⟩⟩⟩, fun q => ⟨r2 q, trivial⟩, fun _ => trivial⟩, fun q => absurd hl q⟩⟩, fun q => absurd rfl q⟩⟩⟩⟩
  · rcases r3 with ⟨z, k', R', P', z1, z2⟩ | z
    · exact Or.inl ⟨z, k', R', P', by omega, z2⟩
    · exact Or.inr z
theorem cg_lik {C0 M0 C M : xS} {n k R P : Nat} (t : C0 1 2 = nI n) (h : sd C0 M0 n k R P C M) (hk : k < n) (hc : f_X8_letter C = 108) (hh : f_X11_here M = (108, M) ∧ s_X11_here M) (e1 : f_X8_faultOfWord C 108 = 0) (h24 : ¬ M 127 24 = 0) (hl : f_X11_isFull M 4 = 0) (bd : s_X8_readLiking (xu C 1 5 (nI (k + 1))) ∧ s_X11_takeLiking (xu M 127 21 (nI (k + 1))) ∧ bo C0 M0 n (k + 1) (f_X11_takeLiking (xu M 127 21 (nI (k + 1)))).1 (f_X8_readLiking (xu C 1 5 (nI (k + 1)))) (f_X11_takeLiking (xu M 127 21 (nI (k + 1)))).2) : clR C0 M0 n k C M := by
  have hn : n ≤ 240 := h.1.2.2.1
  obtain ⟨-, -, hp, -, hf, -⟩ := h
  obtain ⟨b1, b2, b3⟩ := bd
  obtain ⟨r1, r2, r3⟩ := end_ok t hn b3
  have ec : f_X8_readClause C = f_X8_readEnd (f_X8_readLiking (xu C 1 5 (nI (k + 1)))) := by
    unfold f_X8_readClause
    dsimp only
    rw [hc, e1, blame_0 hf, hp.1, nI_1, if_pos hf, if_neg (by decide), if_neg (by decide), if_neg (by decide), if_neg (by decide)]
  have em : f_X11_takeClause M = tcT (f_X11_takeLiking (xu M 127 21 (nI (k + 1)))) := by
    rw [tc_eq, hh.1, tcl_108 h24 hl, tb_4, hp.2, nI_1]
  unfold clR
  rw [ec, em]
  refine ⟨?_, ?_, ?_⟩
  · unfold s_X8_readClause
    dsimp only
    rw [hc, e1, blame_0 hf, hp.1, nI_1]
    exact ⟨fun _ => ⟨fun q => absurd q (by decide), fun _ => ⟨fun q => absurd q (by decide), fun _ => ⟨fun q => absurd q (by decide), fun _ => ⟨fun q => absurd q (by decide), fun _ => ⟨b1, r1, trivial⟩⟩⟩⟩⟩, fun _ => trivial⟩
  · unfold s_X11_takeClause
    rw [hh.1]
    dsimp only
    rw [hp.2, nI_1, tb_4]
    refine ⟨hh.2, ?_⟩
    exact ⟨fun q => absurd q (by decide), fun _ => ⟨fun q => absurd q (by decide), fun _ => ⟨fun q => absurd q (by decide), fun _ => ⟨fun q => absurd q (by decide), fun _ => ⟨fun _ => ⟨fun q => absurd q h24, fun _ => ⟨fun _ => ⟨⟨fun q => absurd q (by decide), fun _ => ⟨fun q => absurd q (by decide), fun _ => ⟨fun q => absurd q (by decide), fun _ => ⟨fun q => absurd q (by decide), fun _ => ⟨b2, trivial⟩⟩⟩⟩⟩, fun q => ⟨r2 q, trivial⟩, fun _ => trivial⟩, fun q => absurd hl q⟩⟩, fun q => absurd rfl q⟩⟩⟩⟩⟩
  · rcases r3 with ⟨z, k', R', P', z1, z2⟩ | z
    · exact Or.inl ⟨z, k', R', P', by omega, z2⟩
    · exact Or.inr z
theorem clause_ok {C0 M0 C M : xS} {n k R P : Nat} (t : C0 1 2 = nI n) (h : sd C0 M0 n k R P C M) (hk : k < n) (nb : ¬ M 138 k = 32) : clR C0 M0 n k C M := by
  have hn : n ≤ 240 := h.1.2.2.1
  have hp := h.2.2.1
  have hc : f_X8_letter C = M 138 k := by rw [letter_ok (n := n) h.1.1 hn hp.1 (by omega), if_pos hk]; exact (h.1.2.2.2 k hk).1
  have hh := here_nb h.1.2.1 hn hp.2 hk nb
  generalize M 138 k = c at hc hh
  have g1 := sd_1 h hk
  have hR6 : R ≤ 6 := h.2.1.1
  have hP7 : P ≤ 7 := h.2.1.2.1
  have hR : R = 0 ∨ 2 ≤ R := h.2.1.2.2.1
  have c35 : C 3 5 = nI R := h.2.1.2.2.2.2.1
  have m24 : M 127 24 = nI R := h.2.1.2.2.2.2.2.1
  have c39 : C 3 9 = nI P := h.2.1.2.2.2.2.2.2.2.1
  have m30 : M 127 30 = nI P := h.2.1.2.2.2.2.2.2.2.2.1
  obtain ⟨x7, x71, x72, x73⟩ := h.2.1.2.2.2.2.2.2.2.2.2.1
  obtain ⟨x8, x81, x82, x83⟩ := h.2.1.2.2.2.2.2.2.2.2.2.2.1
  obtain ⟨x10, x101, x102, x103⟩ := h.2.1.2.2.2.2.2.2.2.2.2.2.2.1
  have fin : ∀ f : Nat, 1 ≤ f → f ≤ 4 → f_X8_faultOfWord C c = nI f → f_X11_takeClause M = f_X11_fails M (nI f) (nI k) → s_X11_takeClause M → clR C0 M0 n k C M := fun f f1 f2 e1 e2 e3 => by
    obtain ⟨z1, z2⟩ := cl_f h hc f1 f2 e1 e2
    exact ⟨z1, e3, Or.inr z2⟩
  by_cases w114 : c = 114
  · subst w114
    rcases hR with rfl | hR
    · have e1 : f_X8_faultOfWord C 114 = 0 := by
        unfold f_X8_faultOfWord
        dsimp only
        rw [if_pos rfl, told_0 c35, if_pos rfl]
      have hl : f_X11_isFull M 0 = 0 := by
        unfold f_X11_isFull
        rw [if_pos rfl, m24]
        exact if_pos z00
      exact cg_rooms t h hk hc hh e1 hl (rooms_ok g1)
    · have e1 : f_X8_faultOfWord C 114 = nI 3 := by
        unfold f_X8_faultOfWord
        dsimp only
        rw [if_pos rfl, told_1 c35 hR hR6, if_neg (by decide)]
        rfl
      have hl : ¬ f_X11_isFull M 0 = 0 := by
        unfold f_X11_isFull
        have g : ¬ nI R ≤ (0 : Int32) := nI_ge (a := 0) (by omega) (by omega)
        rw [if_pos rfl, m24, if_neg g]
        decide
      refine fin 3 (by decide) (by decide) e1 ?_ ?_
      · exact (show f_X11_takeClause M = f_X11_fails M 3 (nI k) by rw [tc_eq, hh.1, tcl_114f hl, hp.2])
      · exact by
            unfold s_X11_takeClause
            rw [hh.1]
            dsimp only
            exact ⟨hh.2, ⟨fun _ => ⟨fun q => absurd q hl, fun _ => trivial⟩, fun q => absurd rfl q⟩⟩
  by_cases w98 : c = 98
  · subst w98
    rcases hR with rfl | hR
    · have m24z : M 127 24 = 0 := m24
      refine fin 1 (by decide) (by decide) ?_ ?_ ?_
      · unfold f_X8_faultOfWord
        dsimp only
        rw [if_neg (by decide), told_0 c35, if_pos rfl]
        rfl
      · exact (show f_X11_takeClause M = f_X11_fails M 1 (nI k) by rw [tc_eq, hh.1, tcl_98z m24z, hp.2])
      · exact by
            unfold s_X11_takeClause
            rw [hh.1]
            dsimp only
            exact ⟨hh.2, ⟨fun q => absurd q (by decide), fun _ => ⟨fun _ => ⟨fun _ => trivial, fun q => absurd m24 q⟩, fun q => absurd rfl q⟩⟩⟩
    · have h24 : ¬ M 127 24 = 0 := by rw [m24]; exact nI_ne0 (by omega) (by omega)
      by_cases cf : x7 < 9
      · have e1 : f_X8_faultOfWord C 98 = 0 := by
          unfold f_X8_faultOfWord
          dsimp only
          rw [if_neg (by decide), told_1 c35 hR hR6, if_neg (by decide), if_pos rfl, x72, if_pos (show nI x7 < (9 : Int32) from nI_lt (b := 9) cf (by decide))]
        have hl : f_X11_isFull M 1 = 0 := by
          unfold f_X11_isFull
          rw [if_neg (by decide), if_pos rfl, x73, if_neg (show ¬ nI x7 = (9 : Int32) from fun q => absurd (nI_inj (b := 9) (by omega) (by decide) q) (by omega))]
        exact cg_bench t h hk hc hh e1 h24 hl (bench_ok g1 ⟨x7, by omega, by rw [xu_ne (by decide)]; exact x72, by rw [xu_eq, upd_ne (by decide)]; exact x73⟩)
      · have hx : x7 = 9 := by omega
        have e1 : f_X8_faultOfWord C 98 = nI 3 := by
          unfold f_X8_faultOfWord
          dsimp only
          rw [if_neg (by decide), told_1 c35 hR hR6, if_neg (by decide), if_pos rfl, x72, if_neg (show ¬ nI x7 < (9 : Int32) from nI_nlt (b := 9) (by omega) (by omega))]
          rfl
        have hl : ¬ f_X11_isFull M 1 = 0 := by
          unfold f_X11_isFull
          rw [if_neg (by decide), if_pos rfl, x73, hx, if_pos (show nI 9 = (9 : Int32) from rfl)]
          decide
        refine fin 3 (by decide) (by decide) e1 ?_ ?_
        · exact (show f_X11_takeClause M = f_X11_fails M 3 (nI k) by rw [tc_eq, hh.1, tcl_98f h24 hl, hp.2])
        · exact by
            unfold s_X11_takeClause
            rw [hh.1]
            dsimp only
            exact ⟨hh.2, ⟨fun q => absurd q (by decide), fun _ => ⟨fun _ => ⟨fun q => absurd q h24, fun _ => ⟨fun q => absurd q hl, fun _ => trivial⟩⟩, fun q => absurd rfl q⟩⟩⟩
  by_cases w103 : c = 103
  · subst w103
    rcases hR with rfl | hR
    · have m24z : M 127 24 = 0 := m24
      refine fin 1 (by decide) (by decide) ?_ ?_ ?_
      · unfold f_X8_faultOfWord
        dsimp only
        rw [if_neg (by decide), told_0 c35, if_pos rfl]
        rfl
      · exact (show f_X11_takeClause M = f_X11_fails M 1 (nI k) by rw [tc_eq, hh.1, tcl_103z m24z, hp.2])
      · exact by
            unfold s_X11_takeClause
            rw [hh.1]
            dsimp only
            exact ⟨hh.2, ⟨fun q => absurd q (by decide), fun _ => ⟨fun q => absurd q (by decide), fun _ => ⟨fun _ => ⟨fun _ => trivial, fun q => absurd m24 q⟩, fun q => absurd rfl q⟩⟩⟩⟩
    · have h24 : ¬ M 127 24 = 0 := by rw [m24]; exact nI_ne0 (by omega) (by omega)
      by_cases cf : x8 < 9
      · have e1 : f_X8_faultOfWord C 103 = 0 := by
          unfold f_X8_faultOfWord
          dsimp only
          rw [if_neg (by decide), told_1 c35 hR hR6, if_neg (by decide), if_neg (by decide), if_pos rfl, x82, if_pos (show nI x8 < (9 : Int32) from nI_lt (b := 9) cf (by decide))]
        have hl : f_X11_isFull M 2 = 0 := by
          unfold f_X11_isFull
          rw [if_neg (by decide), if_neg (by decide), if_pos rfl, x83, if_neg (show ¬ nI x8 = (9 : Int32) from fun q => absurd (nI_inj (b := 9) (by omega) (by decide) q) (by omega))]
        exact cg_way t h hk hc hh e1 h24 hl (way_ok g1 ⟨x8, by omega, by rw [xu_ne (by decide)]; exact x82, by rw [xu_eq, upd_ne (by decide)]; exact x83⟩)
      · have hx : x8 = 9 := by omega
        have e1 : f_X8_faultOfWord C 103 = nI 3 := by
          unfold f_X8_faultOfWord
          dsimp only
          rw [if_neg (by decide), told_1 c35 hR hR6, if_neg (by decide), if_neg (by decide), if_pos rfl, x82, if_neg (show ¬ nI x8 < (9 : Int32) from nI_nlt (b := 9) (by omega) (by omega))]
          rfl
        have hl : ¬ f_X11_isFull M 2 = 0 := by
          unfold f_X11_isFull
          rw [if_neg (by decide), if_neg (by decide), if_pos rfl, x83, hx, if_pos (show nI 9 = (9 : Int32) from rfl)]
          decide
        refine fin 3 (by decide) (by decide) e1 ?_ ?_
        · exact (show f_X11_takeClause M = f_X11_fails M 3 (nI k) by rw [tc_eq, hh.1, tcl_103f h24 hl, hp.2])
        · exact by
            unfold s_X11_takeClause
            rw [hh.1]
            dsimp only
            exact ⟨hh.2, ⟨fun q => absurd q (by decide), fun _ => ⟨fun q => absurd q (by decide), fun _ => ⟨fun _ => ⟨fun q => absurd q h24, fun _ => ⟨fun q => absurd q hl, fun _ => trivial⟩⟩, fun q => absurd rfl q⟩⟩⟩⟩
  by_cases w112 : c = 112
  · subst w112
    rcases hR with rfl | hR
    · have m24z : M 127 24 = 0 := m24
      refine fin 1 (by decide) (by decide) ?_ ?_ ?_
      · unfold f_X8_faultOfWord
        dsimp only
        rw [if_neg (by decide), told_0 c35, if_pos rfl]
        rfl
      · exact (show f_X11_takeClause M = f_X11_fails M 1 (nI k) by rw [tc_eq, hh.1, tcl_112z m24z, hp.2])
      · exact by
            unfold s_X11_takeClause
            rw [hh.1]
            dsimp only
            exact ⟨hh.2, ⟨fun q => absurd q (by decide), fun _ => ⟨fun q => absurd q (by decide), fun _ => ⟨fun q => absurd q (by decide), fun _ => ⟨fun _ => ⟨fun _ => trivial, fun q => absurd m24 q⟩, fun q => absurd rfl q⟩⟩⟩⟩⟩
    · have h24 : ¬ M 127 24 = 0 := by rw [m24]; exact nI_ne0 (by omega) (by omega)
      by_cases cf : P < 7
      · have e1 : f_X8_faultOfWord C 112 = 0 := by
          unfold f_X8_faultOfWord
          dsimp only
          rw [if_neg (by decide), told_1 c35 hR hR6, if_neg (by decide), if_neg (by decide), if_neg (by decide), if_neg (by decide), if_pos rfl, c39, if_pos (show nI P < (7 : Int32) from nI_lt (b := 7) cf (by decide))]
        have hl : f_X11_isFull M 3 = 0 := by
          unfold f_X11_isFull
          rw [if_neg (by decide), if_neg (by decide), if_neg (by decide), if_pos rfl, m30, if_neg (show ¬ nI P = (7 : Int32) from fun q => absurd (nI_inj (b := 7) (by omega) (by decide) q) (by omega))]
        exact cg_per t h hk hc hh e1 h24 hl (per_ok g1 hR (by omega))
      · have hx : P = 7 := by omega
        have e1 : f_X8_faultOfWord C 112 = nI 3 := by
          unfold f_X8_faultOfWord
          dsimp only
          rw [if_neg (by decide), told_1 c35 hR hR6, if_neg (by decide), if_neg (by decide), if_neg (by decide), if_neg (by decide), if_pos rfl, c39, if_neg (show ¬ nI P < (7 : Int32) from nI_nlt (b := 7) (by omega) (by omega))]
          rfl
        have hl : ¬ f_X11_isFull M 3 = 0 := by
          unfold f_X11_isFull
          rw [if_neg (by decide), if_neg (by decide), if_neg (by decide), if_pos rfl, m30, hx, if_pos (show nI 7 = (7 : Int32) from rfl)]
          decide
        refine fin 3 (by decide) (by decide) e1 ?_ ?_
        · exact (show f_X11_takeClause M = f_X11_fails M 3 (nI k) by rw [tc_eq, hh.1, tcl_112f h24 hl, hp.2])
        · exact by
            unfold s_X11_takeClause
            rw [hh.1]
            dsimp only
            exact ⟨hh.2, ⟨fun q => absurd q (by decide), fun _ => ⟨fun q => absurd q (by decide), fun _ => ⟨fun q => absurd q (by decide), fun _ => ⟨fun _ => ⟨fun q => absurd q h24, fun _ => ⟨fun q => absurd q hl, fun _ => trivial⟩⟩, fun q => absurd rfl q⟩⟩⟩⟩⟩
  by_cases w108 : c = 108
  · subst w108
    rcases hR with rfl | hR
    · have m24z : M 127 24 = 0 := m24
      refine fin 1 (by decide) (by decide) ?_ ?_ ?_
      · unfold f_X8_faultOfWord
        dsimp only
        rw [if_neg (by decide), told_0 c35, if_pos rfl]
        rfl
      · exact (show f_X11_takeClause M = f_X11_fails M 1 (nI k) by rw [tc_eq, hh.1, tcl_108z m24z, hp.2])
      · exact by
            unfold s_X11_takeClause
            rw [hh.1]
            dsimp only
            exact ⟨hh.2, ⟨fun q => absurd q (by decide), fun _ => ⟨fun q => absurd q (by decide), fun _ => ⟨fun q => absurd q (by decide), fun _ => ⟨fun q => absurd q (by decide), fun _ => ⟨fun _ => ⟨fun _ => trivial, fun q => absurd m24 q⟩, fun q => absurd rfl q⟩⟩⟩⟩⟩⟩
    · have h24 : ¬ M 127 24 = 0 := by rw [m24]; exact nI_ne0 (by omega) (by omega)
      by_cases cf : x10 < 20
      · have e1 : f_X8_faultOfWord C 108 = 0 := by
          unfold f_X8_faultOfWord
          dsimp only
          rw [if_neg (by decide), told_1 c35 hR hR6, if_neg (by decide), if_neg (by decide), if_neg (by decide), if_pos rfl, x102, if_pos (show nI x10 < (20 : Int32) from nI_lt (b := 20) cf (by decide))]
        have hl : f_X11_isFull M 4 = 0 := by
          unfold f_X11_isFull
          rw [if_neg (by decide), if_neg (by decide), if_neg (by decide), if_neg (by decide), x103, if_neg (show ¬ nI x10 = (20 : Int32) from fun q => absurd (nI_inj (b := 20) (by omega) (by decide) q) (by omega))]
        exact cg_lik t h hk hc hh e1 h24 hl (lik_ok g1 ⟨x10, by omega, by rw [xu_eq, upd_ne (by decide)]; exact x103⟩)
      · have hx : x10 = 20 := by omega
        have e1 : f_X8_faultOfWord C 108 = nI 3 := by
          unfold f_X8_faultOfWord
          dsimp only
          rw [if_neg (by decide), told_1 c35 hR hR6, if_neg (by decide), if_neg (by decide), if_neg (by decide), if_pos rfl, x102, if_neg (show ¬ nI x10 < (20 : Int32) from nI_nlt (b := 20) (by omega) (by omega))]
          rfl
        have hl : ¬ f_X11_isFull M 4 = 0 := by
          unfold f_X11_isFull
          rw [if_neg (by decide), if_neg (by decide), if_neg (by decide), if_neg (by decide), x103, hx, if_pos (show nI 20 = (20 : Int32) from rfl)]
          decide
        refine fin 3 (by decide) (by decide) e1 ?_ ?_
        · exact (show f_X11_takeClause M = f_X11_fails M 3 (nI k) by rw [tc_eq, hh.1, tcl_108f h24 hl, hp.2])
        · exact by
            unfold s_X11_takeClause
            rw [hh.1]
            dsimp only
            exact ⟨hh.2, ⟨fun q => absurd q (by decide), fun _ => ⟨fun q => absurd q (by decide), fun _ => ⟨fun q => absurd q (by decide), fun _ => ⟨fun q => absurd q (by decide), fun _ => ⟨fun _ => ⟨fun q => absurd q h24, fun _ => ⟨fun q => absurd q hl, fun _ => trivial⟩⟩, fun q => absurd rfl q⟩⟩⟩⟩⟩⟩
  · refine fin 1 (by decide) (by decide) ?_ ?_ ?_
    · unfold f_X8_faultOfWord
      dsimp only
      rw [if_neg w114]
      rcases hR with rfl | hR
      · rw [told_0 c35, if_pos rfl]
        rfl
      · rw [told_1 c35 hR hR6, if_neg (by decide), if_neg w98, if_neg w103, if_neg w108, if_neg w112]
        rfl
    · exact (show f_X11_takeClause M = f_X11_fails M 1 (nI k) by rw [tc_eq, hh.1, tcl_x w114 w98 w103 w112 w108, hp.2])
    · unfold s_X11_takeClause
      rw [hh.1]
      exact ⟨hh.2, fun q => absurd q w114, fun _ => ⟨fun q => absurd q w98, fun _ => ⟨fun q => absurd q w103, fun _ => ⟨fun q => absurd q w112, fun _ => ⟨fun q => absurd q w108, fun _ => trivial⟩⟩⟩⟩⟩
theorem rd_f {T : xS} (h : ¬ T 1 3 = 0) (l : Nat) (x : Int32) : f_X8_read_L33 (l + 1) T x = T ∧ s_X8_read_L33 (l + 1) T x := by
  by_cases c1 : 240 ≤ x
  · simp only [f_X8_read_L33, s_X8_read_L33, c1, ↓reduceIte, eq_self, n10, not_true_eq_false, not_false_eq_true, true_implies, false_implies, true_and, and_true, implies_true, forall_const, Sum.elim_inl, Sum.elim_inr, and_self]
  · by_cases c2 : T 1 2 ≤ T 1 5
    · simp only [f_X8_read_L33, s_X8_read_L33, c1, c2, ↓reduceIte, eq_self, n10, not_true_eq_false, not_false_eq_true, true_implies, false_implies, true_and, and_true, implies_true, forall_const, Sum.elim_inl, Sum.elim_inr, and_self]
    · simp only [f_X8_read_L33, s_X8_read_L33, c1, c2, h, ↓reduceIte, eq_self, n10, not_true_eq_false, not_false_eq_true, true_implies, false_implies, true_and, and_true, implies_true, forall_const, Sum.elim_inl, Sum.elim_inr, and_self]
theorem hl_f (T : xS) {r : Int32} (h : ¬ r = 0) (l : Nat) : f_X11_hill_L91 (l + 1) T r = (r, T) ∧ s_X11_hill_L91 (l + 1) T r := by
  simp only [f_X11_hill_L91, s_X11_hill_L91, h, ↓reduceIte, eq_self, n10, not_true_eq_false, not_false_eq_true, true_implies, false_implies, true_and, and_true, implies_true, forall_const, Sum.elim_inl, Sum.elim_inr, and_self]
/-- the end of a text with a fault -/
def fz (C M : xS) (r : Int32) (C' M' : xS) : Prop := ∃ f x, 1 ≤ f ∧ f ≤ 4 ∧ x ≤ 1000 ∧ r = nI f ∧ C' 1 3 = nI f ∧ C' 1 4 = nI x ∧ M' 127 20 = nI x ∧ frC C C' ∧ frM M M'
theorem flx_s {C0 M0 C M : xS} {n : Nat} {r : Int32} (t : C0 1 2 = nI n) (hn : n ≤ 240) (h : flx C0 M0 r C M) : s_X8_skipBlanks C ∧ ¬ f_X8_skipBlanks C 1 3 = 0 ∧ ¬ r = 0 ∧ fz C0 M0 r (f_X8_skipBlanks C) M := by
  obtain ⟨f, x, k, h1, h2, h3, h4, h5, h6, h7, h8, h9, h10, h11⟩ := h
  obtain ⟨s1, k', -, s2, s3, -⟩ := skipD (C := C) (n := n) (k := k) (by rw [h10.2]; exact t) hn h9 (by omega)
  exact ⟨s1, by rw [s3 3 (by decide), h6]; exact nI_ne0 (by omega) (by omega), by rw [h5]; exact nI_ne0 (by omega) (by omega), f, x, h1, h2, h3, h5, by rw [s3 3 (by decide)]; exact h6, by rw [s3 4 (by decide)]; exact h7, h8, frC_t h10 (frC_1 s2 (s3 2 (by decide))), h11⟩
theorem read_ok {C0 M0 : xS} {n : Nat} (t : C0 1 2 = nI n) (hn : n ≤ 240) : ∀ (m i k R P l1 l2 : Nat) (C M : xS), n - k < m → i ≤ k → m ≤ l1 → m ≤ l2 → sd C0 M0 n k R P C M → s_X8_read_L33 l1 (f_X8_skipBlanks C) (nI i) ∧ s_X11_hill_L91 l2 M 0 ∧ (((f_X11_hill_L91 l2 M 0).1 = 0 ∧ ∃ k R P, sd C0 M0 n k R P (f_X8_read_L33 l1 (f_X8_skipBlanks C) (nI i)) (f_X11_hill_L91 l2 M 0).2) ∨ fz C0 M0 (f_X11_hill_L91 l2 M 0).1 (f_X8_read_L33 l1 (f_X8_skipBlanks C) (nI i)) (f_X11_hill_L91 l2 M 0).2)
  | 0, _, _, _, _, _, _, _, _, h, _, _, _, _ => absurd h (by omega)
  | m + 1, i, k, R, P, l1, l2, C, M, h1, h2, h3, h4, h => by
    obtain ⟨l1, rfl⟩ : ∃ l, l1 = l + 1 := ⟨l1 - 1, by omega⟩
    obtain ⟨l2, rfl⟩ : ∃ l, l2 = l + 1 := ⟨l2 - 1, by omega⟩
    obtain ⟨-, s2, k', m1, m2, g, m5, m6, m7⟩ := sd_s h
    generalize f_X8_skipBlanks C = A at g ⊢
    generalize hH : f_X11_here M = H at g m5 m7
    obtain ⟨H1, B⟩ := H
    dsimp only at g m5 m7
    have hp := g.2.2.1
    have hf := g.2.2.2.2.1
    by_cases c : k' < n
    · rw [if_pos c] at m5
      have nn : 0 ≤ (M 138 k').toInt := (h.1.2.2.2 k' c).2
      have e4 : ¬ H1 < 0 := by rw [m5, i_lt, i_0]; omega
      have e1 : ¬ A 1 2 ≤ A 1 5 := by rw [g.1.1, hp.1]; exact nI_ge c (by omega)
      by_cases e0 : (240 : Int32) ≤ nI i
      · exact absurd e0 (nI_ge (b := 240) (by omega) (by decide))
      obtain ⟨q1, q2, q3⟩ := clause_ok t g c (by rw [m7]; exact m6 c)
      have sM : ∀ r, (f_X11_takeClause B).1 = r → s_X11_hill_L91 l2 (f_X11_takeClause B).2 r → s_X11_hill_L91 (l2 + 1) M 0 := fun r hr z => by
        simp only [s_X11_hill_L91, hH, e4, s2, q2, hr, z, ↓reduceIte, eq_self, n10, not_true_eq_false, not_false_eq_true, true_implies, false_implies, true_and, and_true, implies_true, forall_const, Sum.elim_inl, Sum.elim_inr, and_self]
      have fM : ∀ r, (f_X11_takeClause B).1 = r → f_X11_hill_L91 (l2 + 1) M 0 = f_X11_hill_L91 l2 (f_X11_takeClause B).2 r := fun r hr => by
        simp only [f_X11_hill_L91, hH, e4, hr, ↓reduceIte, eq_self, n10, not_true_eq_false, not_false_eq_true, true_implies, false_implies, true_and, and_true, implies_true, forall_const, Sum.elim_inl, Sum.elim_inr, and_self]
      have fC : f_X8_read_L33 (l1 + 1) A (nI i) = f_X8_read_L33 l1 (f_X8_skipBlanks (f_X8_readClause A)) (nI (i + 1)) := by
        simp only [f_X8_read_L33, e0, e1, hf, nI_1, ↓reduceIte, eq_self, n10, not_true_eq_false, not_false_eq_true, true_implies, false_implies, true_and, and_true, implies_true, forall_const, Sum.elim_inl, Sum.elim_inr, and_self]
      have sC : s_X8_skipBlanks (f_X8_readClause A) → s_X8_read_L33 l1 (f_X8_skipBlanks (f_X8_readClause A)) (nI (i + 1)) → s_X8_read_L33 (l1 + 1) A (nI i) := fun z1 z2 => by
        simp only [s_X8_read_L33, e0, e1, hf, nI_1, q1, z1, z2, ↓reduceIte, eq_self, n10, not_true_eq_false, not_false_eq_true, true_implies, false_implies, true_and, and_true, implies_true, forall_const, Sum.elim_inl, Sum.elim_inr, and_self]
      rcases q3 with ⟨z1, k2, R', P', hk2, g2⟩ | g2
      · obtain ⟨r1, r2, r3⟩ := read_ok t hn m (i + 1) k2 R' P' l1 l2 (f_X8_readClause A) (f_X11_takeClause B).2 (by omega) (by omega) (by omega) (by omega) g2
        rw [fM 0 z1, fC]
        exact ⟨sC (sd_s g2).1 r1, sM 0 z1 r2, r3⟩
      · obtain ⟨y1, y2, y3, y4⟩ := flx_s t hn g2
        obtain ⟨l1, rfl⟩ : ∃ l, l1 = l + 1 := ⟨l1 - 1, by omega⟩
        obtain ⟨l2, rfl⟩ : ∃ l, l2 = l + 1 := ⟨l2 - 1, by omega⟩
        obtain ⟨w1, w2⟩ := rd_f y2 l1 (nI (i + 1))
        obtain ⟨w3, w4⟩ := hl_f (f_X11_takeClause B).2 y3 l2
        rw [fM _ rfl, fC, w1, w3]
        exact ⟨sC y1 w2, sM _ rfl w4, Or.inr y4⟩
    · rw [if_neg c] at m5
      subst m5
      have e1 : A 1 2 ≤ A 1 5 := by rw [g.1.1, hp.1]; exact nI_le (by omega) (by omega)
      have n1 : ((-1 : Int32) < 0) := by decide
      have fM : f_X11_hill_L91 (l2 + 1) M 0 = (0, B) := by
        simp only [f_X11_hill_L91, hH, n1, ↓reduceIte, eq_self, n10, not_true_eq_false, not_false_eq_true, true_implies, false_implies, true_and, and_true, implies_true, forall_const, Sum.elim_inl, Sum.elim_inr, and_self]
      have sM : s_X11_hill_L91 (l2 + 1) M 0 := by
        simp only [s_X11_hill_L91, hH, n1, s2, ↓reduceIte, eq_self, n10, not_true_eq_false, not_false_eq_true, true_implies, false_implies, true_and, and_true, implies_true, forall_const, Sum.elim_inl, Sum.elim_inr, and_self]
      have fC : f_X8_read_L33 (l1 + 1) A (nI i) = A ∧ s_X8_read_L33 (l1 + 1) A (nI i) := by
        by_cases e0 : (240 : Int32) ≤ nI i
        · simp only [f_X8_read_L33, s_X8_read_L33, e0, ↓reduceIte, eq_self, n10, not_true_eq_false, not_false_eq_true, true_implies, false_implies, true_and, and_true, implies_true, forall_const, Sum.elim_inl, Sum.elim_inr, and_self]
        · simp only [f_X8_read_L33, s_X8_read_L33, e0, e1, ↓reduceIte, eq_self, n10, not_true_eq_false, not_false_eq_true, true_implies, false_implies, true_and, and_true, implies_true, forall_const, Sum.elim_inl, Sum.elim_inr, and_self]
      rw [fM, fC.1]
      exact ⟨fC.2, sM, Or.inl ⟨rfl, k', R, P, g⟩⟩
