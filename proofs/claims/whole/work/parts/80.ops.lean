/-! open: feed, hill, fault, told, room, person, liking, said, hour, go, cough, like, drift, undo, warm, bestRoom, route, leavers, silent, carried, hale, note, thinks, ask, listens, write, tear, judge, seed, keep, goBack -/
theorem op_hill {S : xS} (h : xR S) : s_X10_hill S ∧ s_X11_hill ((f_X10_hill S).2) ∧ (f_X10_hill S).1 = (f_X11_hill ((f_X10_hill S).2)).1 ∧ xR ((f_X11_hill ((f_X10_hill S).2)).2) := sorry
theorem op_told {S : xS} (h : xR S) (p0 : Int32) : s_X10_told S p0 ∧ s_X11_told S p0 ∧ f_X10_told S p0 = (f_X11_told S p0) ∧ xR S := sorry
theorem op_room {S : xS} (h : xR S) (p0 p1 : Int32) : s_X10_room S p0 p1 ∧ s_X11_room S p0 p1 ∧ f_X10_room S p0 p1 = (f_X11_room S p0 p1) ∧ xR S := sorry
theorem op_person {S : xS} (h : xR S) (p0 p1 : Int32) : s_X11_person S p0 p1 ∧ f_X10_person S p0 p1 = (f_X11_person S p0 p1) ∧ xR S := sorry
theorem op_said {S : xS} (h : xR S) (p0 p1 p2 : Int32) : s_X11_said S p0 p1 p2 ∧ f_X10_said S p0 p1 p2 = (f_X11_said S p0 p1 p2) ∧ xR S := sorry
theorem op_hour {S : xS} (h : xR S) (p0 : Int32) : s_X10_hour S p0 ∧ s_X11_hour ((f_X10_hour S p0).2) p0 ∧ (f_X10_hour S p0).1 = (f_X11_hour ((f_X10_hour S p0).2) p0).1 ∧ xR ((f_X11_hour ((f_X10_hour S p0).2) p0).2) := sorry
theorem op_go {S : xS} (h : xR S) (p0 p1 : Int32) : s_X10_go S p0 p1 ∧ s_X11_go ((f_X10_go S p0 p1).2) p0 p1 ∧ (f_X10_go S p0 p1).1 = (f_X11_go ((f_X10_go S p0 p1).2) p0 p1).1 ∧ xR ((f_X11_go ((f_X10_go S p0 p1).2) p0 p1).2) := sorry
theorem op_cough {S : xS} (h : xR S) (p0 : Int32) : s_X10_cough S p0 ∧ s_X11_cough ((f_X10_cough S p0).2) p0 ∧ (f_X10_cough S p0).1 = (f_X11_cough ((f_X10_cough S p0).2) p0).1 ∧ xR ((f_X11_cough ((f_X10_cough S p0).2) p0).2) := sorry
theorem op_like {S : xS} (h : xR S) (p0 p1 p2 : Int32) : s_X10_like S p0 p1 p2 ∧ s_X11_like ((f_X10_like S p0 p1 p2).2) p0 p1 p2 ∧ (f_X10_like S p0 p1 p2).1 = (f_X11_like ((f_X10_like S p0 p1 p2).2) p0 p1 p2).1 ∧ xR ((f_X11_like ((f_X10_like S p0 p1 p2).2) p0 p1 p2).2) := sorry
theorem op_drift {S : xS} (h : xR S) (p0 : Int32) : s_X10_drift S p0 ∧ s_X11_drift ((f_X10_drift S p0).2) p0 ∧ (f_X10_drift S p0).1 = (f_X11_drift ((f_X10_drift S p0).2) p0).1 ∧ xR ((f_X11_drift ((f_X10_drift S p0).2) p0).2) := sorry
theorem op_undo {S : xS} (h : xR S) : s_X10_undo S ∧ s_X11_undo ((f_X10_undo S).2) ∧ (f_X10_undo S).1 = (f_X11_undo ((f_X10_undo S).2)).1 ∧ xR ((f_X11_undo ((f_X10_undo S).2)).2) := sorry
theorem op_warm {S : xS} (h : xR S) (p0 p1 : Int32) : s_X10_warm S p0 p1 ∧ s_X11_warm S p0 p1 ∧ f_X10_warm S p0 p1 = (f_X11_warm S p0 p1).1 ∧ xR ((f_X11_warm S p0 p1).2) := sorry
theorem op_bestRoom {S : xS} (h : xR S) (p0 p1 p2 : Int32) : s_X10_bestRoom S p0 p1 p2 ∧ s_X11_bestRoom S p0 p1 p2 ∧ f_X10_bestRoom S p0 p1 p2 = (f_X11_bestRoom S p0 p1 p2).1 ∧ xR ((f_X11_bestRoom S p0 p1 p2).2) := sorry
theorem op_route {S : xS} (h : xR S) (p0 p1 p2 : Int32) : s_X10_route S p0 p1 p2 ∧ s_X11_route ((f_X10_route S p0 p1 p2).2) p0 p1 p2 ∧ (f_X10_route S p0 p1 p2).1 = (f_X11_route ((f_X10_route S p0 p1 p2).2) p0 p1 p2).1 ∧ xR ((f_X11_route ((f_X10_route S p0 p1 p2).2) p0 p1 p2).2) := sorry
theorem op_leavers {S : xS} (h : xR S) (p0 p1 : Int32) : s_X10_leavers S p0 p1 ∧ s_X11_leavers S p0 p1 ∧ f_X10_leavers S p0 p1 = (f_X11_leavers S p0 p1).1 ∧ xR ((f_X11_leavers S p0 p1).2) := sorry
theorem op_silent {S : xS} (h : xR S) (p0 : Int32) : s_X10_silent S p0 ∧ s_X11_silent S p0 ∧ f_X10_silent S p0 = (f_X11_silent S p0) ∧ xR S := sorry
theorem op_carried {S : xS} (h : xR S) (p0 p1 : Int32) : s_X10_carried S p0 p1 ∧ s_X11_carried S p0 p1 ∧ f_X10_carried S p0 p1 = (f_X11_carried S p0 p1) ∧ xR S := sorry
theorem op_note {S : xS} (h : xR S) (p0 p1 p2 : Int32) (hz2 : p2 = 0 ∨ p2 = 1) : s_X11_note ((f_X10_note S p0 p1 p2).2) p0 p1 p2 ∧ (f_X10_note S p0 p1 p2).1 = (f_X11_note ((f_X10_note S p0 p1 p2).2) p0 p1 p2).1 ∧ xR ((f_X11_note ((f_X10_note S p0 p1 p2).2) p0 p1 p2).2) := sorry
theorem op_thinks {S : xS} (h : xR S) (p0 : Int32) : s_X10_thinks S p0 ∧ s_X11_thinks S p0 ∧ f_X10_thinks S p0 = (f_X11_thinks S p0) ∧ xR S := sorry
theorem op_ask {S : xS} (h : xR S) (p0 : Int32) : s_X10_ask S p0 ∧ s_X11_ask S p0 ∧ f_X10_ask S p0 = (f_X11_ask S p0) ∧ xR S := sorry
theorem op_listens {S : xS} (h : xR S) (p0 p1 p2 : Int32) : s_X10_listens S p0 p1 p2 ∧ s_X11_listens S p0 p1 p2 ∧ f_X10_listens S p0 p1 p2 = (f_X11_listens S p0 p1 p2).1 ∧ xR ((f_X11_listens S p0 p1 p2).2) := sorry
theorem op_write {S : xS} (h : xR S) (p0 p1 : Int32) : s_X11_write ((f_X10_write S p0 p1).2) p0 p1 ∧ (f_X10_write S p0 p1).1 = (f_X11_write ((f_X10_write S p0 p1).2) p0 p1).1 ∧ xR ((f_X11_write ((f_X10_write S p0 p1).2) p0 p1).2) := sorry
theorem op_judge {S : xS} (h : xR S) : s_X10_judge S ∧ s_X11_judge S ∧ f_X10_judge S = (f_X11_judge S) ∧ xR S := sorry
theorem op_keep {S : xS} (h : xR S) (p0 : Int32) : s_X10_keep S p0 ∧ s_X11_keep ((f_X10_keep S p0).2) p0 ∧ (f_X10_keep S p0).1 = (f_X11_keep ((f_X10_keep S p0).2) p0).1 ∧ xR ((f_X11_keep ((f_X10_keep S p0).2) p0).2) := sorry
theorem op_goBack {S : xS} (h : xR S) (p0 : Int32) : s_X10_goBack S p0 ∧ s_X11_goBack ((f_X10_goBack S p0).2) p0 ∧ (f_X10_goBack S p0).1 = (f_X11_goBack ((f_X10_goBack S p0).2) p0).1 ∧ xR ((f_X11_goBack ((f_X10_goBack S p0).2) p0).2) := sorry
