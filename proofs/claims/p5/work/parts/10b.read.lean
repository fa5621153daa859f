theorem u_X4_ofGoose_28 (h : HS)  : ok (f_X4_ofGoose_28 h ) (fun a => a.2 = h) := by
  unfold f_X4_ofGoose_28
  exact ok_some (rfl)
theorem u_X4_ofGoose (h : HS) (p1 : Int32) (p2 : Int32) : ok (f_X4_ofGoose h p1 p2) (fun a => a.2 = h) := by
  unfold f_X4_ofGoose
  refine ok_if (fun c1 => ?_) (fun c1 => ?_)
  · exact u_X4_ofGoose_28 h
  · refine ok_if (fun c2 => ?_) (fun c2 => ?_)
    · exact u_X4_ofGoose_28 h
    · refine ok_if (fun c3 => ?_) (fun c3 => ?_)
      · exact u_X4_ofGoose_28 h
      · refine ok_if (fun c4 => ?_) (fun c4 => ?_)
        · exact u_X4_ofGoose_28 h
        · refine ok_if (fun c5 => ?_) (fun c5 => ?_)
          · refine ok_chk (by have := gi_of_nlt c1; have := gi_of_nle c2; have := gi_of_nle c3; have := gi_of_nlt c4; have := gi_of_lt c5; have : (0 : Int32).toInt = 0 := (by decide); have : (10 : Int32).toInt = 10 := (by decide); have : (9 : Int32).toInt = 9 := (by decide); have := fb_mulI (x := p1) (y := 9) (by omega) (by omega); have := fb_addI (x := (p1 * 9)) (y := p2) (by omega) (by omega); omega) ?_
            exact ok_some (rfl)
          · exact u_X4_ofGoose_28 h
theorem u_X4_ofMarket_26 (h : HS)  : ok (f_X4_ofMarket_26 h ) (fun a => a.2 = h) := by
  unfold f_X4_ofMarket_26
  exact ok_some (rfl)
theorem u_X4_ofMarket (h : HS) (p1 : Int32) (p2 : Int32) : ok (f_X4_ofMarket h p1 p2) (fun a => a.2 = h) := by
  unfold f_X4_ofMarket
  refine ok_if (fun c1 => ?_) (fun c1 => ?_)
  · exact u_X4_ofMarket_26 h
  · refine ok_if (fun c2 => ?_) (fun c2 => ?_)
    · exact u_X4_ofMarket_26 h
    · refine ok_if (fun c3 => ?_) (fun c3 => ?_)
      · exact u_X4_ofMarket_26 h
      · refine ok_if (fun c4 => ?_) (fun c4 => ?_)
        · exact u_X4_ofMarket_26 h
        · refine ok_if (fun c5 => ?_) (fun c5 => ?_)
          · refine ok_chk (by have := gi_of_nlt c1; have := gi_of_nle c2; have := gi_of_nle c3; have := gi_of_nlt c4; have := gi_of_lt c5; have : (0 : Int32).toInt = 0 := (by decide); have : (3 : Int32).toInt = 3 := (by decide); have : (4 : Int32).toInt = 4 := (by decide); have := fb_mulI (x := p1) (y := 3) (by omega) (by omega); have := fb_addI (x := (p1 * 3)) (y := p2) (by omega) (by omega); omega) ?_
            exact ok_some (rfl)
          · exact u_X4_ofMarket_26 h
