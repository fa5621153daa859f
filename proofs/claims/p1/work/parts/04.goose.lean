def v_X8_isDigit (p1 : Int32) : Int32 := (if p1 < 0 then 0 else (if 9 < p1 then 0 else 1))
theorem vz_X8_isDigit (p1 : Int32) : v_X8_isDigit p1 = 0 ∨ v_X8_isDigit p1 = 1 := by
  unfold v_X8_isDigit
  (repeat' split) <;> first | exact Or.inl rfl | exact Or.inr rfl
set_option maxHeartbeats 4000000 in
set_option maxRecDepth 100000 in
theorem c_X8_isDigit (l : Launch) (G : va_G) (cI cJ cZ cB cT : ClassId) (p1 : Int32)  : gMi l yX8_isDigit (gws yX8_isDigit cX8_isDigit 1 (some .boolean)) 1 G (gT cI cJ cZ cB cT) [.int p1] [] (fun r (_ : Unit) => r = (v_X8_isDigit p1)) (fun (_ : Unit) => ([] : va_W)) := by
  intro sz
  refine gM_start (y := yX8_isDigit) (av := [.int p1]) (ws := []) (Qf := fun A => va_Qi (fun r (_ : Unit) => r = (v_X8_isDigit p1)) (gB G (fun (_ : Unit) => ([] : va_W)) A) A) (cc := cX8_isDigit) (maxL := 1) (ret := (some .boolean)) (by decide) (Nat.le_of_ble_eq_true rfl) ?_
  intro p e s m args below meth c A ls H hx hb hr hts hown hin hlocks hml hP hK hD hA hS hl
  have hl : lv_has ls 1 [(0, .int p1)] := hl
  refine lv_iload_n hx hb dX8_isDigit_0 rfl (lv_at hl 0 rfl) ?_
  refine lv_if_lt (tgt := 14) hx hb dX8_isDigit_1 (by decide) (fun c_1 => ?_) (fun c_1 => ?_)
  · refine lv_iconst (v := 0) hx hb dX8_isDigit_14 (by decide) ?_
    exact gw_zret () hx hb hr hlocks rfl hP hD hS (by rw [v_X8_isDigit, if_pos c_1]) dX8_isDigit_15
  · refine lv_iload_n hx hb dX8_isDigit_4 rfl (lv_at hl 0 rfl) ?_
    refine lv_bipush (v := 9) hx hb dX8_isDigit_5 (by decide) ?_
    refine lv_icmp_gt (tgt := 14) hx hb dX8_isDigit_7 (by decide) (fun c_2 => ?_) (fun c_2 => ?_)
    · refine lv_iconst (v := 0) hx hb dX8_isDigit_14 (by decide) ?_
      exact gw_zret () hx hb hr hlocks rfl hP hD hS (by rw [v_X8_isDigit, if_neg c_1, if_pos c_2]) dX8_isDigit_15
    · refine lv_iconst (v := 1) hx hb dX8_isDigit_10 (by decide) ?_
      refine lv_goto (tgt := 15) hx hb dX8_isDigit_11 (by decide) ?_
      exact gw_zret () hx hb hr hlocks rfl hP hD hS (by rw [v_X8_isDigit, if_neg c_1, if_neg c_2]) dX8_isDigit_15
def v_X8_isLetter (p1 : Int32) : Int32 := (if p1 < 0 then 0 else (if 6 ≤ p1 then 0 else 1))
theorem vz_X8_isLetter (p1 : Int32) : v_X8_isLetter p1 = 0 ∨ v_X8_isLetter p1 = 1 := by
  unfold v_X8_isLetter
  (repeat' split) <;> first | exact Or.inl rfl | exact Or.inr rfl
set_option maxHeartbeats 4000000 in
set_option maxRecDepth 100000 in
theorem c_X8_isLetter (l : Launch) (G : va_G) (cI cJ cZ cB cT : ClassId) (p1 : Int32)  : gMi l yX8_isLetter (gws yX8_isLetter cX8_isLetter 1 (some .boolean)) 1 G (gT cI cJ cZ cB cT) [.int p1] [] (fun r (_ : Unit) => r = (v_X8_isLetter p1)) (fun (_ : Unit) => ([] : va_W)) := by
  intro sz
  refine gM_start (y := yX8_isLetter) (av := [.int p1]) (ws := []) (Qf := fun A => va_Qi (fun r (_ : Unit) => r = (v_X8_isLetter p1)) (gB G (fun (_ : Unit) => ([] : va_W)) A) A) (cc := cX8_isLetter) (maxL := 1) (ret := (some .boolean)) (by decide) (Nat.le_of_ble_eq_true rfl) ?_
  intro p e s m args below meth c A ls H hx hb hr hts hown hin hlocks hml hP hK hD hA hS hl
  have hl : lv_has ls 1 [(0, .int p1)] := hl
  refine lv_iload_n hx hb dX8_isLetter_0 rfl (lv_at hl 0 rfl) ?_
  refine lv_if_lt (tgt := 14) hx hb dX8_isLetter_1 (by decide) (fun c_1 => ?_) (fun c_1 => ?_)
  · refine lv_iconst (v := 0) hx hb dX8_isLetter_14 (by decide) ?_
    exact gw_zret () hx hb hr hlocks rfl hP hD hS (by rw [v_X8_isLetter, if_pos c_1]) dX8_isLetter_15
  · refine lv_iload_n hx hb dX8_isLetter_4 rfl (lv_at hl 0 rfl) ?_
    refine lv_bipush (v := 6) hx hb dX8_isLetter_5 (by decide) ?_
    refine lv_icmp_ge (tgt := 14) hx hb dX8_isLetter_7 (by decide) (fun c_2 => ?_) (fun c_2 => ?_)
    · refine lv_iconst (v := 0) hx hb dX8_isLetter_14 (by decide) ?_
      exact gw_zret () hx hb hr hlocks rfl hP hD hS (by rw [v_X8_isLetter, if_neg c_1, if_pos c_2]) dX8_isLetter_15
    · refine lv_iconst (v := 1) hx hb dX8_isLetter_10 (by decide) ?_
      refine lv_goto (tgt := 15) hx hb dX8_isLetter_11 (by decide) ?_
      exact gw_zret () hx hb hr hlocks rfl hP hD hS (by rw [v_X8_isLetter, if_neg c_1, if_neg c_2]) dX8_isLetter_15
def v_X8_isQuill (p1 : Int32) (p2 : Int32) : Int32 := (if (v_X8_isLetter p1) = 0 then 0 else (if p2 < 0 then 0 else (if 3 ≤ p2 then 0 else 1)))
theorem vz_X8_isQuill (p1 : Int32) (p2 : Int32) : v_X8_isQuill p1 p2 = 0 ∨ v_X8_isQuill p1 p2 = 1 := by
  unfold v_X8_isQuill
  (repeat' split) <;> first | exact Or.inl rfl | exact Or.inr rfl
theorem e_X8_isLetter : yX8_isLetter.cls = RX8 ∧ yX8_isLetter.cls ≠ "java/lang/invoke/MethodHandle" ∧ yX8_isLetter.cls ≠ "java/lang/invoke/VarHandle" ∧ (parseMethodDescriptor yX8_isLetter.desc).map (fun d => d.parameters.length) = some 1 := by decide +kernel
set_option maxHeartbeats 4000000 in
set_option maxRecDepth 100000 in
theorem c_X8_isQuill (l : Launch) (G : va_G) (cI cJ cZ cB cT : ClassId) (p1 : Int32) (p2 : Int32)  : gMi l yX8_isQuill (gws yX8_isQuill cX8_isQuill 2 (some .boolean)) 2 G (gT cI cJ cZ cB cT) [.int p1, .int p2] [] (fun r (_ : Unit) => r = (v_X8_isQuill p1 p2)) (fun (_ : Unit) => ([] : va_W)) := by
  intro sz
  refine gM_start (y := yX8_isQuill) (av := [.int p1, .int p2]) (ws := []) (Qf := fun A => va_Qi (fun r (_ : Unit) => r = (v_X8_isQuill p1 p2)) (gB G (fun (_ : Unit) => ([] : va_W)) A) A) (cc := cX8_isQuill) (maxL := 2) (ret := (some .boolean)) (by decide) (Nat.le_of_ble_eq_true rfl) ?_
  intro p e s m args below meth c A ls H hx hb hr hts hown hin hlocks hml hP hK hD hA hS hl
  have hl : lv_has ls 2 [(0, .int p1), (1, .int p2)] := hl
  refine lv_iload_n hx hb dX8_isQuill_0 rfl (lv_at hl 0 rfl) ?_
  refine gw_calli (gw_runS (As := [.int p1]) (rest := []) ⟨hx, hb, hml, hown, hts⟩ (c_X8_isLetter l G cI cJ cZ cB cT p1  H.size) (gG_S m_43 m_44 m_45 m_42) rfl e_X8_isLetter ⟨Nat.le_of_ble_eq_true rfl, Nat.le_of_ble_eq_true rfl⟩ hK hP hD [] rfl (by decide) rfl rfl hl.1 rfl (Nat.le_of_ble_eq_true rfl) dX8_isQuill_1 ⟨Nat.le_of_ble_eq_true rfl, Nat.le_of_ble_eq_true rfl⟩) hP hD hS hA [] [] rfl rfl (by decide) (by decide) (fun r_1 u_1 H locs hw_1 hP hD hS => ?_)
  subst hw_1
  have hP : va_P G vwCl [] H := hP
  have hD : va_D A [] := hD
  refine lv_if_eq (tgt := 20) hx hb dX8_isQuill_4 (by decide) (fun c_2 => ?_) (fun c_2 => ?_)
  · refine lv_iconst (v := 0) hx hb dX8_isQuill_20 (by decide) ?_
    exact gw_zret () hx hb hr hlocks rfl hP hD hS (by rw [v_X8_isQuill, if_pos c_2]) dX8_isQuill_21
  · refine lv_iload_n hx hb dX8_isQuill_7 rfl (lv_at hl 1 rfl) ?_
    refine lv_if_lt (tgt := 20) hx hb dX8_isQuill_8 (by decide) (fun c_3 => ?_) (fun c_3 => ?_)
    · refine lv_iconst (v := 0) hx hb dX8_isQuill_20 (by decide) ?_
      exact gw_zret () hx hb hr hlocks rfl hP hD hS (by rw [v_X8_isQuill, if_neg c_2, if_pos c_3]) dX8_isQuill_21
    · refine lv_iload_n hx hb dX8_isQuill_11 rfl (lv_at hl 1 rfl) ?_
      refine lv_iconst (v := 3) hx hb dX8_isQuill_12 (by decide) ?_
      refine lv_icmp_ge (tgt := 20) hx hb dX8_isQuill_13 (by decide) (fun c_4 => ?_) (fun c_4 => ?_)
      · refine lv_iconst (v := 0) hx hb dX8_isQuill_20 (by decide) ?_
        exact gw_zret () hx hb hr hlocks rfl hP hD hS (by rw [v_X8_isQuill, if_neg c_2, if_neg c_3, if_pos c_4]) dX8_isQuill_21
      · refine lv_iconst (v := 1) hx hb dX8_isQuill_16 (by decide) ?_
        refine lv_goto (tgt := 21) hx hb dX8_isQuill_17 (by decide) ?_
        exact gw_zret () hx hb hr hlocks rfl hP hD hS (by rw [v_X8_isQuill, if_neg c_2, if_neg c_3, if_neg c_4]) dX8_isQuill_21
def v_X8_market (p1 : Int32) (p2 : Int32) (p3 : Int32) : Int32 := (if p1 < 1 then (-1) else (if 9 < p1 then (-1) else (if (v_X8_isDigit p2) = 0 then (-1) else (if (v_X8_isDigit p3) = 0 then (-1) else 0))))
theorem e_X4_addMarket : yX4_addMarket.cls = RX4 ∧ yX4_addMarket.cls ≠ "java/lang/invoke/MethodHandle" ∧ yX4_addMarket.cls ≠ "java/lang/invoke/VarHandle" ∧ (parseMethodDescriptor yX4_addMarket.desc).map (fun d => d.parameters.length) = some 3 := by decide +kernel
theorem e_X8_isDigit : yX8_isDigit.cls = RX8 ∧ yX8_isDigit.cls ≠ "java/lang/invoke/MethodHandle" ∧ yX8_isDigit.cls ≠ "java/lang/invoke/VarHandle" ∧ (parseMethodDescriptor yX8_isDigit.desc).map (fun d => d.parameters.length) = some 1 := by decide +kernel
set_option maxHeartbeats 4000000 in
set_option maxRecDepth 100000 in
theorem c_X8_market (l : Launch) (G : va_G) (cI cJ cZ cB cT : ClassId) (q : Nat → Nat) (p1 : Int32) (p2 : Int32) (p3 : Int32)  : gMi l yX8_market (gws yX8_market cX8_market 4 (some .int)) 2 G (gT cI cJ cZ cB cT) [.ref (q 0), .int p1, .int p2, .int p3] [((q 0), .inr (8, [.ref (q 1), .ref (q 5), .ref (q 9), .ref (q 11), .ref (q 15), .ref (q 16), .ref (q 20), .ref (q 23)])), ((q 1), .inr (4, [.ref (q 2), .ref (q 3), .ref (q 4), .int 0, .int 0, .int 0, .int 0, .int 0, .int 9, .int 0, .int (-1), .int 0, .int 0])), ((q 2), .inl (cI, 90, .inl (fun _ => 0))), ((q 3), .inl (cI, 12, .inl (fun _ => 0))), ((q 4), .inl (cI, 1880, .inl (fun _ => 0)))] (fun r (_ : Unit) => r = (v_X8_market p1 p2 p3)) (fun (_ : Unit) => ([] : va_W)) := by
  intro sz
  refine gM_start (y := yX8_market) (av := [.ref (q 0), .int p1, .int p2, .int p3]) (ws := [((q 0), .inr (8, [.ref (q 1), .ref (q 5), .ref (q 9), .ref (q 11), .ref (q 15), .ref (q 16), .ref (q 20), .ref (q 23)])), ((q 1), .inr (4, [.ref (q 2), .ref (q 3), .ref (q 4), .int 0, .int 0, .int 0, .int 0, .int 0, .int 9, .int 0, .int (-1), .int 0, .int 0])), ((q 2), .inl (cI, 90, .inl (fun _ => 0))), ((q 3), .inl (cI, 12, .inl (fun _ => 0))), ((q 4), .inl (cI, 1880, .inl (fun _ => 0)))]) (Qf := fun A => va_Qi (fun r (_ : Unit) => r = (v_X8_market p1 p2 p3)) (gB G (fun (_ : Unit) => ([] : va_W)) A) A) (cc := cX8_market) (maxL := 4) (ret := (some .int)) (by decide) (Nat.le_of_ble_eq_true rfl) ?_
  intro p e s m args below meth c A ls H hx hb hr hts hown hin hlocks hml hP hK hD hA hS hl
  have hl : lv_has ls 4 [(0, .ref (q 0)), (1, .int p1), (2, .int p2), (3, .int p3)] := hl
  refine lv_iload_n hx hb dX8_market_0 rfl (lv_at hl 1 rfl) ?_
  refine lv_iconst (v := 1) hx hb dX8_market_1 (by decide) ?_
  refine lv_icmp_lt (tgt := 25) hx hb dX8_market_2 (by decide) (fun c_1 => ?_) (fun c_1 => ?_)
  · refine lv_iconst (v := (-1)) hx hb dX8_market_25 (by decide) ?_
    exact gw_iret () hx hb hr hlocks (hP.sub [] rfl) (hD.sub [] (by decide) rfl) hS (by rw [v_X8_market, if_pos c_1]) dX8_market_26
  · refine lv_iload_n hx hb dX8_market_5 rfl (lv_at hl 1 rfl) ?_
    refine lv_bipush (v := 9) hx hb dX8_market_6 (by decide) ?_
    refine lv_icmp_gt (tgt := 25) hx hb dX8_market_8 (by decide) (fun c_2 => ?_) (fun c_2 => ?_)
    · refine lv_iconst (v := (-1)) hx hb dX8_market_25 (by decide) ?_
      exact gw_iret () hx hb hr hlocks (hP.sub [] rfl) (hD.sub [] (by decide) rfl) hS (by rw [v_X8_market, if_neg c_1, if_pos c_2]) dX8_market_26
    · refine lv_iload_n hx hb dX8_market_11 rfl (lv_at hl 2 rfl) ?_
      refine gw_calli (gw_runS (As := [.int p2]) (rest := []) ⟨hx, hb, hml, hown, hts⟩ (c_X8_isDigit l G cI cJ cZ cB cT p2  H.size) (gG_S m_47 m_48 m_45 m_46) rfl e_X8_isDigit ⟨Nat.le_of_ble_eq_true rfl, Nat.le_of_ble_eq_true rfl⟩ hK hP hD [] rfl (by decide) rfl rfl hl.1 rfl (Nat.le_of_ble_eq_true rfl) dX8_market_12 ⟨Nat.le_of_ble_eq_true rfl, Nat.le_of_ble_eq_true rfl⟩) hP hD hS hA [] [0, 1, 2, 3, 4] rfl rfl (by decide) (by decide) (fun r_3 u_3 H locs hw_3 hP hD hS => ?_)
      subst hw_3
      have hP : va_P G vwCl [((q 0), .inr (8, [.ref (q 1), .ref (q 5), .ref (q 9), .ref (q 11), .ref (q 15), .ref (q 16), .ref (q 20), .ref (q 23)])), ((q 1), .inr (4, [.ref (q 2), .ref (q 3), .ref (q 4), .int 0, .int 0, .int 0, .int 0, .int 0, .int 9, .int 0, .int (-1), .int 0, .int 0])), ((q 2), .inl (cI, 90, .inl (fun _ => 0))), ((q 3), .inl (cI, 12, .inl (fun _ => 0))), ((q 4), .inl (cI, 1880, .inl (fun _ => 0)))] H := hP
      have hD : va_D A [((q 0), .inr (8, [.ref (q 1), .ref (q 5), .ref (q 9), .ref (q 11), .ref (q 15), .ref (q 16), .ref (q 20), .ref (q 23)])), ((q 1), .inr (4, [.ref (q 2), .ref (q 3), .ref (q 4), .int 0, .int 0, .int 0, .int 0, .int 0, .int 9, .int 0, .int (-1), .int 0, .int 0])), ((q 2), .inl (cI, 90, .inl (fun _ => 0))), ((q 3), .inl (cI, 12, .inl (fun _ => 0))), ((q 4), .inl (cI, 1880, .inl (fun _ => 0)))] := hD
      refine lv_if_eq (tgt := 25) hx hb dX8_market_15 (by decide) (fun c_4 => ?_) (fun c_4 => ?_)
      · refine lv_iconst (v := (-1)) hx hb dX8_market_25 (by decide) ?_
        exact gw_iret () hx hb hr hlocks (hP.sub [] rfl) (hD.sub [] (by decide) rfl) hS (by rw [v_X8_market, if_neg c_1, if_neg c_2, if_pos c_4]) dX8_market_26
      · refine lv_iload_n hx hb dX8_market_18 rfl (lv_at hl 3 rfl) ?_
        refine gw_calli (gw_runS (As := [.int p3]) (rest := []) ⟨hx, hb, hml, hown, hts⟩ (c_X8_isDigit l G cI cJ cZ cB cT p3  H.size) (gG_S m_47 m_48 m_45 m_46) rfl e_X8_isDigit ⟨Nat.le_of_ble_eq_true rfl, Nat.le_of_ble_eq_true rfl⟩ hK hP hD [] rfl (by decide) rfl rfl hl.1 rfl (Nat.le_of_ble_eq_true rfl) dX8_market_19 ⟨Nat.le_of_ble_eq_true rfl, Nat.le_of_ble_eq_true rfl⟩) hP hD hS hA [] [0, 1, 2, 3, 4] rfl rfl (by decide) (by decide) (fun r_5 u_5 H locs hw_5 hP hD hS => ?_)
        subst hw_5
        have hP : va_P G vwCl [((q 0), .inr (8, [.ref (q 1), .ref (q 5), .ref (q 9), .ref (q 11), .ref (q 15), .ref (q 16), .ref (q 20), .ref (q 23)])), ((q 1), .inr (4, [.ref (q 2), .ref (q 3), .ref (q 4), .int 0, .int 0, .int 0, .int 0, .int 0, .int 9, .int 0, .int (-1), .int 0, .int 0])), ((q 2), .inl (cI, 90, .inl (fun _ => 0))), ((q 3), .inl (cI, 12, .inl (fun _ => 0))), ((q 4), .inl (cI, 1880, .inl (fun _ => 0)))] H := hP
        have hD : va_D A [((q 0), .inr (8, [.ref (q 1), .ref (q 5), .ref (q 9), .ref (q 11), .ref (q 15), .ref (q 16), .ref (q 20), .ref (q 23)])), ((q 1), .inr (4, [.ref (q 2), .ref (q 3), .ref (q 4), .int 0, .int 0, .int 0, .int 0, .int 0, .int 9, .int 0, .int (-1), .int 0, .int 0])), ((q 2), .inl (cI, 90, .inl (fun _ => 0))), ((q 3), .inl (cI, 12, .inl (fun _ => 0))), ((q 4), .inl (cI, 1880, .inl (fun _ => 0)))] := hD
        refine lv_if_ne (tgt := 27) hx hb dX8_market_22 (by decide) (fun c_6 => ?_) (fun c_6 => ?_)
        · refine lv_aload_n hx hb dX8_market_27 rfl (lv_at hl 0 rfl) ?_
          refine va_get (D := G) (ci := 8) (v := .ref (q 1)) (C := RX8) (T := TX8) (N := 8) hx hb hts iX8 hown hK hP 0 rfl rfl 0 (by decide) (hts _ m_49) (fun _ h9 => h9) rfl dX8_market_28 ?_
          refine lv_iload_n hx hb dX8_market_31 rfl (lv_at hl 1 rfl) ?_
          refine lv_iload_n hx hb dX8_market_32 rfl (lv_at hl 2 rfl) ?_
          refine lv_iload_n hx hb dX8_market_33 rfl (lv_at hl 3 rfl) ?_
          refine gw_calli (gw_runV (As := [.int p1, .int p2, .int p3]) (rest := []) ⟨hx, hb, hml, hown, hts⟩ (c_addMarket0 l G cI cJ cZ cB cT (q 1) (q 2) (q 3) (q 4) (fun _ => 0) (fun _ => 0) (fun _ => 0) p1 p2 p3  H.size) (gG_V m_51 m_52 m_53 m_6 m_50) rfl e_X4_addMarket ⟨Nat.le_of_ble_eq_true rfl, Nat.le_of_ble_eq_true rfl⟩ hK hP hD [1, 2, 3, 4] rfl (by decide) rfl 0 rfl rfl rfl hl.1 rfl (Nat.le_of_ble_eq_true rfl) dX8_market_34 ⟨Nat.le_of_ble_eq_true rfl, Nat.le_of_ble_eq_true rfl⟩) hP hD hS hA [1, 2, 3, 4] [0] rfl rfl (by decide) (by decide) (fun r_7 u_7 H locs hw_7 hP hD hS => ?_)
          subst hw_7
          have hP : va_P G vwCl [((q 0), .inr (8, [.ref (q 1), .ref (q 5), .ref (q 9), .ref (q 11), .ref (q 15), .ref (q 16), .ref (q 20), .ref (q 23)]))] H := hP
          have hD : va_D A [((q 0), .inr (8, [.ref (q 1), .ref (q 5), .ref (q 9), .ref (q 11), .ref (q 15), .ref (q 16), .ref (q 20), .ref (q 23)]))] := hD
          exact gw_iret () hx hb hr hlocks (hP.sub [] rfl) (hD.sub [] (by decide) rfl) hS (by rw [v_X8_market, if_neg c_1, if_neg c_2, if_neg c_4, if_neg c_6]) dX8_market_37
        · refine lv_iconst (v := (-1)) hx hb dX8_market_25 (by decide) ?_
          exact gw_iret () hx hb hr hlocks (hP.sub [] rfl) (hD.sub [] (by decide) rfl) hS (by rw [v_X8_market, if_neg c_1, if_neg c_2, if_neg c_4, if_pos c_6]) dX8_market_26
def v_X8_goose (p1 : Int32) (p2 : Int32) : Int32 := (if p1 < 1 then (-1) else (if 20 < p1 then (-1) else (if p2 < 0 then (-1) else (if p2 ≤ 99 then 0 else (-1)))))
theorem e_X4_addGoose : yX4_addGoose.cls = RX4 ∧ yX4_addGoose.cls ≠ "java/lang/invoke/MethodHandle" ∧ yX4_addGoose.cls ≠ "java/lang/invoke/VarHandle" ∧ (parseMethodDescriptor yX4_addGoose.desc).map (fun d => d.parameters.length) = some 2 := by decide +kernel
set_option maxHeartbeats 4000000 in
set_option maxRecDepth 100000 in
theorem c_X8_goose (l : Launch) (G : va_G) (cI cJ cZ cB cT : ClassId) (q : Nat → Nat) (p1 : Int32) (p2 : Int32)  : gMi l yX8_goose (gws yX8_goose cX8_goose 3 (some .int)) 4 G (gT cI cJ cZ cB cT) [.ref (q 0), .int p1, .int p2] [((q 0), .inr (8, [.ref (q 1), .ref (q 5), .ref (q 9), .ref (q 11), .ref (q 15), .ref (q 16), .ref (q 20), .ref (q 23)])), ((q 1), .inr (4, [.ref (q 2), .ref (q 3), .ref (q 4), .int 0, .int 0, .int 0, .int 0, .int 0, .int 9, .int 0, .int (-1), .int 0, .int 0])), ((q 2), .inl (cI, 90, .inl (fun _ => 0))), ((q 3), .inl (cI, 12, .inl (fun _ => 0))), ((q 4), .inl (cI, 1880, .inl (fun _ => 0)))] (fun r (_ : Unit) => r = (v_X8_goose p1 p2)) (fun (_ : Unit) => ([] : va_W)) := by
  intro sz
  refine gM_start (y := yX8_goose) (av := [.ref (q 0), .int p1, .int p2]) (ws := [((q 0), .inr (8, [.ref (q 1), .ref (q 5), .ref (q 9), .ref (q 11), .ref (q 15), .ref (q 16), .ref (q 20), .ref (q 23)])), ((q 1), .inr (4, [.ref (q 2), .ref (q 3), .ref (q 4), .int 0, .int 0, .int 0, .int 0, .int 0, .int 9, .int 0, .int (-1), .int 0, .int 0])), ((q 2), .inl (cI, 90, .inl (fun _ => 0))), ((q 3), .inl (cI, 12, .inl (fun _ => 0))), ((q 4), .inl (cI, 1880, .inl (fun _ => 0)))]) (Qf := fun A => va_Qi (fun r (_ : Unit) => r = (v_X8_goose p1 p2)) (gB G (fun (_ : Unit) => ([] : va_W)) A) A) (cc := cX8_goose) (maxL := 3) (ret := (some .int)) (by decide) (Nat.le_of_ble_eq_true rfl) ?_
  intro p e s m args below meth c A ls H hx hb hr hts hown hin hlocks hml hP hK hD hA hS hl
  have hl : lv_has ls 3 [(0, .ref (q 0)), (1, .int p1), (2, .int p2)] := hl
  refine lv_iload_n hx hb dX8_goose_0 rfl (lv_at hl 1 rfl) ?_
  refine lv_iconst (v := 1) hx hb dX8_goose_1 (by decide) ?_
  refine lv_icmp_lt (tgt := 21) hx hb dX8_goose_2 (by decide) (fun c_1 => ?_) (fun c_1 => ?_)
  · refine lv_iconst (v := (-1)) hx hb dX8_goose_21 (by decide) ?_
    exact gw_iret () hx hb hr hlocks (hP.sub [] rfl) (hD.sub [] (by decide) rfl) hS (by rw [v_X8_goose, if_pos c_1]) dX8_goose_22
  · refine lv_iload_n hx hb dX8_goose_5 rfl (lv_at hl 1 rfl) ?_
    refine lv_bipush (v := 20) hx hb dX8_goose_6 (by decide) ?_
    refine lv_icmp_gt (tgt := 21) hx hb dX8_goose_8 (by decide) (fun c_2 => ?_) (fun c_2 => ?_)
    · refine lv_iconst (v := (-1)) hx hb dX8_goose_21 (by decide) ?_
      exact gw_iret () hx hb hr hlocks (hP.sub [] rfl) (hD.sub [] (by decide) rfl) hS (by rw [v_X8_goose, if_neg c_1, if_pos c_2]) dX8_goose_22
    · refine lv_iload_n hx hb dX8_goose_11 rfl (lv_at hl 2 rfl) ?_
      refine lv_if_lt (tgt := 21) hx hb dX8_goose_12 (by decide) (fun c_3 => ?_) (fun c_3 => ?_)
      · refine lv_iconst (v := (-1)) hx hb dX8_goose_21 (by decide) ?_
        exact gw_iret () hx hb hr hlocks (hP.sub [] rfl) (hD.sub [] (by decide) rfl) hS (by rw [v_X8_goose, if_neg c_1, if_neg c_2, if_pos c_3]) dX8_goose_22
      · refine lv_iload_n hx hb dX8_goose_15 rfl (lv_at hl 2 rfl) ?_
        refine lv_bipush (v := 99) hx hb dX8_goose_16 (by decide) ?_
        refine lv_icmp_le (tgt := 23) hx hb dX8_goose_18 (by decide) (fun c_4 => ?_) (fun c_4 => ?_)
        · refine lv_aload_n hx hb dX8_goose_23 rfl (lv_at hl 0 rfl) ?_
          refine va_get (D := G) (ci := 8) (v := .ref (q 1)) (C := RX8) (T := TX8) (N := 8) hx hb hts iX8 hown hK hP 0 rfl rfl 0 (by decide) (hts _ m_49) (fun _ h9 => h9) rfl dX8_goose_24 ?_
          refine lv_iload_n hx hb dX8_goose_27 rfl (lv_at hl 1 rfl) ?_
          refine lv_iload_n hx hb dX8_goose_28 rfl (lv_at hl 2 rfl) ?_
          refine gw_calli (gw_runV (As := [.int p1, .int p2]) (rest := []) ⟨hx, hb, hml, hown, hts⟩ (c_addGoose0 l G cI cJ cZ cB cT (q 1) (q 2) (q 3) (q 4) (fun _ => 0) (fun _ => 0) (fun _ => 0) p1 p2  H.size) (gG_V m_55 m_56 m_57 m_6 m_54) rfl e_X4_addGoose ⟨Nat.le_of_ble_eq_true rfl, Nat.le_of_ble_eq_true rfl⟩ hK hP hD [1, 2, 3, 4] rfl (by decide) rfl 0 rfl rfl rfl hl.1 rfl (Nat.le_of_ble_eq_true rfl) dX8_goose_29 ⟨Nat.le_of_ble_eq_true rfl, Nat.le_of_ble_eq_true rfl⟩) hP hD hS hA [1, 2, 3, 4] [0] rfl rfl (by decide) (by decide) (fun r_5 u_5 H locs hw_5 hP hD hS => ?_)
          subst hw_5
          have hP : va_P G vwCl [((q 0), .inr (8, [.ref (q 1), .ref (q 5), .ref (q 9), .ref (q 11), .ref (q 15), .ref (q 16), .ref (q 20), .ref (q 23)]))] H := hP
          have hD : va_D A [((q 0), .inr (8, [.ref (q 1), .ref (q 5), .ref (q 9), .ref (q 11), .ref (q 15), .ref (q 16), .ref (q 20), .ref (q 23)]))] := hD
          exact gw_iret () hx hb hr hlocks (hP.sub [] rfl) (hD.sub [] (by decide) rfl) hS (by rw [v_X8_goose, if_neg c_1, if_neg c_2, if_neg c_3, if_pos c_4]) dX8_goose_32
        · refine lv_iconst (v := (-1)) hx hb dX8_goose_21 (by decide) ?_
          exact gw_iret () hx hb hr hlocks (hP.sub [] rfl) (hD.sub [] (by decide) rfl) hS (by rw [v_X8_goose, if_neg c_1, if_neg c_2, if_neg c_3, if_neg c_4]) dX8_goose_22
def v_X8_store (p1 : Int32) (p2 : Int32) : Int32 := (if p1 < 0 then 0 else (if 9999 < p1 then 0 else (if p2 < 0 then 0 else (if p2 ≤ 99 then 1 else 0))))
theorem vz_X8_store (p1 : Int32) (p2 : Int32) : v_X8_store p1 p2 = 0 ∨ v_X8_store p1 p2 = 1 := by
  unfold v_X8_store
  (repeat' split) <;> first | exact Or.inl rfl | exact Or.inr rfl
set_option maxHeartbeats 4000000 in
set_option maxRecDepth 100000 in
theorem c_X8_store (l : Launch) (G : va_G) (cI cJ cZ cB cT : ClassId) (q : Nat → Nat) (p1 : Int32) (p2 : Int32)  : gMi l yX8_store (gws yX8_store cX8_store 3 (some .boolean)) 1 G (gT cI cJ cZ cB cT) [.ref (q 0), .int p1, .int p2] [((q 0), .inr (8, [.ref (q 1), .ref (q 5), .ref (q 9), .ref (q 11), .ref (q 15), .ref (q 16), .ref (q 20), .ref (q 23)])), ((q 1), .inr (4, [.ref (q 2), .ref (q 3), .ref (q 4), .int 0, .int 0, .int 0, .int 0, .int 0, .int 9, .int 0, .int (-1), .int 0, .int 0])), ((q 2), .inl (cI, 90, .inl (fun _ => 0))), ((q 3), .inl (cI, 12, .inl (fun _ => 0))), ((q 4), .inl (cI, 1880, .inl (fun _ => 0)))] (fun r (_ : Unit) => r = (v_X8_store p1 p2)) (fun (_ : Unit) => ([] : va_W)) := by
  intro sz
  refine gM_start (y := yX8_store) (av := [.ref (q 0), .int p1, .int p2]) (ws := [((q 0), .inr (8, [.ref (q 1), .ref (q 5), .ref (q 9), .ref (q 11), .ref (q 15), .ref (q 16), .ref (q 20), .ref (q 23)])), ((q 1), .inr (4, [.ref (q 2), .ref (q 3), .ref (q 4), .int 0, .int 0, .int 0, .int 0, .int 0, .int 9, .int 0, .int (-1), .int 0, .int 0])), ((q 2), .inl (cI, 90, .inl (fun _ => 0))), ((q 3), .inl (cI, 12, .inl (fun _ => 0))), ((q 4), .inl (cI, 1880, .inl (fun _ => 0)))]) (Qf := fun A => va_Qi (fun r (_ : Unit) => r = (v_X8_store p1 p2)) (gB G (fun (_ : Unit) => ([] : va_W)) A) A) (cc := cX8_store) (maxL := 3) (ret := (some .boolean)) (by decide) (Nat.le_of_ble_eq_true rfl) ?_
  intro p e s m args below meth c A ls H hx hb hr hts hown hin hlocks hml hP hK hD hA hS hl
  have hl : lv_has ls 3 [(0, .ref (q 0)), (1, .int p1), (2, .int p2)] := hl
  refine lv_iload_n hx hb dX8_store_0 rfl (lv_at hl 1 rfl) ?_
  refine lv_if_lt (tgt := 21) hx hb dX8_store_1 (by decide) (fun c_1 => ?_) (fun c_1 => ?_)
  · refine lv_iconst (v := 0) hx hb dX8_store_21 (by decide) ?_
    exact gw_zret () hx hb hr hlocks rfl (hP.sub [] rfl) (hD.sub [] (by decide) rfl) hS (by rw [v_X8_store, if_pos c_1]) dX8_store_22
  · refine lv_iload_n hx hb dX8_store_4 rfl (lv_at hl 1 rfl) ?_
    refine lv_sipush (v := 9999) hx hb dX8_store_5 (by decide) ?_
    refine lv_icmp_gt (tgt := 21) hx hb dX8_store_8 (by decide) (fun c_2 => ?_) (fun c_2 => ?_)
    · refine lv_iconst (v := 0) hx hb dX8_store_21 (by decide) ?_
      exact gw_zret () hx hb hr hlocks rfl (hP.sub [] rfl) (hD.sub [] (by decide) rfl) hS (by rw [v_X8_store, if_neg c_1, if_pos c_2]) dX8_store_22
    · refine lv_iload_n hx hb dX8_store_11 rfl (lv_at hl 2 rfl) ?_
      refine lv_if_lt (tgt := 21) hx hb dX8_store_12 (by decide) (fun c_3 => ?_) (fun c_3 => ?_)
      · refine lv_iconst (v := 0) hx hb dX8_store_21 (by decide) ?_
        exact gw_zret () hx hb hr hlocks rfl (hP.sub [] rfl) (hD.sub [] (by decide) rfl) hS (by rw [v_X8_store, if_neg c_1, if_neg c_2, if_pos c_3]) dX8_store_22
      · refine lv_iload_n hx hb dX8_store_15 rfl (lv_at hl 2 rfl) ?_
        refine lv_bipush (v := 99) hx hb dX8_store_16 (by decide) ?_
        refine lv_icmp_le (tgt := 23) hx hb dX8_store_18 (by decide) (fun c_4 => ?_) (fun c_4 => ?_)
        · refine lv_aload_n hx hb dX8_store_23 rfl (lv_at hl 0 rfl) ?_
          refine va_get (D := G) (ci := 8) (v := .ref (q 1)) (C := RX8) (T := TX8) (N := 8) hx hb hts iX8 hown hK hP 0 rfl rfl 0 (by decide) (hts _ m_49) (fun _ h9 => h9) rfl dX8_store_24 ?_
          refine lv_iload_n hx hb dX8_store_27 rfl (lv_at hl 1 rfl) ?_
          refine va_put (D := G) (ci := 4) (v := .int p1) (ty := .int) (C := RX4) (T := TX4) (N := 13) hx hb hts iX4 tyX4 tyX4_ok nmX4 hown hK hP hD hS 1 rfl rfl 5 (by decide) (hts _ m_58) (fun _ h9 => h9) rfl (tyX4_ok 5 (by decide)) rfl rfl (Nat.le_of_ble_eq_true rfl) dX8_store_28 (fun H locs hP hD hS => ?_)
          have hP : va_P G vwCl [((q 0), .inr (8, [.ref (q 1), .ref (q 5), .ref (q 9), .ref (q 11), .ref (q 15), .ref (q 16), .ref (q 20), .ref (q 23)])), ((q 1), .inr (4, [.ref (q 2), .ref (q 3), .ref (q 4), .int 0, .int 0, .int p1, .int 0, .int 0, .int 9, .int 0, .int (-1), .int 0, .int 0])), ((q 2), .inl (cI, 90, .inl (fun _ => 0))), ((q 3), .inl (cI, 12, .inl (fun _ => 0))), ((q 4), .inl (cI, 1880, .inl (fun _ => 0)))] H := hP
          have hD : va_D A [((q 0), .inr (8, [.ref (q 1), .ref (q 5), .ref (q 9), .ref (q 11), .ref (q 15), .ref (q 16), .ref (q 20), .ref (q 23)])), ((q 1), .inr (4, [.ref (q 2), .ref (q 3), .ref (q 4), .int 0, .int 0, .int p1, .int 0, .int 0, .int 9, .int 0, .int (-1), .int 0, .int 0])), ((q 2), .inl (cI, 90, .inl (fun _ => 0))), ((q 3), .inl (cI, 12, .inl (fun _ => 0))), ((q 4), .inl (cI, 1880, .inl (fun _ => 0)))] := hD
          refine lv_aload_n hx hb dX8_store_31 rfl (lv_at hl 0 rfl) ?_
          refine va_get (D := G) (ci := 8) (v := .ref (q 1)) (C := RX8) (T := TX8) (N := 8) hx hb hts iX8 hown hK hP 0 rfl rfl 0 (by decide) (hts _ m_49) (fun _ h9 => h9) rfl dX8_store_32 ?_
          refine lv_iload_n hx hb dX8_store_35 rfl (lv_at hl 2 rfl) ?_
          refine va_put (D := G) (ci := 4) (v := .int p2) (ty := .int) (C := RX4) (T := TX4) (N := 13) hx hb hts iX4 tyX4 tyX4_ok nmX4 hown hK hP hD hS 1 rfl rfl 6 (by decide) (hts _ m_59) (fun _ h9 => h9) rfl (tyX4_ok 6 (by decide)) rfl rfl (Nat.le_of_ble_eq_true rfl) dX8_store_36 (fun H locs hP hD hS => ?_)
          have hP : va_P G vwCl [((q 0), .inr (8, [.ref (q 1), .ref (q 5), .ref (q 9), .ref (q 11), .ref (q 15), .ref (q 16), .ref (q 20), .ref (q 23)])), ((q 1), .inr (4, [.ref (q 2), .ref (q 3), .ref (q 4), .int 0, .int 0, .int p1, .int p2, .int 0, .int 9, .int 0, .int (-1), .int 0, .int 0])), ((q 2), .inl (cI, 90, .inl (fun _ => 0))), ((q 3), .inl (cI, 12, .inl (fun _ => 0))), ((q 4), .inl (cI, 1880, .inl (fun _ => 0)))] H := hP
          have hD : va_D A [((q 0), .inr (8, [.ref (q 1), .ref (q 5), .ref (q 9), .ref (q 11), .ref (q 15), .ref (q 16), .ref (q 20), .ref (q 23)])), ((q 1), .inr (4, [.ref (q 2), .ref (q 3), .ref (q 4), .int 0, .int 0, .int p1, .int p2, .int 0, .int 9, .int 0, .int (-1), .int 0, .int 0])), ((q 2), .inl (cI, 90, .inl (fun _ => 0))), ((q 3), .inl (cI, 12, .inl (fun _ => 0))), ((q 4), .inl (cI, 1880, .inl (fun _ => 0)))] := hD
          refine lv_iconst (v := 1) hx hb dX8_store_39 (by decide) ?_
          exact gw_zret () hx hb hr hlocks rfl (hP.sub [] rfl) (hD.sub [] (by decide) rfl) hS (by rw [v_X8_store, if_neg c_1, if_neg c_2, if_neg c_3, if_pos c_4]) dX8_store_40
        · refine lv_iconst (v := 0) hx hb dX8_store_21 (by decide) ?_
          exact gw_zret () hx hb hr hlocks rfl (hP.sub [] rfl) (hD.sub [] (by decide) rfl) hS (by rw [v_X8_store, if_neg c_1, if_neg c_2, if_neg c_3, if_neg c_4]) dX8_store_22
def v_X8_seed (p1 : Int32) : Int32 := (if p1 < 0 then 0 else (if p1 ≤ 9999 then 1 else 0))
theorem vz_X8_seed (p1 : Int32) : v_X8_seed p1 = 0 ∨ v_X8_seed p1 = 1 := by
  unfold v_X8_seed
  (repeat' split) <;> first | exact Or.inl rfl | exact Or.inr rfl
set_option maxHeartbeats 4000000 in
set_option maxRecDepth 100000 in
theorem c_X8_seed (l : Launch) (G : va_G) (cI cJ cZ cB cT : ClassId) (q : Nat → Nat) (p1 : Int32)  : gMi l yX8_seed (gws yX8_seed cX8_seed 2 (some .boolean)) 1 G (gT cI cJ cZ cB cT) [.ref (q 0), .int p1] [((q 0), .inr (8, [.ref (q 1), .ref (q 5), .ref (q 9), .ref (q 11), .ref (q 15), .ref (q 16), .ref (q 20), .ref (q 23)])), ((q 1), .inr (4, [.ref (q 2), .ref (q 3), .ref (q 4), .int 0, .int 0, .int 0, .int 0, .int 0, .int 9, .int 0, .int (-1), .int 0, .int 0])), ((q 2), .inl (cI, 90, .inl (fun _ => 0))), ((q 3), .inl (cI, 12, .inl (fun _ => 0))), ((q 4), .inl (cI, 1880, .inl (fun _ => 0)))] (fun r (_ : Unit) => r = (v_X8_seed p1)) (fun (_ : Unit) => ([] : va_W)) := by
  intro sz
  refine gM_start (y := yX8_seed) (av := [.ref (q 0), .int p1]) (ws := [((q 0), .inr (8, [.ref (q 1), .ref (q 5), .ref (q 9), .ref (q 11), .ref (q 15), .ref (q 16), .ref (q 20), .ref (q 23)])), ((q 1), .inr (4, [.ref (q 2), .ref (q 3), .ref (q 4), .int 0, .int 0, .int 0, .int 0, .int 0, .int 9, .int 0, .int (-1), .int 0, .int 0])), ((q 2), .inl (cI, 90, .inl (fun _ => 0))), ((q 3), .inl (cI, 12, .inl (fun _ => 0))), ((q 4), .inl (cI, 1880, .inl (fun _ => 0)))]) (Qf := fun A => va_Qi (fun r (_ : Unit) => r = (v_X8_seed p1)) (gB G (fun (_ : Unit) => ([] : va_W)) A) A) (cc := cX8_seed) (maxL := 2) (ret := (some .boolean)) (by decide) (Nat.le_of_ble_eq_true rfl) ?_
  intro p e s m args below meth c A ls H hx hb hr hts hown hin hlocks hml hP hK hD hA hS hl
  have hl : lv_has ls 2 [(0, .ref (q 0)), (1, .int p1)] := hl
  refine lv_iload_n hx hb dX8_seed_0 rfl (lv_at hl 1 rfl) ?_
  refine lv_if_lt (tgt := 11) hx hb dX8_seed_1 (by decide) (fun c_1 => ?_) (fun c_1 => ?_)
  · refine lv_iconst (v := 0) hx hb dX8_seed_11 (by decide) ?_
    exact gw_zret () hx hb hr hlocks rfl (hP.sub [] rfl) (hD.sub [] (by decide) rfl) hS (by rw [v_X8_seed, if_pos c_1]) dX8_seed_12
  · refine lv_iload_n hx hb dX8_seed_4 rfl (lv_at hl 1 rfl) ?_
    refine lv_sipush (v := 9999) hx hb dX8_seed_5 (by decide) ?_
    refine lv_icmp_le (tgt := 13) hx hb dX8_seed_8 (by decide) (fun c_2 => ?_) (fun c_2 => ?_)
    · refine lv_aload_n hx hb dX8_seed_13 rfl (lv_at hl 0 rfl) ?_
      refine va_get (D := G) (ci := 8) (v := .ref (q 1)) (C := RX8) (T := TX8) (N := 8) hx hb hts iX8 hown hK hP 0 rfl rfl 0 (by decide) (hts _ m_49) (fun _ h9 => h9) rfl dX8_seed_14 ?_
      refine lv_iload_n hx hb dX8_seed_17 rfl (lv_at hl 1 rfl) ?_
      refine lv_bipush (v := 11) hx hb dX8_seed_18 (by decide) ?_
      refine lv_imul hx hb dX8_seed_20 ?_
      refine lv_bipush (v := 9) hx hb dX8_seed_21 (by decide) ?_
      refine lv_iadd hx hb dX8_seed_23 ?_
      refine va_put (D := G) (ci := 4) (v := .int ((p1 * 11) + 9)) (ty := .int) (C := RX4) (T := TX4) (N := 13) hx hb hts iX4 tyX4 tyX4_ok nmX4 hown hK hP hD hS 1 rfl rfl 8 (by decide) (hts _ m_60) (fun _ h9 => h9) rfl (tyX4_ok 8 (by decide)) rfl rfl (Nat.le_of_ble_eq_true rfl) dX8_seed_24 (fun H locs hP hD hS => ?_)
      have hP : va_P G vwCl [((q 0), .inr (8, [.ref (q 1), .ref (q 5), .ref (q 9), .ref (q 11), .ref (q 15), .ref (q 16), .ref (q 20), .ref (q 23)])), ((q 1), .inr (4, [.ref (q 2), .ref (q 3), .ref (q 4), .int 0, .int 0, .int 0, .int 0, .int 0, .int ((p1 * 11) + 9), .int 0, .int (-1), .int 0, .int 0])), ((q 2), .inl (cI, 90, .inl (fun _ => 0))), ((q 3), .inl (cI, 12, .inl (fun _ => 0))), ((q 4), .inl (cI, 1880, .inl (fun _ => 0)))] H := hP
      have hD : va_D A [((q 0), .inr (8, [.ref (q 1), .ref (q 5), .ref (q 9), .ref (q 11), .ref (q 15), .ref (q 16), .ref (q 20), .ref (q 23)])), ((q 1), .inr (4, [.ref (q 2), .ref (q 3), .ref (q 4), .int 0, .int 0, .int 0, .int 0, .int 0, .int ((p1 * 11) + 9), .int 0, .int (-1), .int 0, .int 0])), ((q 2), .inl (cI, 90, .inl (fun _ => 0))), ((q 3), .inl (cI, 12, .inl (fun _ => 0))), ((q 4), .inl (cI, 1880, .inl (fun _ => 0)))] := hD
      refine lv_iconst (v := 1) hx hb dX8_seed_27 (by decide) ?_
      exact gw_zret () hx hb hr hlocks rfl (hP.sub [] rfl) (hD.sub [] (by decide) rfl) hS (by rw [v_X8_seed, if_neg c_1, if_pos c_2]) dX8_seed_28
    · refine lv_iconst (v := 0) hx hb dX8_seed_11 (by decide) ?_
      exact gw_zret () hx hb hr hlocks rfl (hP.sub [] rfl) (hD.sub [] (by decide) rfl) hS (by rw [v_X8_seed, if_neg c_1, if_neg c_2]) dX8_seed_12
theorem e_X8_isQuill : yX8_isQuill.cls = RX8 ∧ yX8_isQuill.cls ≠ "java/lang/invoke/MethodHandle" ∧ yX8_isQuill.cls ≠ "java/lang/invoke/VarHandle" ∧ (parseMethodDescriptor yX8_isQuill.desc).map (fun d => d.parameters.length) = some 2 := by decide +kernel
set_option maxHeartbeats 4000000 in
set_option maxRecDepth 100000 in
theorem c_X8_fill (l : Launch) (G : va_G) (cI cJ cZ cB cT : ClassId) (q : Nat → Nat) (p1 : Int32) (p2 : Int32) (p3 : Int32)  : gMi l yX8_fill (gws yX8_fill cX8_fill 5 (some .int)) 3 G (gT cI cJ cZ cB cT) [.ref (q 0), .int p1, .int p2, .int p3] [((q 0), .inr (8, [.ref (q 1), .ref (q 5), .ref (q 9), .ref (q 11), .ref (q 15), .ref (q 16), .ref (q 20), .ref (q 23)])), ((q 1), .inr (4, [.ref (q 2), .ref (q 3), .ref (q 4), .int 0, .int 0, .int 0, .int 0, .int 0, .int 9, .int 0, .int (-1), .int 0, .int 0])), ((q 2), .inl (cI, 90, .inl (fun _ => 0))), ((q 3), .inl (cI, 12, .inl (fun _ => 0))), ((q 4), .inl (cI, 1880, .inl (fun _ => 0)))] (fun r (_ : Unit) => r = (-1)) (fun (_ : Unit) => ([] : va_W)) := by
  intro sz
  refine gM_start (y := yX8_fill) (av := [.ref (q 0), .int p1, .int p2, .int p3]) (ws := [((q 0), .inr (8, [.ref (q 1), .ref (q 5), .ref (q 9), .ref (q 11), .ref (q 15), .ref (q 16), .ref (q 20), .ref (q 23)])), ((q 1), .inr (4, [.ref (q 2), .ref (q 3), .ref (q 4), .int 0, .int 0, .int 0, .int 0, .int 0, .int 9, .int 0, .int (-1), .int 0, .int 0])), ((q 2), .inl (cI, 90, .inl (fun _ => 0))), ((q 3), .inl (cI, 12, .inl (fun _ => 0))), ((q 4), .inl (cI, 1880, .inl (fun _ => 0)))]) (Qf := fun A => va_Qi (fun r (_ : Unit) => r = (-1)) (gB G (fun (_ : Unit) => ([] : va_W)) A) A) (cc := cX8_fill) (maxL := 5) (ret := (some .int)) (by decide) (Nat.le_of_ble_eq_true rfl) ?_
  intro p e s m args below meth c A ls H hx hb hr hts hown hin hlocks hml hP hK hD hA hS hl
  have hl : lv_has ls 5 [(0, .ref (q 0)), (1, .int p1), (2, .int p2), (3, .int p3)] := hl
  refine lv_iload_n hx hb dX8_fill_0 rfl (lv_at hl 2 rfl) ?_
  refine lv_iload_n hx hb dX8_fill_1 rfl (lv_at hl 3 rfl) ?_
  refine gw_calli (gw_runS (As := [.int p2, .int p3]) (rest := []) ⟨hx, hb, hml, hown, hts⟩ (c_X8_isQuill l G cI cJ cZ cB cT p2 p3  H.size) (gG_S m_62 m_63 m_45 m_61) rfl e_X8_isQuill ⟨Nat.le_of_ble_eq_true rfl, Nat.le_of_ble_eq_true rfl⟩ hK hP hD [] rfl (by decide) rfl rfl hl.1 rfl (Nat.le_of_ble_eq_true rfl) dX8_fill_2 ⟨Nat.le_of_ble_eq_true rfl, Nat.le_of_ble_eq_true rfl⟩) hP hD hS hA [] [0, 1, 2, 3, 4] rfl rfl (by decide) (by decide) (fun r_1 u_1 H locs hw_1 hP hD hS => ?_)
  subst hw_1
  have hP : va_P G vwCl [((q 0), .inr (8, [.ref (q 1), .ref (q 5), .ref (q 9), .ref (q 11), .ref (q 15), .ref (q 16), .ref (q 20), .ref (q 23)])), ((q 1), .inr (4, [.ref (q 2), .ref (q 3), .ref (q 4), .int 0, .int 0, .int 0, .int 0, .int 0, .int 9, .int 0, .int (-1), .int 0, .int 0])), ((q 2), .inl (cI, 90, .inl (fun _ => 0))), ((q 3), .inl (cI, 12, .inl (fun _ => 0))), ((q 4), .inl (cI, 1880, .inl (fun _ => 0)))] H := hP
  have hD : va_D A [((q 0), .inr (8, [.ref (q 1), .ref (q 5), .ref (q 9), .ref (q 11), .ref (q 15), .ref (q 16), .ref (q 20), .ref (q 23)])), ((q 1), .inr (4, [.ref (q 2), .ref (q 3), .ref (q 4), .int 0, .int 0, .int 0, .int 0, .int 0, .int 9, .int 0, .int (-1), .int 0, .int 0])), ((q 2), .inl (cI, 90, .inl (fun _ => 0))), ((q 3), .inl (cI, 12, .inl (fun _ => 0))), ((q 4), .inl (cI, 1880, .inl (fun _ => 0)))] := hD
  refine lv_if_eq (tgt := 32) hx hb dX8_fill_5 (by decide) (fun c_2 => ?_) (fun c_2 => ?_)
  · refine lv_iconst (v := (-1)) hx hb dX8_fill_32 (by decide) ?_
    exact gw_iret () hx hb hr hlocks (hP.sub [] rfl) (hD.sub [] (by decide) rfl) hS rfl dX8_fill_33
  · refine lv_aload_n hx hb dX8_fill_8 rfl (lv_at hl 0 rfl) ?_
    refine va_get (D := G) (ci := 8) (v := .ref (q 1)) (C := RX8) (T := TX8) (N := 8) hx hb hts iX8 hown hK hP 0 rfl rfl 0 (by decide) (hts _ m_49) (fun _ h9 => h9) rfl dX8_fill_9 ?_
    refine lv_iload_n hx hb dX8_fill_12 rfl (lv_at hl 1 rfl) ?_
    refine gw_calli (gw_runV (As := [.int p1]) (rest := []) ⟨hx, hb, hml, hown, hts⟩ (c_isHome0 l G cI cJ cZ cB cT (q 1) (q 2) (q 3) (q 4) 0 0 0 0 9 0 (-1) 0 0 (fun _ => 0) (fun _ => 0) (fun _ => 0) p1  H.size) (gG_V m_64 m_9 m_10 m_6 m_7) rfl e_X4_isHome ⟨Nat.le_of_ble_eq_true rfl, Nat.le_of_ble_eq_true rfl⟩ hK hP hD [1, 2, 3, 4] rfl (by decide) rfl 0 rfl rfl rfl hl.1 rfl (Nat.le_of_ble_eq_true rfl) dX8_fill_13 ⟨Nat.le_of_ble_eq_true rfl, Nat.le_of_ble_eq_true rfl⟩) hP hD hS hA [1, 2, 3, 4] [0] rfl rfl (by decide) (by decide) (fun r_3 u_3 H locs hw_3 hP hD hS => ?_)
    subst hw_3
    have hP : va_P G vwCl [((q 0), .inr (8, [.ref (q 1), .ref (q 5), .ref (q 9), .ref (q 11), .ref (q 15), .ref (q 16), .ref (q 20), .ref (q 23)])), ((q 1), .inr (4, [.ref (q 2), .ref (q 3), .ref (q 4), .int 0, .int 0, .int 0, .int 0, .int 0, .int 9, .int 0, .int (-1), .int 0, .int 0])), ((q 2), .inl (cI, 90, .inl (fun _ => 0))), ((q 3), .inl (cI, 12, .inl (fun _ => 0))), ((q 4), .inl (cI, 1880, .inl (fun _ => 0)))] H := hP
    have hD : va_D A [((q 0), .inr (8, [.ref (q 1), .ref (q 5), .ref (q 9), .ref (q 11), .ref (q 15), .ref (q 16), .ref (q 20), .ref (q 23)])), ((q 1), .inr (4, [.ref (q 2), .ref (q 3), .ref (q 4), .int 0, .int 0, .int 0, .int 0, .int 0, .int 9, .int 0, .int (-1), .int 0, .int 0])), ((q 2), .inl (cI, 90, .inl (fun _ => 0))), ((q 3), .inl (cI, 12, .inl (fun _ => 0))), ((q 4), .inl (cI, 1880, .inl (fun _ => 0)))] := hD
    refine lv_if_eq (tgt := 32) hx hb dX8_fill_16 (by decide) (fun _ => ?_) (fun c => absurd (by decide) c)
    refine lv_iconst (v := (-1)) hx hb dX8_fill_32 (by decide) ?_
    exact gw_iret () hx hb hr hlocks (hP.sub [] rfl) (hD.sub [] (by decide) rfl) hS rfl dX8_fill_33
theorem e_X4_hasMarket : yX4_hasMarket.cls = RX4 ∧ yX4_hasMarket.cls ≠ "java/lang/invoke/MethodHandle" ∧ yX4_hasMarket.cls ≠ "java/lang/invoke/VarHandle" ∧ (parseMethodDescriptor yX4_hasMarket.desc).map (fun d => d.parameters.length) = some 1 := by decide +kernel
set_option maxHeartbeats 4000000 in
set_option maxRecDepth 100000 in
theorem c_X8_send (l : Launch) (G : va_G) (cI cJ cZ cB cT : ClassId) (q : Nat → Nat) (p1 : Int32) (p2 : Int32)  : gMi l yX8_send (gws yX8_send cX8_send 4 (some .int)) 2 G (gT cI cJ cZ cB cT) [.ref (q 0), .int p1, .int p2] [((q 0), .inr (8, [.ref (q 1), .ref (q 5), .ref (q 9), .ref (q 11), .ref (q 15), .ref (q 16), .ref (q 20), .ref (q 23)])), ((q 1), .inr (4, [.ref (q 2), .ref (q 3), .ref (q 4), .int 0, .int 0, .int 0, .int 0, .int 0, .int 9, .int 0, .int (-1), .int 0, .int 0])), ((q 2), .inl (cI, 90, .inl (fun _ => 0))), ((q 3), .inl (cI, 12, .inl (fun _ => 0))), ((q 4), .inl (cI, 1880, .inl (fun _ => 0)))] (fun r (_ : Unit) => r = (-1)) (fun (_ : Unit) => ([] : va_W)) := by
  intro sz
  refine gM_start (y := yX8_send) (av := [.ref (q 0), .int p1, .int p2]) (ws := [((q 0), .inr (8, [.ref (q 1), .ref (q 5), .ref (q 9), .ref (q 11), .ref (q 15), .ref (q 16), .ref (q 20), .ref (q 23)])), ((q 1), .inr (4, [.ref (q 2), .ref (q 3), .ref (q 4), .int 0, .int 0, .int 0, .int 0, .int 0, .int 9, .int 0, .int (-1), .int 0, .int 0])), ((q 2), .inl (cI, 90, .inl (fun _ => 0))), ((q 3), .inl (cI, 12, .inl (fun _ => 0))), ((q 4), .inl (cI, 1880, .inl (fun _ => 0)))]) (Qf := fun A => va_Qi (fun r (_ : Unit) => r = (-1)) (gB G (fun (_ : Unit) => ([] : va_W)) A) A) (cc := cX8_send) (maxL := 4) (ret := (some .int)) (by decide) (Nat.le_of_ble_eq_true rfl) ?_
  intro p e s m args below meth c A ls H hx hb hr hts hown hin hlocks hml hP hK hD hA hS hl
  have hl : lv_has ls 4 [(0, .ref (q 0)), (1, .int p1), (2, .int p2)] := hl
  refine lv_aload_n hx hb dX8_send_0 rfl (lv_at hl 0 rfl) ?_
  refine va_get (D := G) (ci := 8) (v := .ref (q 1)) (C := RX8) (T := TX8) (N := 8) hx hb hts iX8 hown hK hP 0 rfl rfl 0 (by decide) (hts _ m_49) (fun _ h9 => h9) rfl dX8_send_1 ?_
  refine lv_iload_n hx hb dX8_send_4 rfl (lv_at hl 2 rfl) ?_
  refine gw_calli (gw_runV (As := [.int p2]) (rest := []) ⟨hx, hb, hml, hown, hts⟩ (c_hasMarket0 l G cI cJ cZ cB cT (q 1) (q 2) (q 3) (q 4) 0 0 0 0 9 0 (-1) 0 0 (fun _ => 0) (fun _ => 0) (fun _ => 0) p2  H.size) (gG_V m_66 m_67 m_68 m_6 m_65) rfl e_X4_hasMarket ⟨Nat.le_of_ble_eq_true rfl, Nat.le_of_ble_eq_true rfl⟩ hK hP hD [1, 2, 3, 4] rfl (by decide) rfl 0 rfl rfl rfl hl.1 rfl (Nat.le_of_ble_eq_true rfl) dX8_send_5 ⟨Nat.le_of_ble_eq_true rfl, Nat.le_of_ble_eq_true rfl⟩) hP hD hS hA [1, 2, 3, 4] [0] rfl rfl (by decide) (by decide) (fun r_1 u_1 H locs hw_1 hP hD hS => ?_)
  subst hw_1
  have hP : va_P G vwCl [((q 0), .inr (8, [.ref (q 1), .ref (q 5), .ref (q 9), .ref (q 11), .ref (q 15), .ref (q 16), .ref (q 20), .ref (q 23)])), ((q 1), .inr (4, [.ref (q 2), .ref (q 3), .ref (q 4), .int 0, .int 0, .int 0, .int 0, .int 0, .int 9, .int 0, .int (-1), .int 0, .int 0])), ((q 2), .inl (cI, 90, .inl (fun _ => 0))), ((q 3), .inl (cI, 12, .inl (fun _ => 0))), ((q 4), .inl (cI, 1880, .inl (fun _ => 0)))] H := hP
  have hD : va_D A [((q 0), .inr (8, [.ref (q 1), .ref (q 5), .ref (q 9), .ref (q 11), .ref (q 15), .ref (q 16), .ref (q 20), .ref (q 23)])), ((q 1), .inr (4, [.ref (q 2), .ref (q 3), .ref (q 4), .int 0, .int 0, .int 0, .int 0, .int 0, .int 9, .int 0, .int (-1), .int 0, .int 0])), ((q 2), .inl (cI, 90, .inl (fun _ => 0))), ((q 3), .inl (cI, 12, .inl (fun _ => 0))), ((q 4), .inl (cI, 1880, .inl (fun _ => 0)))] := hD
  refine lv_if_eq (tgt := 22) hx hb dX8_send_8 (by decide) (fun _ => ?_) (fun c => absurd (by decide) c)
  refine lv_iconst (v := (-1)) hx hb dX8_send_22 (by decide) ?_
  exact gw_iret () hx hb hr hlocks (hP.sub [] rfl) (hD.sub [] (by decide) rfl) hS rfl dX8_send_23
set_option maxHeartbeats 4000000 in
set_option maxRecDepth 100000 in
theorem c_X8_fatten (l : Launch) (G : va_G) (cI cJ cZ cB cT : ClassId) (q : Nat → Nat) (p1 : Int32)  : gMi l yX8_fatten (gws yX8_fatten cX8_fatten 2 (some .int)) 3 G (gT cI cJ cZ cB cT) [.ref (q 0), .int p1] [((q 0), .inr (8, [.ref (q 1), .ref (q 5), .ref (q 9), .ref (q 11), .ref (q 15), .ref (q 16), .ref (q 20), .ref (q 23)])), ((q 1), .inr (4, [.ref (q 2), .ref (q 3), .ref (q 4), .int 0, .int 0, .int 0, .int 0, .int 0, .int 9, .int 0, .int (-1), .int 0, .int 0])), ((q 2), .inl (cI, 90, .inl (fun _ => 0))), ((q 3), .inl (cI, 12, .inl (fun _ => 0))), ((q 4), .inl (cI, 1880, .inl (fun _ => 0)))] (fun r (_ : Unit) => r = (-1)) (fun (_ : Unit) => ([] : va_W)) := by
  intro sz
  refine gM_start (y := yX8_fatten) (av := [.ref (q 0), .int p1]) (ws := [((q 0), .inr (8, [.ref (q 1), .ref (q 5), .ref (q 9), .ref (q 11), .ref (q 15), .ref (q 16), .ref (q 20), .ref (q 23)])), ((q 1), .inr (4, [.ref (q 2), .ref (q 3), .ref (q 4), .int 0, .int 0, .int 0, .int 0, .int 0, .int 9, .int 0, .int (-1), .int 0, .int 0])), ((q 2), .inl (cI, 90, .inl (fun _ => 0))), ((q 3), .inl (cI, 12, .inl (fun _ => 0))), ((q 4), .inl (cI, 1880, .inl (fun _ => 0)))]) (Qf := fun A => va_Qi (fun r (_ : Unit) => r = (-1)) (gB G (fun (_ : Unit) => ([] : va_W)) A) A) (cc := cX8_fatten) (maxL := 2) (ret := (some .int)) (by decide) (Nat.le_of_ble_eq_true rfl) ?_
  intro p e s m args below meth c A ls H hx hb hr hts hown hin hlocks hml hP hK hD hA hS hl
  have hl : lv_has ls 2 [(0, .ref (q 0)), (1, .int p1)] := hl
  refine lv_aload_n hx hb dX8_fatten_0 rfl (lv_at hl 0 rfl) ?_
  refine va_get (D := G) (ci := 8) (v := .ref (q 1)) (C := RX8) (T := TX8) (N := 8) hx hb hts iX8 hown hK hP 0 rfl rfl 0 (by decide) (hts _ m_49) (fun _ h9 => h9) rfl dX8_fatten_1 ?_
  refine lv_iload_n hx hb dX8_fatten_4 rfl (lv_at hl 1 rfl) ?_
  refine gw_calli (gw_runV (As := [.int p1]) (rest := []) ⟨hx, hb, hml, hown, hts⟩ (c_isHome0 l G cI cJ cZ cB cT (q 1) (q 2) (q 3) (q 4) 0 0 0 0 9 0 (-1) 0 0 (fun _ => 0) (fun _ => 0) (fun _ => 0) p1  H.size) (gG_V m_64 m_9 m_10 m_6 m_7) rfl e_X4_isHome ⟨Nat.le_of_ble_eq_true rfl, Nat.le_of_ble_eq_true rfl⟩ hK hP hD [1, 2, 3, 4] rfl (by decide) rfl 0 rfl rfl rfl hl.1 rfl (Nat.le_of_ble_eq_true rfl) dX8_fatten_5 ⟨Nat.le_of_ble_eq_true rfl, Nat.le_of_ble_eq_true rfl⟩) hP hD hS hA [1, 2, 3, 4] [0] rfl rfl (by decide) (by decide) (fun r_1 u_1 H locs hw_1 hP hD hS => ?_)
  subst hw_1
  have hP : va_P G vwCl [((q 0), .inr (8, [.ref (q 1), .ref (q 5), .ref (q 9), .ref (q 11), .ref (q 15), .ref (q 16), .ref (q 20), .ref (q 23)])), ((q 1), .inr (4, [.ref (q 2), .ref (q 3), .ref (q 4), .int 0, .int 0, .int 0, .int 0, .int 0, .int 9, .int 0, .int (-1), .int 0, .int 0])), ((q 2), .inl (cI, 90, .inl (fun _ => 0))), ((q 3), .inl (cI, 12, .inl (fun _ => 0))), ((q 4), .inl (cI, 1880, .inl (fun _ => 0)))] H := hP
  have hD : va_D A [((q 0), .inr (8, [.ref (q 1), .ref (q 5), .ref (q 9), .ref (q 11), .ref (q 15), .ref (q 16), .ref (q 20), .ref (q 23)])), ((q 1), .inr (4, [.ref (q 2), .ref (q 3), .ref (q 4), .int 0, .int 0, .int 0, .int 0, .int 0, .int 9, .int 0, .int (-1), .int 0, .int 0])), ((q 2), .inl (cI, 90, .inl (fun _ => 0))), ((q 3), .inl (cI, 12, .inl (fun _ => 0))), ((q 4), .inl (cI, 1880, .inl (fun _ => 0)))] := hD
  refine lv_if_eq (tgt := 36) hx hb dX8_fatten_8 (by decide) (fun _ => ?_) (fun c => absurd (by decide) c)
  refine lv_iconst (v := (-1)) hx hb dX8_fatten_36 (by decide) ?_
  exact gw_iret () hx hb hr hlocks (hP.sub [] rfl) (hD.sub [] (by decide) rfl) hS rfl dX8_fatten_37
set_option maxHeartbeats 4000000 in
set_option maxRecDepth 100000 in
theorem c_X8_pluck (l : Launch) (G : va_G) (cI cJ cZ cB cT : ClassId) (q : Nat → Nat) (p1 : Int32)  : gMi l yX8_pluck (gws yX8_pluck cX8_pluck 2 (some .int)) 3 G (gT cI cJ cZ cB cT) [.ref (q 0), .int p1] [((q 0), .inr (8, [.ref (q 1), .ref (q 5), .ref (q 9), .ref (q 11), .ref (q 15), .ref (q 16), .ref (q 20), .ref (q 23)])), ((q 1), .inr (4, [.ref (q 2), .ref (q 3), .ref (q 4), .int 0, .int 0, .int 0, .int 0, .int 0, .int 9, .int 0, .int (-1), .int 0, .int 0])), ((q 2), .inl (cI, 90, .inl (fun _ => 0))), ((q 3), .inl (cI, 12, .inl (fun _ => 0))), ((q 4), .inl (cI, 1880, .inl (fun _ => 0)))] (fun r (_ : Unit) => r = (-1)) (fun (_ : Unit) => ([] : va_W)) := by
  intro sz
  refine gM_start (y := yX8_pluck) (av := [.ref (q 0), .int p1]) (ws := [((q 0), .inr (8, [.ref (q 1), .ref (q 5), .ref (q 9), .ref (q 11), .ref (q 15), .ref (q 16), .ref (q 20), .ref (q 23)])), ((q 1), .inr (4, [.ref (q 2), .ref (q 3), .ref (q 4), .int 0, .int 0, .int 0, .int 0, .int 0, .int 9, .int 0, .int (-1), .int 0, .int 0])), ((q 2), .inl (cI, 90, .inl (fun _ => 0))), ((q 3), .inl (cI, 12, .inl (fun _ => 0))), ((q 4), .inl (cI, 1880, .inl (fun _ => 0)))]) (Qf := fun A => va_Qi (fun r (_ : Unit) => r = (-1)) (gB G (fun (_ : Unit) => ([] : va_W)) A) A) (cc := cX8_pluck) (maxL := 2) (ret := (some .int)) (by decide) (Nat.le_of_ble_eq_true rfl) ?_
  intro p e s m args below meth c A ls H hx hb hr hts hown hin hlocks hml hP hK hD hA hS hl
  have hl : lv_has ls 2 [(0, .ref (q 0)), (1, .int p1)] := hl
  refine lv_aload_n hx hb dX8_pluck_0 rfl (lv_at hl 0 rfl) ?_
  refine va_get (D := G) (ci := 8) (v := .ref (q 1)) (C := RX8) (T := TX8) (N := 8) hx hb hts iX8 hown hK hP 0 rfl rfl 0 (by decide) (hts _ m_49) (fun _ h9 => h9) rfl dX8_pluck_1 ?_
  refine lv_iload_n hx hb dX8_pluck_4 rfl (lv_at hl 1 rfl) ?_
  refine gw_calli (gw_runV (As := [.int p1]) (rest := []) ⟨hx, hb, hml, hown, hts⟩ (c_isHome0 l G cI cJ cZ cB cT (q 1) (q 2) (q 3) (q 4) 0 0 0 0 9 0 (-1) 0 0 (fun _ => 0) (fun _ => 0) (fun _ => 0) p1  H.size) (gG_V m_64 m_9 m_10 m_6 m_7) rfl e_X4_isHome ⟨Nat.le_of_ble_eq_true rfl, Nat.le_of_ble_eq_true rfl⟩ hK hP hD [1, 2, 3, 4] rfl (by decide) rfl 0 rfl rfl rfl hl.1 rfl (Nat.le_of_ble_eq_true rfl) dX8_pluck_5 ⟨Nat.le_of_ble_eq_true rfl, Nat.le_of_ble_eq_true rfl⟩) hP hD hS hA [1, 2, 3, 4] [0] rfl rfl (by decide) (by decide) (fun r_1 u_1 H locs hw_1 hP hD hS => ?_)
  subst hw_1
  have hP : va_P G vwCl [((q 0), .inr (8, [.ref (q 1), .ref (q 5), .ref (q 9), .ref (q 11), .ref (q 15), .ref (q 16), .ref (q 20), .ref (q 23)])), ((q 1), .inr (4, [.ref (q 2), .ref (q 3), .ref (q 4), .int 0, .int 0, .int 0, .int 0, .int 0, .int 9, .int 0, .int (-1), .int 0, .int 0])), ((q 2), .inl (cI, 90, .inl (fun _ => 0))), ((q 3), .inl (cI, 12, .inl (fun _ => 0))), ((q 4), .inl (cI, 1880, .inl (fun _ => 0)))] H := hP
  have hD : va_D A [((q 0), .inr (8, [.ref (q 1), .ref (q 5), .ref (q 9), .ref (q 11), .ref (q 15), .ref (q 16), .ref (q 20), .ref (q 23)])), ((q 1), .inr (4, [.ref (q 2), .ref (q 3), .ref (q 4), .int 0, .int 0, .int 0, .int 0, .int 0, .int 9, .int 0, .int (-1), .int 0, .int 0])), ((q 2), .inl (cI, 90, .inl (fun _ => 0))), ((q 3), .inl (cI, 12, .inl (fun _ => 0))), ((q 4), .inl (cI, 1880, .inl (fun _ => 0)))] := hD
  refine lv_if_eq (tgt := 24) hx hb dX8_pluck_8 (by decide) (fun _ => ?_) (fun c => absurd (by decide) c)
  refine lv_iconst (v := (-1)) hx hb dX8_pluck_24 (by decide) ?_
  exact gw_iret () hx hb hr hlocks (hP.sub [] rfl) (hD.sub [] (by decide) rfl) hS rfl dX8_pluck_25
theorem e_X4_isFree : yX4_isFree.cls = RX4 ∧ yX4_isFree.cls ≠ "java/lang/invoke/MethodHandle" ∧ yX4_isFree.cls ≠ "java/lang/invoke/VarHandle" ∧ (parseMethodDescriptor yX4_isFree.desc).map (fun d => d.parameters.length) = some 1 := by decide +kernel
set_option maxHeartbeats 4000000 in
set_option maxRecDepth 100000 in
theorem c_X8_name (l : Launch) (G : va_G) (cI cJ cZ cB cT : ClassId) (q : Nat → Nat) (p1 : Int32)  : gMi l yX8_name (gws yX8_name cX8_name 2 (some .boolean)) 4 G (gT cI cJ cZ cB cT) [.ref (q 0), .int p1] [((q 0), .inr (8, [.ref (q 1), .ref (q 5), .ref (q 9), .ref (q 11), .ref (q 15), .ref (q 16), .ref (q 20), .ref (q 23)])), ((q 1), .inr (4, [.ref (q 2), .ref (q 3), .ref (q 4), .int 0, .int 0, .int 0, .int 0, .int 0, .int 9, .int 0, .int (-1), .int 0, .int 0])), ((q 2), .inl (cI, 90, .inl (fun _ => 0))), ((q 3), .inl (cI, 12, .inl (fun _ => 0))), ((q 4), .inl (cI, 1880, .inl (fun _ => 0)))] (fun r (_ : Unit) => r = 0) (fun (_ : Unit) => ([] : va_W)) := by
  intro sz
  refine gM_start (y := yX8_name) (av := [.ref (q 0), .int p1]) (ws := [((q 0), .inr (8, [.ref (q 1), .ref (q 5), .ref (q 9), .ref (q 11), .ref (q 15), .ref (q 16), .ref (q 20), .ref (q 23)])), ((q 1), .inr (4, [.ref (q 2), .ref (q 3), .ref (q 4), .int 0, .int 0, .int 0, .int 0, .int 0, .int 9, .int 0, .int (-1), .int 0, .int 0])), ((q 2), .inl (cI, 90, .inl (fun _ => 0))), ((q 3), .inl (cI, 12, .inl (fun _ => 0))), ((q 4), .inl (cI, 1880, .inl (fun _ => 0)))]) (Qf := fun A => va_Qi (fun r (_ : Unit) => r = 0) (gB G (fun (_ : Unit) => ([] : va_W)) A) A) (cc := cX8_name) (maxL := 2) (ret := (some .boolean)) (by decide) (Nat.le_of_ble_eq_true rfl) ?_
  intro p e s m args below meth c A ls H hx hb hr hts hown hin hlocks hml hP hK hD hA hS hl
  have hl : lv_has ls 2 [(0, .ref (q 0)), (1, .int p1)] := hl
  refine lv_aload_n hx hb dX8_name_0 rfl (lv_at hl 0 rfl) ?_
  refine va_get (D := G) (ci := 8) (v := .ref (q 1)) (C := RX8) (T := TX8) (N := 8) hx hb hts iX8 hown hK hP 0 rfl rfl 0 (by decide) (hts _ m_49) (fun _ h9 => h9) rfl dX8_name_1 ?_
  refine lv_iload_n hx hb dX8_name_4 rfl (lv_at hl 1 rfl) ?_
  refine gw_calli (gw_runV (As := [.int p1]) (rest := []) ⟨hx, hb, hml, hown, hts⟩ (c_isFree0 l G cI cJ cZ cB cT (q 1) (q 2) (q 3) (q 4) 0 0 0 0 9 0 (-1) 0 0 (fun _ => 0) (fun _ => 0) (fun _ => 0) p1  H.size) (gG_V m_70 m_71 m_72 m_6 m_69) rfl e_X4_isFree ⟨Nat.le_of_ble_eq_true rfl, Nat.le_of_ble_eq_true rfl⟩ hK hP hD [1, 2, 3, 4] rfl (by decide) rfl 0 rfl rfl rfl hl.1 rfl (Nat.le_of_ble_eq_true rfl) dX8_name_5 ⟨Nat.le_of_ble_eq_true rfl, Nat.le_of_ble_eq_true rfl⟩) hP hD hS hA [1, 2, 3, 4] [0] rfl rfl (by decide) (by decide) (fun r_1 u_1 H locs hw_1 hP hD hS => ?_)
  subst hw_1
  have hP : va_P G vwCl [((q 0), .inr (8, [.ref (q 1), .ref (q 5), .ref (q 9), .ref (q 11), .ref (q 15), .ref (q 16), .ref (q 20), .ref (q 23)])), ((q 1), .inr (4, [.ref (q 2), .ref (q 3), .ref (q 4), .int 0, .int 0, .int 0, .int 0, .int 0, .int 9, .int 0, .int (-1), .int 0, .int 0])), ((q 2), .inl (cI, 90, .inl (fun _ => 0))), ((q 3), .inl (cI, 12, .inl (fun _ => 0))), ((q 4), .inl (cI, 1880, .inl (fun _ => 0)))] H := hP
  have hD : va_D A [((q 0), .inr (8, [.ref (q 1), .ref (q 5), .ref (q 9), .ref (q 11), .ref (q 15), .ref (q 16), .ref (q 20), .ref (q 23)])), ((q 1), .inr (4, [.ref (q 2), .ref (q 3), .ref (q 4), .int 0, .int 0, .int 0, .int 0, .int 0, .int 9, .int 0, .int (-1), .int 0, .int 0])), ((q 2), .inl (cI, 90, .inl (fun _ => 0))), ((q 3), .inl (cI, 12, .inl (fun _ => 0))), ((q 4), .inl (cI, 1880, .inl (fun _ => 0)))] := hD
  refine lv_if_ne (tgt := 13) hx hb dX8_name_8 (by decide) (fun c => absurd (by decide) c) (fun _ => ?_)
  refine lv_iconst (v := 0) hx hb dX8_name_11 (by decide) ?_
  exact gw_zret () hx hb hr hlocks rfl (hP.sub [] rfl) (hD.sub [] (by decide) rfl) hS rfl dX8_name_12
def v_X8_end (p1 : Int32) : Int32 := (if p1 < 0 then (-1) else (if p1 ≤ 0 then p1 else (-1)))
set_option maxHeartbeats 4000000 in
set_option maxRecDepth 100000 in
theorem c_X8_end (l : Launch) (G : va_G) (cI cJ cZ cB cT : ClassId) (q : Nat → Nat) (p1 : Int32)  : gMi l yX8_end (gws yX8_end cX8_end 2 (some .int)) 1 G (gT cI cJ cZ cB cT) [.ref (q 0), .int p1] [((q 0), .inr (8, [.ref (q 1), .ref (q 5), .ref (q 9), .ref (q 11), .ref (q 15), .ref (q 16), .ref (q 20), .ref (q 23)])), ((q 9), .inr (5, [.ref (q 10), .int 0])), ((q 10), .inl (cI, 300, .inl (fun _ => 0)))] (fun r (_ : Unit) => r = (v_X8_end p1)) (fun (_ : Unit) => ([] : va_W)) := by
  intro sz
  refine gM_start (y := yX8_end) (av := [.ref (q 0), .int p1]) (ws := [((q 0), .inr (8, [.ref (q 1), .ref (q 5), .ref (q 9), .ref (q 11), .ref (q 15), .ref (q 16), .ref (q 20), .ref (q 23)])), ((q 9), .inr (5, [.ref (q 10), .int 0])), ((q 10), .inl (cI, 300, .inl (fun _ => 0)))]) (Qf := fun A => va_Qi (fun r (_ : Unit) => r = (v_X8_end p1)) (gB G (fun (_ : Unit) => ([] : va_W)) A) A) (cc := cX8_end) (maxL := 2) (ret := (some .int)) (by decide) (Nat.le_of_ble_eq_true rfl) ?_
  intro p e s m args below meth c A ls H hx hb hr hts hown hin hlocks hml hP hK hD hA hS hl
  have hl : lv_has ls 2 [(0, .ref (q 0)), (1, .int p1)] := hl
  refine lv_iload_n hx hb dX8_end_0 rfl (lv_at hl 1 rfl) ?_
  refine lv_if_lt (tgt := 15) hx hb dX8_end_1 (by decide) (fun c_1 => ?_) (fun c_1 => ?_)
  · refine lv_iconst (v := (-1)) hx hb dX8_end_15 (by decide) ?_
    exact gw_iret () hx hb hr hlocks (hP.sub [] rfl) (hD.sub [] (by decide) rfl) hS (by rw [v_X8_end, if_pos c_1]) dX8_end_16
  · refine lv_iload_n hx hb dX8_end_4 rfl (lv_at hl 1 rfl) ?_
    refine lv_aload_n hx hb dX8_end_5 rfl (lv_at hl 0 rfl) ?_
    refine va_get (D := G) (ci := 8) (v := .ref (q 9)) (C := RX8) (T := TX8) (N := 8) hx hb hts iX8 hown hK hP 0 rfl rfl 2 (by decide) (hts _ m_73) (fun _ h9 => h9) rfl dX8_end_6 ?_
    refine va_get (D := G) (ci := 5) (v := .int 0) (C := RX5) (T := TX5) (N := 2) hx hb hts iX5 hown hK hP 1 rfl rfl 1 (by decide) (hts _ m_74) (fun _ h9 => h9) rfl dX8_end_9 ?_
    refine lv_icmp_le (tgt := 17) hx hb dX8_end_12 (by decide) (fun c_2 => ?_) (fun c_2 => ?_)
    · refine lv_aload_n hx hb dX8_end_17 rfl (lv_at hl 0 rfl) ?_
      refine va_get (D := G) (ci := 8) (v := .ref (q 9)) (C := RX8) (T := TX8) (N := 8) hx hb hts iX8 hown hK hP 0 rfl rfl 2 (by decide) (hts _ m_73) (fun _ h9 => h9) rfl dX8_end_18 ?_
      refine lv_iload_n hx hb dX8_end_21 rfl (lv_at hl 1 rfl) ?_
      refine va_put (D := G) (ci := 5) (v := .int p1) (ty := .int) (C := RX5) (T := TX5) (N := 2) hx hb hts iX5 tyX5 tyX5_ok nmX5 hown hK hP hD hS 1 rfl rfl 1 (by decide) (hts _ m_74) (fun _ h9 => h9) rfl (tyX5_ok 1 (by decide)) rfl rfl (Nat.le_of_ble_eq_true rfl) dX8_end_22 (fun H locs hP hD hS => ?_)
      have hP : va_P G vwCl [((q 0), .inr (8, [.ref (q 1), .ref (q 5), .ref (q 9), .ref (q 11), .ref (q 15), .ref (q 16), .ref (q 20), .ref (q 23)])), ((q 9), .inr (5, [.ref (q 10), .int p1])), ((q 10), .inl (cI, 300, .inl (fun _ => 0)))] H := hP
      have hD : va_D A [((q 0), .inr (8, [.ref (q 1), .ref (q 5), .ref (q 9), .ref (q 11), .ref (q 15), .ref (q 16), .ref (q 20), .ref (q 23)])), ((q 9), .inr (5, [.ref (q 10), .int p1])), ((q 10), .inl (cI, 300, .inl (fun _ => 0)))] := hD
      refine lv_iload_n hx hb dX8_end_25 rfl (lv_at hl 1 rfl) ?_
      exact gw_iret () hx hb hr hlocks (hP.sub [] rfl) (hD.sub [] (by decide) rfl) hS (by rw [v_X8_end, if_neg c_1, if_pos c_2]) dX8_end_26
    · refine lv_iconst (v := (-1)) hx hb dX8_end_15 (by decide) ?_
      exact gw_iret () hx hb hr hlocks (hP.sub [] rfl) (hD.sub [] (by decide) rfl) hS (by rw [v_X8_end, if_neg c_1, if_neg c_2]) dX8_end_16
def v_X8_by (p1 : Int32) : Int32 := (if p1 < (-1) then 0 else (if p1 < 0 then 1 else 0))
theorem vz_X8_by (p1 : Int32) : v_X8_by p1 = 0 ∨ v_X8_by p1 = 1 := by
  unfold v_X8_by
  (repeat' split) <;> first | exact Or.inl rfl | exact Or.inr rfl
set_option maxHeartbeats 4000000 in
set_option maxRecDepth 100000 in
theorem c_X8_by (l : Launch) (G : va_G) (cI cJ cZ cB cT : ClassId) (q : Nat → Nat) (p1 : Int32)  : gMi l yX8_by (gws yX8_by cX8_by 2 (some .boolean)) 1 G (gT cI cJ cZ cB cT) [.ref (q 0), .int p1] [((q 0), .inr (8, [.ref (q 1), .ref (q 5), .ref (q 9), .ref (q 11), .ref (q 15), .ref (q 16), .ref (q 20), .ref (q 23)])), ((q 1), .inr (4, [.ref (q 2), .ref (q 3), .ref (q 4), .int 0, .int 0, .int 0, .int 0, .int 0, .int 9, .int 0, .int (-1), .int 0, .int 0])), ((q 2), .inl (cI, 90, .inl (fun _ => 0))), ((q 3), .inl (cI, 12, .inl (fun _ => 0))), ((q 4), .inl (cI, 1880, .inl (fun _ => 0)))] (fun r (_ : Unit) => r = (v_X8_by p1)) (fun (_ : Unit) => ([] : va_W)) := by
  intro sz
  refine gM_start (y := yX8_by) (av := [.ref (q 0), .int p1]) (ws := [((q 0), .inr (8, [.ref (q 1), .ref (q 5), .ref (q 9), .ref (q 11), .ref (q 15), .ref (q 16), .ref (q 20), .ref (q 23)])), ((q 1), .inr (4, [.ref (q 2), .ref (q 3), .ref (q 4), .int 0, .int 0, .int 0, .int 0, .int 0, .int 9, .int 0, .int (-1), .int 0, .int 0])), ((q 2), .inl (cI, 90, .inl (fun _ => 0))), ((q 3), .inl (cI, 12, .inl (fun _ => 0))), ((q 4), .inl (cI, 1880, .inl (fun _ => 0)))]) (Qf := fun A => va_Qi (fun r (_ : Unit) => r = (v_X8_by p1)) (gB G (fun (_ : Unit) => ([] : va_W)) A) A) (cc := cX8_by) (maxL := 2) (ret := (some .boolean)) (by decide) (Nat.le_of_ble_eq_true rfl) ?_
  intro p e s m args below meth c A ls H hx hb hr hts hown hin hlocks hml hP hK hD hA hS hl
  have hl : lv_has ls 2 [(0, .ref (q 0)), (1, .int p1)] := hl
  refine lv_iload_n hx hb dX8_by_0 rfl (lv_at hl 1 rfl) ?_
  refine lv_iconst (v := (-1)) hx hb dX8_by_1 (by decide) ?_
  refine lv_icmp_lt (tgt := 16) hx hb dX8_by_2 (by decide) (fun c_1 => ?_) (fun c_1 => ?_)
  · refine lv_iconst (v := 0) hx hb dX8_by_16 (by decide) ?_
    exact gw_zret () hx hb hr hlocks rfl (hP.sub [] rfl) (hD.sub [] (by decide) rfl) hS (by rw [v_X8_by, if_pos c_1]) dX8_by_17
  · refine lv_iload_n hx hb dX8_by_5 rfl (lv_at hl 1 rfl) ?_
    refine lv_aload_n hx hb dX8_by_6 rfl (lv_at hl 0 rfl) ?_
    refine va_get (D := G) (ci := 8) (v := .ref (q 1)) (C := RX8) (T := TX8) (N := 8) hx hb hts iX8 hown hK hP 0 rfl rfl 0 (by decide) (hts _ m_49) (fun _ h9 => h9) rfl dX8_by_7 ?_
    refine va_get (D := G) (ci := 4) (v := .int 0) (C := RX4) (T := TX4) (N := 13) hx hb hts iX4 hown hK hP 1 rfl rfl 9 (by decide) (hts _ m_75) (fun _ h9 => h9) rfl dX8_by_10 ?_
    refine lv_icmp_lt (tgt := 18) hx hb dX8_by_13 (by decide) (fun c_2 => ?_) (fun c_2 => ?_)
    · refine lv_aload_n hx hb dX8_by_18 rfl (lv_at hl 0 rfl) ?_
      refine va_get (D := G) (ci := 8) (v := .ref (q 1)) (C := RX8) (T := TX8) (N := 8) hx hb hts iX8 hown hK hP 0 rfl rfl 0 (by decide) (hts _ m_49) (fun _ h9 => h9) rfl dX8_by_19 ?_
      refine lv_iload_n hx hb dX8_by_22 rfl (lv_at hl 1 rfl) ?_
      refine va_put (D := G) (ci := 4) (v := .int p1) (ty := .int) (C := RX4) (T := TX4) (N := 13) hx hb hts iX4 tyX4 tyX4_ok nmX4 hown hK hP hD hS 1 rfl rfl 10 (by decide) (hts _ m_76) (fun _ h9 => h9) rfl (tyX4_ok 10 (by decide)) rfl rfl (Nat.le_of_ble_eq_true rfl) dX8_by_23 (fun H locs hP hD hS => ?_)
      have hP : va_P G vwCl [((q 0), .inr (8, [.ref (q 1), .ref (q 5), .ref (q 9), .ref (q 11), .ref (q 15), .ref (q 16), .ref (q 20), .ref (q 23)])), ((q 1), .inr (4, [.ref (q 2), .ref (q 3), .ref (q 4), .int 0, .int 0, .int 0, .int 0, .int 0, .int 9, .int 0, .int p1, .int 0, .int 0])), ((q 2), .inl (cI, 90, .inl (fun _ => 0))), ((q 3), .inl (cI, 12, .inl (fun _ => 0))), ((q 4), .inl (cI, 1880, .inl (fun _ => 0)))] H := hP
      have hD : va_D A [((q 0), .inr (8, [.ref (q 1), .ref (q 5), .ref (q 9), .ref (q 11), .ref (q 15), .ref (q 16), .ref (q 20), .ref (q 23)])), ((q 1), .inr (4, [.ref (q 2), .ref (q 3), .ref (q 4), .int 0, .int 0, .int 0, .int 0, .int 0, .int 9, .int 0, .int p1, .int 0, .int 0])), ((q 2), .inl (cI, 90, .inl (fun _ => 0))), ((q 3), .inl (cI, 12, .inl (fun _ => 0))), ((q 4), .inl (cI, 1880, .inl (fun _ => 0)))] := hD
      refine lv_iconst (v := 1) hx hb dX8_by_26 (by decide) ?_
      exact gw_zret () hx hb hr hlocks rfl (hP.sub [] rfl) (hD.sub [] (by decide) rfl) hS (by rw [v_X8_by, if_neg c_1, if_pos c_2]) dX8_by_27
    · refine lv_iconst (v := 0) hx hb dX8_by_16 (by decide) ?_
      exact gw_zret () hx hb hr hlocks rfl (hP.sub [] rfl) (hD.sub [] (by decide) rfl) hS (by rw [v_X8_by, if_neg c_1, if_neg c_2]) dX8_by_17
theorem e_X4_takeStepBack : yX4_takeStepBack.cls = RX4 ∧ yX4_takeStepBack.cls ≠ "java/lang/invoke/MethodHandle" ∧ yX4_takeStepBack.cls ≠ "java/lang/invoke/VarHandle" ∧ (parseMethodDescriptor yX4_takeStepBack.desc).map (fun d => d.parameters.length) = some 0 := by decide +kernel
set_option maxHeartbeats 4000000 in
set_option maxRecDepth 100000 in
theorem c_X8_undo (l : Launch) (G : va_G) (cI cJ cZ cB cT : ClassId) (q : Nat → Nat)  : gMi l yX8_undo (gws yX8_undo cX8_undo 1 (some .int)) 2 G (gT cI cJ cZ cB cT) [.ref (q 0)] [((q 0), .inr (8, [.ref (q 1), .ref (q 5), .ref (q 9), .ref (q 11), .ref (q 15), .ref (q 16), .ref (q 20), .ref (q 23)])), ((q 1), .inr (4, [.ref (q 2), .ref (q 3), .ref (q 4), .int 0, .int 0, .int 0, .int 0, .int 0, .int 9, .int 0, .int (-1), .int 0, .int 0])), ((q 2), .inl (cI, 90, .inl (fun _ => 0))), ((q 3), .inl (cI, 12, .inl (fun _ => 0))), ((q 4), .inl (cI, 1880, .inl (fun _ => 0)))] (fun r (_ : Unit) => r = (-1)) (fun (_ : Unit) => ([] : va_W)) := by
  intro sz
  refine gM_start (y := yX8_undo) (av := [.ref (q 0)]) (ws := [((q 0), .inr (8, [.ref (q 1), .ref (q 5), .ref (q 9), .ref (q 11), .ref (q 15), .ref (q 16), .ref (q 20), .ref (q 23)])), ((q 1), .inr (4, [.ref (q 2), .ref (q 3), .ref (q 4), .int 0, .int 0, .int 0, .int 0, .int 0, .int 9, .int 0, .int (-1), .int 0, .int 0])), ((q 2), .inl (cI, 90, .inl (fun _ => 0))), ((q 3), .inl (cI, 12, .inl (fun _ => 0))), ((q 4), .inl (cI, 1880, .inl (fun _ => 0)))]) (Qf := fun A => va_Qi (fun r (_ : Unit) => r = (-1)) (gB G (fun (_ : Unit) => ([] : va_W)) A) A) (cc := cX8_undo) (maxL := 1) (ret := (some .int)) (by decide) (Nat.le_of_ble_eq_true rfl) ?_
  intro p e s m args below meth c A ls H hx hb hr hts hown hin hlocks hml hP hK hD hA hS hl
  have hl : lv_has ls 1 [(0, .ref (q 0))] := hl
  refine lv_aload_n hx hb dX8_undo_0 rfl (lv_at hl 0 rfl) ?_
  refine va_get (D := G) (ci := 8) (v := .ref (q 1)) (C := RX8) (T := TX8) (N := 8) hx hb hts iX8 hown hK hP 0 rfl rfl 0 (by decide) (hts _ m_49) (fun _ h9 => h9) rfl dX8_undo_1 ?_
  refine gw_calli (gw_runV (As := []) (rest := []) ⟨hx, hb, hml, hown, hts⟩ (c_takeStepBack0 l G cI cJ cZ cB cT (q 1) (q 2) (q 3) (q 4) (fun _ => 0) (fun _ => 0) (fun _ => 0)  H.size) (gG_V m_78 m_79 m_80 m_6 m_77) rfl e_X4_takeStepBack ⟨Nat.le_of_ble_eq_true rfl, Nat.le_of_ble_eq_true rfl⟩ hK hP hD [1, 2, 3, 4] rfl (by decide) rfl 0 rfl rfl rfl hl.1 rfl (Nat.le_of_ble_eq_true rfl) dX8_undo_4 ⟨Nat.le_of_ble_eq_true rfl, Nat.le_of_ble_eq_true rfl⟩) hP hD hS hA [1, 2, 3, 4] [0] rfl rfl (by decide) (by decide) (fun r_1 u_1 H locs hw_1 hP hD hS => ?_)
  subst hw_1
  have hP : va_P G vwCl [((q 0), .inr (8, [.ref (q 1), .ref (q 5), .ref (q 9), .ref (q 11), .ref (q 15), .ref (q 16), .ref (q 20), .ref (q 23)])), ((q 1), .inr (4, [.ref (q 2), .ref (q 3), .ref (q 4), .int 0, .int 0, .int 0, .int 0, .int 0, .int 9, .int 0, .int (-1), .int 0, .int 0])), ((q 2), .inl (cI, 90, .inl (fun _ => 0))), ((q 3), .inl (cI, 12, .inl (fun _ => 0))), ((q 4), .inl (cI, 1880, .inl (fun _ => 0)))] H := hP
  have hD : va_D A [((q 0), .inr (8, [.ref (q 1), .ref (q 5), .ref (q 9), .ref (q 11), .ref (q 15), .ref (q 16), .ref (q 20), .ref (q 23)])), ((q 1), .inr (4, [.ref (q 2), .ref (q 3), .ref (q 4), .int 0, .int 0, .int 0, .int 0, .int 0, .int 9, .int 0, .int (-1), .int 0, .int 0])), ((q 2), .inl (cI, 90, .inl (fun _ => 0))), ((q 3), .inl (cI, 12, .inl (fun _ => 0))), ((q 4), .inl (cI, 1880, .inl (fun _ => 0)))] := hD
  refine lv_if_eq (tgt := 20) hx hb dX8_undo_7 (by decide) (fun _ => ?_) (fun c => absurd (by decide) c)
  refine lv_iconst (v := (-1)) hx hb dX8_undo_20 (by decide) ?_
  exact gw_iret () hx hb hr hlocks (hP.sub [] rfl) (hD.sub [] (by decide) rfl) hS rfl dX8_undo_21
set_option maxHeartbeats 4000000 in
set_option maxRecDepth 100000 in
theorem c_X8_of (l : Launch) (G : va_G) (cI cJ cZ cB cT : ClassId) (q : Nat → Nat) (p1 : Int32) (p2 : Int32)  : gMi l yX8_of (gws yX8_of cX8_of 3 (some .int)) 2 G (gT cI cJ cZ cB cT) [.ref (q 0), .int p1, .int p2] [((q 0), .inr (8, [.ref (q 1), .ref (q 5), .ref (q 9), .ref (q 11), .ref (q 15), .ref (q 16), .ref (q 20), .ref (q 23)])), ((q 1), .inr (4, [.ref (q 2), .ref (q 3), .ref (q 4), .int 0, .int 0, .int 0, .int 0, .int 0, .int 9, .int 0, .int (-1), .int 0, .int 0])), ((q 2), .inl (cI, 90, .inl (fun _ => 0))), ((q 3), .inl (cI, 12, .inl (fun _ => 0))), ((q 4), .inl (cI, 1880, .inl (fun _ => 0)))] (fun r (_ : Unit) => r = (-2)) (fun (_ : Unit) => ([] : va_W)) := by
  intro sz
  refine gM_start (y := yX8_of) (av := [.ref (q 0), .int p1, .int p2]) (ws := [((q 0), .inr (8, [.ref (q 1), .ref (q 5), .ref (q 9), .ref (q 11), .ref (q 15), .ref (q 16), .ref (q 20), .ref (q 23)])), ((q 1), .inr (4, [.ref (q 2), .ref (q 3), .ref (q 4), .int 0, .int 0, .int 0, .int 0, .int 0, .int 9, .int 0, .int (-1), .int 0, .int 0])), ((q 2), .inl (cI, 90, .inl (fun _ => 0))), ((q 3), .inl (cI, 12, .inl (fun _ => 0))), ((q 4), .inl (cI, 1880, .inl (fun _ => 0)))]) (Qf := fun A => va_Qi (fun r (_ : Unit) => r = (-2)) (gB G (fun (_ : Unit) => ([] : va_W)) A) A) (cc := cX8_of) (maxL := 3) (ret := (some .int)) (by decide) (Nat.le_of_ble_eq_true rfl) ?_
  intro p e s m args below meth c A ls H hx hb hr hts hown hin hlocks hml hP hK hD hA hS hl
  have hl : lv_has ls 3 [(0, .ref (q 0)), (1, .int p1), (2, .int p2)] := hl
  refine lv_aload_n hx hb dX8_of_0 rfl (lv_at hl 0 rfl) ?_
  refine va_get (D := G) (ci := 8) (v := .ref (q 1)) (C := RX8) (T := TX8) (N := 8) hx hb hts iX8 hown hK hP 0 rfl rfl 0 (by decide) (hts _ m_49) (fun _ h9 => h9) rfl dX8_of_1 ?_
  refine lv_iload_n hx hb dX8_of_4 rfl (lv_at hl 1 rfl) ?_
  refine gw_calli (gw_runV (As := [.int p1]) (rest := []) ⟨hx, hb, hml, hown, hts⟩ (c_hasGoose0 l G cI cJ cZ cB cT (q 1) (q 2) (q 3) (q 4) 0 0 0 0 9 0 (-1) 0 0 (fun _ => 0) (fun _ => 0) (fun _ => 0) p1  H.size) (gG_V m_81 m_26 m_27 m_6 m_24) rfl e_X4_hasGoose ⟨Nat.le_of_ble_eq_true rfl, Nat.le_of_ble_eq_true rfl⟩ hK hP hD [1, 2, 3, 4] rfl (by decide) rfl 0 rfl rfl rfl hl.1 rfl (Nat.le_of_ble_eq_true rfl) dX8_of_5 ⟨Nat.le_of_ble_eq_true rfl, Nat.le_of_ble_eq_true rfl⟩) hP hD hS hA [1, 2, 3, 4] [0] rfl rfl (by decide) (by decide) (fun r_1 u_1 H locs hw_1 hP hD hS => ?_)
  subst hw_1
  have hP : va_P G vwCl [((q 0), .inr (8, [.ref (q 1), .ref (q 5), .ref (q 9), .ref (q 11), .ref (q 15), .ref (q 16), .ref (q 20), .ref (q 23)])), ((q 1), .inr (4, [.ref (q 2), .ref (q 3), .ref (q 4), .int 0, .int 0, .int 0, .int 0, .int 0, .int 9, .int 0, .int (-1), .int 0, .int 0])), ((q 2), .inl (cI, 90, .inl (fun _ => 0))), ((q 3), .inl (cI, 12, .inl (fun _ => 0))), ((q 4), .inl (cI, 1880, .inl (fun _ => 0)))] H := hP
  have hD : va_D A [((q 0), .inr (8, [.ref (q 1), .ref (q 5), .ref (q 9), .ref (q 11), .ref (q 15), .ref (q 16), .ref (q 20), .ref (q 23)])), ((q 1), .inr (4, [.ref (q 2), .ref (q 3), .ref (q 4), .int 0, .int 0, .int 0, .int 0, .int 0, .int 9, .int 0, .int (-1), .int 0, .int 0])), ((q 2), .inl (cI, 90, .inl (fun _ => 0))), ((q 3), .inl (cI, 12, .inl (fun _ => 0))), ((q 4), .inl (cI, 1880, .inl (fun _ => 0)))] := hD
  refine lv_if_eq (tgt := 21) hx hb dX8_of_8 (by decide) (fun _ => ?_) (fun c => absurd (by decide) c)
  refine lv_bipush (v := (-2)) hx hb dX8_of_21 (by decide) ?_
  exact gw_iret () hx hb hr hlocks (hP.sub [] rfl) (hD.sub [] (by decide) rfl) hS rfl dX8_of_23
set_option maxHeartbeats 4000000 in
set_option maxRecDepth 100000 in
theorem c_X8_ink (l : Launch) (G : va_G) (cI cJ cZ cB cT : ClassId) (q : Nat → Nat) (p1 : Int32) (p2 : Int32) (p3 : Int32)  : gMi l yX8_ink (gws yX8_ink cX8_ink 4 (some .int)) 2 G (gT cI cJ cZ cB cT) [.ref (q 0), .int p1, .int p2, .int p3] [((q 0), .inr (8, [.ref (q 1), .ref (q 5), .ref (q 9), .ref (q 11), .ref (q 15), .ref (q 16), .ref (q 20), .ref (q 23)])), ((q 1), .inr (4, [.ref (q 2), .ref (q 3), .ref (q 4), .int 0, .int 0, .int 0, .int 0, .int 0, .int 9, .int 0, .int (-1), .int 0, .int 0])), ((q 2), .inl (cI, 90, .inl (fun _ => 0))), ((q 3), .inl (cI, 12, .inl (fun _ => 0))), ((q 4), .inl (cI, 1880, .inl (fun _ => 0)))] (fun r (_ : Unit) => r = (-1)) (fun (_ : Unit) => ([] : va_W)) := by
  intro sz
  refine gM_start (y := yX8_ink) (av := [.ref (q 0), .int p1, .int p2, .int p3]) (ws := [((q 0), .inr (8, [.ref (q 1), .ref (q 5), .ref (q 9), .ref (q 11), .ref (q 15), .ref (q 16), .ref (q 20), .ref (q 23)])), ((q 1), .inr (4, [.ref (q 2), .ref (q 3), .ref (q 4), .int 0, .int 0, .int 0, .int 0, .int 0, .int 9, .int 0, .int (-1), .int 0, .int 0])), ((q 2), .inl (cI, 90, .inl (fun _ => 0))), ((q 3), .inl (cI, 12, .inl (fun _ => 0))), ((q 4), .inl (cI, 1880, .inl (fun _ => 0)))]) (Qf := fun A => va_Qi (fun r (_ : Unit) => r = (-1)) (gB G (fun (_ : Unit) => ([] : va_W)) A) A) (cc := cX8_ink) (maxL := 4) (ret := (some .int)) (by decide) (Nat.le_of_ble_eq_true rfl) ?_
  intro p e s m args below meth c A ls H hx hb hr hts hown hin hlocks hml hP hK hD hA hS hl
  have hl : lv_has ls 4 [(0, .ref (q 0)), (1, .int p1), (2, .int p2), (3, .int p3)] := hl
  refine lv_aload_n hx hb dX8_ink_0 rfl (lv_at hl 0 rfl) ?_
  refine va_get (D := G) (ci := 8) (v := .ref (q 1)) (C := RX8) (T := TX8) (N := 8) hx hb hts iX8 hown hK hP 0 rfl rfl 0 (by decide) (hts _ m_49) (fun _ h9 => h9) rfl dX8_ink_1 ?_
  refine lv_iload_n hx hb dX8_ink_4 rfl (lv_at hl 1 rfl) ?_
  refine gw_calli (gw_runV (As := [.int p1]) (rest := []) ⟨hx, hb, hml, hown, hts⟩ (c_hasGoose0 l G cI cJ cZ cB cT (q 1) (q 2) (q 3) (q 4) 0 0 0 0 9 0 (-1) 0 0 (fun _ => 0) (fun _ => 0) (fun _ => 0) p1  H.size) (gG_V m_81 m_26 m_27 m_6 m_24) rfl e_X4_hasGoose ⟨Nat.le_of_ble_eq_true rfl, Nat.le_of_ble_eq_true rfl⟩ hK hP hD [1, 2, 3, 4] rfl (by decide) rfl 0 rfl rfl rfl hl.1 rfl (Nat.le_of_ble_eq_true rfl) dX8_ink_5 ⟨Nat.le_of_ble_eq_true rfl, Nat.le_of_ble_eq_true rfl⟩) hP hD hS hA [1, 2, 3, 4] [0] rfl rfl (by decide) (by decide) (fun r_1 u_1 H locs hw_1 hP hD hS => ?_)
  subst hw_1
  have hP : va_P G vwCl [((q 0), .inr (8, [.ref (q 1), .ref (q 5), .ref (q 9), .ref (q 11), .ref (q 15), .ref (q 16), .ref (q 20), .ref (q 23)])), ((q 1), .inr (4, [.ref (q 2), .ref (q 3), .ref (q 4), .int 0, .int 0, .int 0, .int 0, .int 0, .int 9, .int 0, .int (-1), .int 0, .int 0])), ((q 2), .inl (cI, 90, .inl (fun _ => 0))), ((q 3), .inl (cI, 12, .inl (fun _ => 0))), ((q 4), .inl (cI, 1880, .inl (fun _ => 0)))] H := hP
  have hD : va_D A [((q 0), .inr (8, [.ref (q 1), .ref (q 5), .ref (q 9), .ref (q 11), .ref (q 15), .ref (q 16), .ref (q 20), .ref (q 23)])), ((q 1), .inr (4, [.ref (q 2), .ref (q 3), .ref (q 4), .int 0, .int 0, .int 0, .int 0, .int 0, .int 9, .int 0, .int (-1), .int 0, .int 0])), ((q 2), .inl (cI, 90, .inl (fun _ => 0))), ((q 3), .inl (cI, 12, .inl (fun _ => 0))), ((q 4), .inl (cI, 1880, .inl (fun _ => 0)))] := hD
  refine lv_if_eq (tgt := 19) hx hb dX8_ink_8 (by decide) (fun _ => ?_) (fun c => absurd (by decide) c)
  refine lv_iconst (v := (-1)) hx hb dX8_ink_19 (by decide) ?_
  exact gw_iret () hx hb hr hlocks (hP.sub [] rfl) (hD.sub [] (by decide) rfl) hS rfl dX8_ink_20
set_option maxHeartbeats 4000000 in
set_option maxRecDepth 100000 in
theorem c_X8_holds (l : Launch) (G : va_G) (cI cJ cZ cB cT : ClassId) (q : Nat → Nat)  : gMi l yX8_holds (gws yX8_holds cX8_holds 2 (some .int)) 3 G (gT cI cJ cZ cB cT) [.ref (q 0)] [((q 0), .inr (8, [.ref (q 1), .ref (q 5), .ref (q 9), .ref (q 11), .ref (q 15), .ref (q 16), .ref (q 20), .ref (q 23)])), ((q 1), .inr (4, [.ref (q 2), .ref (q 3), .ref (q 4), .int 0, .int 0, .int 0, .int 0, .int 0, .int 9, .int 0, .int (-1), .int 0, .int 0])), ((q 2), .inl (cI, 90, .inl (fun _ => 0))), ((q 3), .inl (cI, 12, .inl (fun _ => 0))), ((q 4), .inl (cI, 1880, .inl (fun _ => 0)))] (fun r (_ : Unit) => r = 999) (fun (_ : Unit) => ([] : va_W)) := by
  intro sz
  refine gM_start (y := yX8_holds) (av := [.ref (q 0)]) (ws := [((q 0), .inr (8, [.ref (q 1), .ref (q 5), .ref (q 9), .ref (q 11), .ref (q 15), .ref (q 16), .ref (q 20), .ref (q 23)])), ((q 1), .inr (4, [.ref (q 2), .ref (q 3), .ref (q 4), .int 0, .int 0, .int 0, .int 0, .int 0, .int 9, .int 0, .int (-1), .int 0, .int 0])), ((q 2), .inl (cI, 90, .inl (fun _ => 0))), ((q 3), .inl (cI, 12, .inl (fun _ => 0))), ((q 4), .inl (cI, 1880, .inl (fun _ => 0)))]) (Qf := fun A => va_Qi (fun r (_ : Unit) => r = 999) (gB G (fun (_ : Unit) => ([] : va_W)) A) A) (cc := cX8_holds) (maxL := 2) (ret := (some .int)) (by decide) (Nat.le_of_ble_eq_true rfl) ?_
  intro p e s m args below meth c A ls H hx hb hr hts hown hin hlocks hml hP hK hD hA hS hl
  have hl : lv_has ls 2 [(0, .ref (q 0))] := hl
  refine lv_aload_n hx hb dX8_holds_0 rfl (lv_at hl 0 rfl) ?_
  refine va_get (D := G) (ci := 8) (v := .ref (q 1)) (C := RX8) (T := TX8) (N := 8) hx hb hts iX8 hown hK hP 0 rfl rfl 0 (by decide) (hts _ m_49) (fun _ h9 => h9) rfl dX8_holds_1 ?_
  refine gw_calli (gw_runV (As := []) (rest := []) ⟨hx, hb, hml, hown, hts⟩ (c_dailyNeed0 l G cI cJ cZ cB cT (q 1) (q 2) (q 3) (q 4) 0 0 0 9 0 (-1) 0 0 (fun _ => 0) (fun _ => 0) (fun _ => 0)  H.size) (gG_V m_82 m_18 m_19 m_6 m_16) rfl e_X4_dailyNeed ⟨Nat.le_of_ble_eq_true rfl, Nat.le_of_ble_eq_true rfl⟩ hK hP hD [1, 2, 3, 4] rfl (by decide) rfl 0 rfl rfl rfl hl.1 rfl (Nat.le_of_ble_eq_true rfl) dX8_holds_4 ⟨Nat.le_of_ble_eq_true rfl, Nat.le_of_ble_eq_true rfl⟩) hP hD hS hA [1, 2, 3, 4] [0] rfl rfl (by decide) (by decide) (fun r_1 u_1 H locs hw_1 hP hD hS => ?_)
  subst hw_1
  have hP : va_P G vwCl [((q 0), .inr (8, [.ref (q 1), .ref (q 5), .ref (q 9), .ref (q 11), .ref (q 15), .ref (q 16), .ref (q 20), .ref (q 23)])), ((q 1), .inr (4, [.ref (q 2), .ref (q 3), .ref (q 4), .int 0, .int 0, .int 0, .int 0, .int 0, .int 9, .int 0, .int (-1), .int 0, .int 0])), ((q 2), .inl (cI, 90, .inl (fun _ => 0))), ((q 3), .inl (cI, 12, .inl (fun _ => 0))), ((q 4), .inl (cI, 1880, .inl (fun _ => 0)))] H := hP
  have hD : va_D A [((q 0), .inr (8, [.ref (q 1), .ref (q 5), .ref (q 9), .ref (q 11), .ref (q 15), .ref (q 16), .ref (q 20), .ref (q 23)])), ((q 1), .inr (4, [.ref (q 2), .ref (q 3), .ref (q 4), .int 0, .int 0, .int 0, .int 0, .int 0, .int 9, .int 0, .int (-1), .int 0, .int 0])), ((q 2), .inl (cI, 90, .inl (fun _ => 0))), ((q 3), .inl (cI, 12, .inl (fun _ => 0))), ((q 4), .inl (cI, 1880, .inl (fun _ => 0)))] := hD
  refine lv_istore_n (lv' := [(1, .int 0), (0, .ref (q 0))]) hx hb dX8_holds_7 rfl hl (by decide) rfl (fun ls hl => ?_)
  refine lv_iload_n hx hb dX8_holds_8 rfl (lv_at hl 0 rfl) ?_
  refine lv_iconst (v := 1) hx hb dX8_holds_9 (by decide) ?_
  refine lv_icmp_ge (tgt := 17) hx hb dX8_holds_10 (by decide) (fun c => absurd c (by decide)) (fun _ => ?_)
  refine lv_sipush (v := 999) hx hb dX8_holds_13 (by decide) ?_
  exact gw_iret () hx hb hr hlocks (hP.sub [] rfl) (hD.sub [] (by decide) rfl) hS rfl dX8_holds_16
theorem e_X4_copyFrom : yX4_copyFrom.cls = RX4 ∧ yX4_copyFrom.cls ≠ "java/lang/invoke/MethodHandle" ∧ yX4_copyFrom.cls ≠ "java/lang/invoke/VarHandle" ∧ (parseMethodDescriptor yX4_copyFrom.desc).map (fun d => d.parameters.length) = some 1 := by decide +kernel
set_option maxHeartbeats 4000000 in
set_option maxRecDepth 100000 in
theorem c_X8_image (l : Launch) (G : va_G) (cI cJ cZ cB cT : ClassId) (q : Nat → Nat)  : gMi l yX8_image (gws yX8_image cX8_image 1 (some .int)) 2 G (gT cI cJ cZ cB cT) [.ref (q 0)] [((q 0), .inr (8, [.ref (q 1), .ref (q 5), .ref (q 9), .ref (q 11), .ref (q 15), .ref (q 16), .ref (q 20), .ref (q 23)])), ((q 1), .inr (4, [.ref (q 2), .ref (q 3), .ref (q 4), .int 0, .int 0, .int 0, .int 0, .int 0, .int 9, .int 0, .int (-1), .int 0, .int 0])), ((q 2), .inl (cI, 90, .inl (fun _ => 0))), ((q 3), .inl (cI, 12, .inl (fun _ => 0))), ((q 4), .inl (cI, 1880, .inl (fun _ => 0))), ((q 5), .inr (4, [.ref (q 6), .ref (q 7), .ref (q 8), .int 0, .int 0, .int 0, .int 0, .int 0, .int 9, .int 0, .int (-1), .int 0, .int 0])), ((q 6), .inl (cI, 90, .inl (fun _ => 0))), ((q 7), .inl (cI, 12, .inl (fun _ => 0))), ((q 8), .inl (cI, 1880, .inl (fun _ => 0)))] (fun r (_ : Unit) => r = 0) (fun (_ : Unit) => ([] : va_W)) := by
  intro sz
  refine gM_start (y := yX8_image) (av := [.ref (q 0)]) (ws := [((q 0), .inr (8, [.ref (q 1), .ref (q 5), .ref (q 9), .ref (q 11), .ref (q 15), .ref (q 16), .ref (q 20), .ref (q 23)])), ((q 1), .inr (4, [.ref (q 2), .ref (q 3), .ref (q 4), .int 0, .int 0, .int 0, .int 0, .int 0, .int 9, .int 0, .int (-1), .int 0, .int 0])), ((q 2), .inl (cI, 90, .inl (fun _ => 0))), ((q 3), .inl (cI, 12, .inl (fun _ => 0))), ((q 4), .inl (cI, 1880, .inl (fun _ => 0))), ((q 5), .inr (4, [.ref (q 6), .ref (q 7), .ref (q 8), .int 0, .int 0, .int 0, .int 0, .int 0, .int 9, .int 0, .int (-1), .int 0, .int 0])), ((q 6), .inl (cI, 90, .inl (fun _ => 0))), ((q 7), .inl (cI, 12, .inl (fun _ => 0))), ((q 8), .inl (cI, 1880, .inl (fun _ => 0)))]) (Qf := fun A => va_Qi (fun r (_ : Unit) => r = 0) (gB G (fun (_ : Unit) => ([] : va_W)) A) A) (cc := cX8_image) (maxL := 1) (ret := (some .int)) (by decide) (Nat.le_of_ble_eq_true rfl) ?_
  intro p e s m args below meth c A ls H hx hb hr hts hown hin hlocks hml hP hK hD hA hS hl
  have hl : lv_has ls 1 [(0, .ref (q 0))] := hl
  refine lv_aload_n hx hb dX8_image_0 rfl (lv_at hl 0 rfl) ?_
  refine va_get (D := G) (ci := 8) (v := .ref (q 5)) (C := RX8) (T := TX8) (N := 8) hx hb hts iX8 hown hK hP 0 rfl rfl 1 (by decide) (hts _ m_83) (fun _ h9 => h9) rfl dX8_image_1 ?_
  refine lv_aload_n hx hb dX8_image_4 rfl (lv_at hl 0 rfl) ?_
  refine va_get (D := G) (ci := 8) (v := .ref (q 1)) (C := RX8) (T := TX8) (N := 8) hx hb hts iX8 hown hK hP 0 rfl rfl 0 (by decide) (hts _ m_49) (fun _ h9 => h9) rfl dX8_image_5 ?_
  refine gw_callv (gw_runV (As := [.ref (q 1)]) (rest := []) ⟨hx, hb, hml, hown, hts⟩ (c_copyFrom0 l G cI cJ cZ cB cT (q 5) (q 6) (q 7) (q 8) (fun _ => 0) (fun _ => 0) (fun _ => 0) (q 1) (q 2) (q 3) (q 4) (fun _ => 0) (fun _ => 0) (fun _ => 0)  H.size) (gG_V m_85 m_86 m_87 m_6 m_84) rfl e_X4_copyFrom ⟨Nat.le_of_ble_eq_true rfl, Nat.le_of_ble_eq_true rfl⟩ hK hP hD [5, 6, 7, 8, 1, 2, 3, 4] rfl (by decide) rfl 0 rfl rfl rfl hl.1 rfl (Nat.le_of_ble_eq_true rfl) dX8_image_8 ⟨Nat.le_of_ble_eq_true rfl, Nat.le_of_ble_eq_true rfl⟩) hP hD hS hA [5, 6, 7, 8, 1, 2, 3, 4] [0] rfl rfl (by decide) (by decide) (fun u_1 H locs hw_1 hP hD hS => ?_)
  have hP : va_P G vwCl [((q 0), .inr (8, [.ref (q 1), .ref (q 5), .ref (q 9), .ref (q 11), .ref (q 15), .ref (q 16), .ref (q 20), .ref (q 23)])), ((q 5), .inr (4, [.ref (q 6), .ref (q 7), .ref (q 8), .int 0, .int 0, .int 0, .int 0, .int 0, .int 9, .int 0, .int (-1), .int 0, .int 0])), ((q 6), .inl (cI, 90, .inl (va_cpy (fun _ => 0) (fun _ => 0) 0 0 90))), ((q 7), .inl (cI, 12, .inl (va_cpy (fun _ => 0) (fun _ => 0) 0 0 12))), ((q 8), .inl (cI, 1880, .inl (va_cpy (fun _ => 0) (fun _ => 0) 0 0 1880))), ((q 1), .inr (4, [.ref (q 2), .ref (q 3), .ref (q 4), .int 0, .int 0, .int 0, .int 0, .int 0, .int 9, .int 0, .int (-1), .int 0, .int 0])), ((q 2), .inl (cI, 90, .inl (fun _ => 0))), ((q 3), .inl (cI, 12, .inl (fun _ => 0))), ((q 4), .inl (cI, 1880, .inl (fun _ => 0)))] H := hP
  have hD : va_D A [((q 0), .inr (8, [.ref (q 1), .ref (q 5), .ref (q 9), .ref (q 11), .ref (q 15), .ref (q 16), .ref (q 20), .ref (q 23)])), ((q 5), .inr (4, [.ref (q 6), .ref (q 7), .ref (q 8), .int 0, .int 0, .int 0, .int 0, .int 0, .int 9, .int 0, .int (-1), .int 0, .int 0])), ((q 6), .inl (cI, 90, .inl (va_cpy (fun _ => 0) (fun _ => 0) 0 0 90))), ((q 7), .inl (cI, 12, .inl (va_cpy (fun _ => 0) (fun _ => 0) 0 0 12))), ((q 8), .inl (cI, 1880, .inl (va_cpy (fun _ => 0) (fun _ => 0) 0 0 1880))), ((q 1), .inr (4, [.ref (q 2), .ref (q 3), .ref (q 4), .int 0, .int 0, .int 0, .int 0, .int 0, .int 9, .int 0, .int (-1), .int 0, .int 0])), ((q 2), .inl (cI, 90, .inl (fun _ => 0))), ((q 3), .inl (cI, 12, .inl (fun _ => 0))), ((q 4), .inl (cI, 1880, .inl (fun _ => 0)))] := hD
  refine lv_aload_n hx hb dX8_image_11 rfl (lv_at hl 0 rfl) ?_
  refine va_get (D := G) (ci := 8) (v := .ref (q 1)) (C := RX8) (T := TX8) (N := 8) hx hb hts iX8 hown hK hP 0 rfl rfl 0 (by decide) (hts _ m_49) (fun _ h9 => h9) rfl dX8_image_12 ?_
  refine va_get (D := G) (ci := 4) (v := .int 0) (C := RX4) (T := TX4) (N := 13) hx hb hts iX4 hown hK hP 5 rfl rfl 7 (by decide) (hts _ m_88) (fun _ h9 => h9) rfl dX8_image_15 ?_
  exact gw_iret () hx hb hr hlocks (hP.sub [] rfl) (hD.sub [] (by decide) rfl) hS rfl dX8_image_18
set_option maxHeartbeats 4000000 in
set_option maxRecDepth 100000 in
theorem c_X8_back (l : Launch) (G : va_G) (cI cJ cZ cB cT : ClassId) (q : Nat → Nat)  : gMi l yX8_back (gws yX8_back cX8_back 1 (some .int)) 2 G (gT cI cJ cZ cB cT) [.ref (q 0)] [((q 0), .inr (8, [.ref (q 1), .ref (q 5), .ref (q 9), .ref (q 11), .ref (q 15), .ref (q 16), .ref (q 20), .ref (q 23)])), ((q 1), .inr (4, [.ref (q 2), .ref (q 3), .ref (q 4), .int 0, .int 0, .int 0, .int 0, .int 0, .int 9, .int 0, .int (-1), .int 0, .int 0])), ((q 2), .inl (cI, 90, .inl (fun _ => 0))), ((q 3), .inl (cI, 12, .inl (fun _ => 0))), ((q 4), .inl (cI, 1880, .inl (fun _ => 0))), ((q 5), .inr (4, [.ref (q 6), .ref (q 7), .ref (q 8), .int 0, .int 0, .int 0, .int 0, .int 0, .int 9, .int 0, .int (-1), .int 0, .int 0])), ((q 6), .inl (cI, 90, .inl (fun _ => 0))), ((q 7), .inl (cI, 12, .inl (fun _ => 0))), ((q 8), .inl (cI, 1880, .inl (fun _ => 0)))] (fun r (_ : Unit) => r = 0) (fun (_ : Unit) => ([] : va_W)) := by
  intro sz
  refine gM_start (y := yX8_back) (av := [.ref (q 0)]) (ws := [((q 0), .inr (8, [.ref (q 1), .ref (q 5), .ref (q 9), .ref (q 11), .ref (q 15), .ref (q 16), .ref (q 20), .ref (q 23)])), ((q 1), .inr (4, [.ref (q 2), .ref (q 3), .ref (q 4), .int 0, .int 0, .int 0, .int 0, .int 0, .int 9, .int 0, .int (-1), .int 0, .int 0])), ((q 2), .inl (cI, 90, .inl (fun _ => 0))), ((q 3), .inl (cI, 12, .inl (fun _ => 0))), ((q 4), .inl (cI, 1880, .inl (fun _ => 0))), ((q 5), .inr (4, [.ref (q 6), .ref (q 7), .ref (q 8), .int 0, .int 0, .int 0, .int 0, .int 0, .int 9, .int 0, .int (-1), .int 0, .int 0])), ((q 6), .inl (cI, 90, .inl (fun _ => 0))), ((q 7), .inl (cI, 12, .inl (fun _ => 0))), ((q 8), .inl (cI, 1880, .inl (fun _ => 0)))]) (Qf := fun A => va_Qi (fun r (_ : Unit) => r = 0) (gB G (fun (_ : Unit) => ([] : va_W)) A) A) (cc := cX8_back) (maxL := 1) (ret := (some .int)) (by decide) (Nat.le_of_ble_eq_true rfl) ?_
  intro p e s m args below meth c A ls H hx hb hr hts hown hin hlocks hml hP hK hD hA hS hl
  have hl : lv_has ls 1 [(0, .ref (q 0))] := hl
  refine lv_aload_n hx hb dX8_back_0 rfl (lv_at hl 0 rfl) ?_
  refine va_get (D := G) (ci := 8) (v := .ref (q 1)) (C := RX8) (T := TX8) (N := 8) hx hb hts iX8 hown hK hP 0 rfl rfl 0 (by decide) (hts _ m_49) (fun _ h9 => h9) rfl dX8_back_1 ?_
  refine lv_aload_n hx hb dX8_back_4 rfl (lv_at hl 0 rfl) ?_
  refine va_get (D := G) (ci := 8) (v := .ref (q 5)) (C := RX8) (T := TX8) (N := 8) hx hb hts iX8 hown hK hP 0 rfl rfl 1 (by decide) (hts _ m_83) (fun _ h9 => h9) rfl dX8_back_5 ?_
  refine gw_callv (gw_runV (As := [.ref (q 5)]) (rest := []) ⟨hx, hb, hml, hown, hts⟩ (c_copyFrom0 l G cI cJ cZ cB cT (q 1) (q 2) (q 3) (q 4) (fun _ => 0) (fun _ => 0) (fun _ => 0) (q 5) (q 6) (q 7) (q 8) (fun _ => 0) (fun _ => 0) (fun _ => 0)  H.size) (gG_V m_85 m_86 m_87 m_6 m_84) rfl e_X4_copyFrom ⟨Nat.le_of_ble_eq_true rfl, Nat.le_of_ble_eq_true rfl⟩ hK hP hD [1, 2, 3, 4, 5, 6, 7, 8] rfl (by decide) rfl 0 rfl rfl rfl hl.1 rfl (Nat.le_of_ble_eq_true rfl) dX8_back_8 ⟨Nat.le_of_ble_eq_true rfl, Nat.le_of_ble_eq_true rfl⟩) hP hD hS hA [1, 2, 3, 4, 5, 6, 7, 8] [0] rfl rfl (by decide) (by decide) (fun u_1 H locs hw_1 hP hD hS => ?_)
  have hP : va_P G vwCl [((q 0), .inr (8, [.ref (q 1), .ref (q 5), .ref (q 9), .ref (q 11), .ref (q 15), .ref (q 16), .ref (q 20), .ref (q 23)])), ((q 1), .inr (4, [.ref (q 2), .ref (q 3), .ref (q 4), .int 0, .int 0, .int 0, .int 0, .int 0, .int 9, .int 0, .int (-1), .int 0, .int 0])), ((q 2), .inl (cI, 90, .inl (va_cpy (fun _ => 0) (fun _ => 0) 0 0 90))), ((q 3), .inl (cI, 12, .inl (va_cpy (fun _ => 0) (fun _ => 0) 0 0 12))), ((q 4), .inl (cI, 1880, .inl (va_cpy (fun _ => 0) (fun _ => 0) 0 0 1880))), ((q 5), .inr (4, [.ref (q 6), .ref (q 7), .ref (q 8), .int 0, .int 0, .int 0, .int 0, .int 0, .int 9, .int 0, .int (-1), .int 0, .int 0])), ((q 6), .inl (cI, 90, .inl (fun _ => 0))), ((q 7), .inl (cI, 12, .inl (fun _ => 0))), ((q 8), .inl (cI, 1880, .inl (fun _ => 0)))] H := hP
  have hD : va_D A [((q 0), .inr (8, [.ref (q 1), .ref (q 5), .ref (q 9), .ref (q 11), .ref (q 15), .ref (q 16), .ref (q 20), .ref (q 23)])), ((q 1), .inr (4, [.ref (q 2), .ref (q 3), .ref (q 4), .int 0, .int 0, .int 0, .int 0, .int 0, .int 9, .int 0, .int (-1), .int 0, .int 0])), ((q 2), .inl (cI, 90, .inl (va_cpy (fun _ => 0) (fun _ => 0) 0 0 90))), ((q 3), .inl (cI, 12, .inl (va_cpy (fun _ => 0) (fun _ => 0) 0 0 12))), ((q 4), .inl (cI, 1880, .inl (va_cpy (fun _ => 0) (fun _ => 0) 0 0 1880))), ((q 5), .inr (4, [.ref (q 6), .ref (q 7), .ref (q 8), .int 0, .int 0, .int 0, .int 0, .int 0, .int 9, .int 0, .int (-1), .int 0, .int 0])), ((q 6), .inl (cI, 90, .inl (fun _ => 0))), ((q 7), .inl (cI, 12, .inl (fun _ => 0))), ((q 8), .inl (cI, 1880, .inl (fun _ => 0)))] := hD
  refine lv_aload_n hx hb dX8_back_11 rfl (lv_at hl 0 rfl) ?_
  refine va_get (D := G) (ci := 8) (v := .ref (q 1)) (C := RX8) (T := TX8) (N := 8) hx hb hts iX8 hown hK hP 0 rfl rfl 0 (by decide) (hts _ m_49) (fun _ h9 => h9) rfl dX8_back_12 ?_
  refine va_get (D := G) (ci := 4) (v := .int 0) (C := RX4) (T := TX4) (N := 13) hx hb hts iX4 hown hK hP 1 rfl rfl 7 (by decide) (hts _ m_88) (fun _ h9 => h9) rfl dX8_back_15 ?_
  exact gw_iret () hx hb hr hlocks (hP.sub [] rfl) (hD.sub [] (by decide) rfl) hS rfl dX8_back_18
def v_X8_aboutMany (p1 : Int32) : Int32 := (if p1 < 20 then (if p1 < 10 then (-2) else (-2)) else (if 26 ≤ p1 then (-2) else 0))
set_option maxHeartbeats 4000000 in
set_option maxRecDepth 100000 in
theorem c_X8_aboutMany (l : Launch) (G : va_G) (cI cJ cZ cB cT : ClassId) (q : Nat → Nat) (p1 : Int32)  : gMi l yX8_aboutMany (gws yX8_aboutMany cX8_aboutMany 3 (some .int)) 2 G (gT cI cJ cZ cB cT) [.ref (q 0), .int p1] [((q 0), .inr (8, [.ref (q 1), .ref (q 5), .ref (q 9), .ref (q 11), .ref (q 15), .ref (q 16), .ref (q 20), .ref (q 23)])), ((q 1), .inr (4, [.ref (q 2), .ref (q 3), .ref (q 4), .int 0, .int 0, .int 0, .int 0, .int 0, .int 9, .int 0, .int (-1), .int 0, .int 0])), ((q 2), .inl (cI, 90, .inl (fun _ => 0))), ((q 3), .inl (cI, 12, .inl (fun _ => 0))), ((q 4), .inl (cI, 1880, .inl (fun _ => 0)))] (fun r (_ : Unit) => r = (v_X8_aboutMany p1)) (fun (_ : Unit) => ([((q 0), .inr (8, [.ref (q 1), .ref (q 5), .ref (q 9), .ref (q 11), .ref (q 15), .ref (q 16), .ref (q 20), .ref (q 23)])), ((q 1), .inr (4, [.ref (q 2), .ref (q 3), .ref (q 4), .int 0, .int 0, .int 0, .int 0, .int 0, .int 9, .int 0, .int (-1), .int 0, .int 0])), ((q 2), .inl (cI, 90, .inl (fun _ => 0))), ((q 3), .inl (cI, 12, .inl (fun _ => 0))), ((q 4), .inl (cI, 1880, .inl (fun _ => 0)))] : va_W)) := by
  intro sz
  refine gM_start (y := yX8_aboutMany) (av := [.ref (q 0), .int p1]) (ws := [((q 0), .inr (8, [.ref (q 1), .ref (q 5), .ref (q 9), .ref (q 11), .ref (q 15), .ref (q 16), .ref (q 20), .ref (q 23)])), ((q 1), .inr (4, [.ref (q 2), .ref (q 3), .ref (q 4), .int 0, .int 0, .int 0, .int 0, .int 0, .int 9, .int 0, .int (-1), .int 0, .int 0])), ((q 2), .inl (cI, 90, .inl (fun _ => 0))), ((q 3), .inl (cI, 12, .inl (fun _ => 0))), ((q 4), .inl (cI, 1880, .inl (fun _ => 0)))]) (Qf := fun A => va_Qi (fun r (_ : Unit) => r = (v_X8_aboutMany p1)) (gB G (fun (_ : Unit) => ([((q 0), .inr (8, [.ref (q 1), .ref (q 5), .ref (q 9), .ref (q 11), .ref (q 15), .ref (q 16), .ref (q 20), .ref (q 23)])), ((q 1), .inr (4, [.ref (q 2), .ref (q 3), .ref (q 4), .int 0, .int 0, .int 0, .int 0, .int 0, .int 9, .int 0, .int (-1), .int 0, .int 0])), ((q 2), .inl (cI, 90, .inl (fun _ => 0))), ((q 3), .inl (cI, 12, .inl (fun _ => 0))), ((q 4), .inl (cI, 1880, .inl (fun _ => 0)))] : va_W)) A) A) (cc := cX8_aboutMany) (maxL := 3) (ret := (some .int)) (by decide) (Nat.le_of_ble_eq_true rfl) ?_
  intro p e s m args below meth c A ls H hx hb hr hts hown hin hlocks hml hP hK hD hA hS hl
  have hl : lv_has ls 3 [(0, .ref (q 0)), (1, .int p1)] := hl
  refine lv_iload_n hx hb dX8_aboutMany_0 rfl (lv_at hl 1 rfl) ?_
  refine lv_bipush (v := 20) hx hb dX8_aboutMany_1 (by decide) ?_
  refine lv_icmp_lt (tgt := 24) hx hb dX8_aboutMany_3 (by decide) (fun c_1 => ?_) (fun c_1 => ?_)
  · refine lv_iload_n hx hb dX8_aboutMany_24 rfl (lv_at hl 1 rfl) ?_
    refine lv_bipush (v := 10) hx hb dX8_aboutMany_25 (by decide) ?_
    refine lv_icmp_lt (tgt := 44) hx hb dX8_aboutMany_27 (by decide) (fun c_2 => ?_) (fun c_2 => ?_)
    · refine lv_bipush (v := (-2)) hx hb dX8_aboutMany_44 (by decide) ?_
      exact gw_iret () hx hb hr hlocks hP hD hS (by rw [v_X8_aboutMany, if_pos c_1, if_pos c_2]) dX8_aboutMany_46
    · refine lv_iload_n hx hb dX8_aboutMany_30 rfl (lv_at hl 1 rfl) ?_
      refine lv_bipush (v := 10) hx hb dX8_aboutMany_31 (by decide) ?_
      refine lv_aload_n hx hb dX8_aboutMany_33 rfl (lv_at hl 0 rfl) ?_
      refine va_get (D := G) (ci := 8) (v := .ref (q 1)) (C := RX8) (T := TX8) (N := 8) hx hb hts iX8 hown hK hP 0 rfl rfl 0 (by decide) (hts _ m_49) (fun _ h9 => h9) rfl dX8_aboutMany_34 ?_
      refine va_get (D := G) (ci := 4) (v := .int 0) (C := RX4) (T := TX4) (N := 13) hx hb hts iX4 hown hK hP 1 rfl rfl 4 (by decide) (hts _ m_89) (fun _ h9 => h9) rfl dX8_aboutMany_37 ?_
      refine lv_iadd hx hb dX8_aboutMany_40 ?_
      refine gw_topi (y := 10) (by decide) ?_
      refine lv_icmp_lt (tgt := 47) hx hb dX8_aboutMany_41 (by decide) (fun c => absurd c c_2) (fun _ => ?_)
      refine lv_bipush (v := (-2)) hx hb dX8_aboutMany_44 (by decide) ?_
      exact gw_iret () hx hb hr hlocks hP hD hS (by rw [v_X8_aboutMany, if_pos c_1, if_neg c_2]) dX8_aboutMany_46
  · refine lv_iload_n hx hb dX8_aboutMany_6 rfl (lv_at hl 1 rfl) ?_
    refine lv_bipush (v := 26) hx hb dX8_aboutMany_7 (by decide) ?_
    refine lv_icmp_ge (tgt := 24) hx hb dX8_aboutMany_9 (by decide) (fun c_3 => ?_) (fun c_3 => ?_)
    · refine lv_iload_n hx hb dX8_aboutMany_24 rfl (lv_at hl 1 rfl) ?_
      refine lv_bipush (v := 10) hx hb dX8_aboutMany_25 (by decide) ?_
      refine lv_icmp_lt (tgt := 44) hx hb dX8_aboutMany_27 (by decide) (fun c => absurd c (gi_nlt (by have := gi_of_nlt c_1; have := gi_of_le c_3; have : (10 : Int32).toInt = 10 := (by decide); have : (20 : Int32).toInt = 20 := (by decide); have : (26 : Int32).toInt = 26 := (by decide); omega))) (fun _ => ?_)
      refine lv_iload_n hx hb dX8_aboutMany_30 rfl (lv_at hl 1 rfl) ?_
      refine lv_bipush (v := 10) hx hb dX8_aboutMany_31 (by decide) ?_
      refine lv_aload_n hx hb dX8_aboutMany_33 rfl (lv_at hl 0 rfl) ?_
      refine va_get (D := G) (ci := 8) (v := .ref (q 1)) (C := RX8) (T := TX8) (N := 8) hx hb hts iX8 hown hK hP 0 rfl rfl 0 (by decide) (hts _ m_49) (fun _ h9 => h9) rfl dX8_aboutMany_34 ?_
      refine va_get (D := G) (ci := 4) (v := .int 0) (C := RX4) (T := TX4) (N := 13) hx hb hts iX4 hown hK hP 1 rfl rfl 4 (by decide) (hts _ m_89) (fun _ h9 => h9) rfl dX8_aboutMany_37 ?_
      refine lv_iadd hx hb dX8_aboutMany_40 ?_
      refine gw_topi (y := 10) (by decide) ?_
      refine lv_icmp_lt (tgt := 47) hx hb dX8_aboutMany_41 (by decide) (fun c => absurd c (gi_nlt (by have := gi_of_nlt c_1; have := gi_of_le c_3; have : (10 : Int32).toInt = 10 := (by decide); have : (20 : Int32).toInt = 20 := (by decide); have : (26 : Int32).toInt = 26 := (by decide); omega))) (fun _ => ?_)
      refine lv_bipush (v := (-2)) hx hb dX8_aboutMany_44 (by decide) ?_
      exact gw_iret () hx hb hr hlocks hP hD hS (by rw [v_X8_aboutMany, if_neg c_1, if_pos c_3]) dX8_aboutMany_46
    · refine lv_aload_n hx hb dX8_aboutMany_12 rfl (lv_at hl 0 rfl) ?_
      refine va_get (D := G) (ci := 8) (v := .ref (q 1)) (C := RX8) (T := TX8) (N := 8) hx hb hts iX8 hown hK hP 0 rfl rfl 0 (by decide) (hts _ m_49) (fun _ h9 => h9) rfl dX8_aboutMany_13 ?_
      refine lv_iload_n hx hb dX8_aboutMany_16 rfl (lv_at hl 1 rfl) ?_
      refine lv_bipush (v := 20) hx hb dX8_aboutMany_17 (by decide) ?_
      refine lv_isub hx hb dX8_aboutMany_19 ?_
      refine gw_calli (gw_runV (As := [.int (p1 - 20)]) (rest := []) ⟨hx, hb, hml, hown, hts⟩ (c_countFate0 l G cI cJ cZ cB cT (q 1) (q 2) (q 3) (q 4) 0 0 0 0 9 0 (-1) 0 0 (fun _ => 0) (fun _ => 0) (fun _ => 0) (p1 - 20)  H.size) (gG_V m_90 m_14 m_15 m_6 m_12) rfl e_X4_countFate ⟨Nat.le_of_ble_eq_true rfl, Nat.le_of_ble_eq_true rfl⟩ hK hP hD [1, 2, 3, 4] rfl (by decide) rfl 0 rfl rfl rfl hl.1 rfl (Nat.le_of_ble_eq_true rfl) dX8_aboutMany_20 ⟨Nat.le_of_ble_eq_true rfl, Nat.le_of_ble_eq_true rfl⟩) hP hD hS hA [1, 2, 3, 4] [0] rfl rfl (by decide) (by decide) (fun r_4 u_4 H locs hw_4 hP hD hS => ?_)
      subst hw_4
      have hP : va_P G vwCl [((q 0), .inr (8, [.ref (q 1), .ref (q 5), .ref (q 9), .ref (q 11), .ref (q 15), .ref (q 16), .ref (q 20), .ref (q 23)])), ((q 1), .inr (4, [.ref (q 2), .ref (q 3), .ref (q 4), .int 0, .int 0, .int 0, .int 0, .int 0, .int 9, .int 0, .int (-1), .int 0, .int 0])), ((q 2), .inl (cI, 90, .inl (fun _ => 0))), ((q 3), .inl (cI, 12, .inl (fun _ => 0))), ((q 4), .inl (cI, 1880, .inl (fun _ => 0)))] H := hP
      have hD : va_D A [((q 0), .inr (8, [.ref (q 1), .ref (q 5), .ref (q 9), .ref (q 11), .ref (q 15), .ref (q 16), .ref (q 20), .ref (q 23)])), ((q 1), .inr (4, [.ref (q 2), .ref (q 3), .ref (q 4), .int 0, .int 0, .int 0, .int 0, .int 0, .int 9, .int 0, .int (-1), .int 0, .int 0])), ((q 2), .inl (cI, 90, .inl (fun _ => 0))), ((q 3), .inl (cI, 12, .inl (fun _ => 0))), ((q 4), .inl (cI, 1880, .inl (fun _ => 0)))] := hD
      exact gw_iret () hx hb hr hlocks hP hD hS (by rw [v_X8_aboutMany, if_neg c_1, if_neg c_3]) dX8_aboutMany_23
def v_X8_about (p1 : Int32) : Int32 := (if p1 = 0 then 0 else (if p1 = 1 then 0 else (if p1 = 2 then 0 else (if p1 = 3 then 0 else (if p1 = 4 then 0 else (if p1 = 5 then 9 else (if p1 = 6 then 0 else (if p1 = 7 then (-1) else (if p1 = 8 then 0 else (if p1 = 9 then 0 else (v_X8_aboutMany p1)))))))))))
theorem e_X8_aboutMany : yX8_aboutMany.cls = RX8 ∧ yX8_aboutMany.cls ≠ "java/lang/invoke/MethodHandle" ∧ yX8_aboutMany.cls ≠ "java/lang/invoke/VarHandle" ∧ (parseMethodDescriptor yX8_aboutMany.desc).map (fun d => d.parameters.length) = some 1 := by decide +kernel
set_option maxHeartbeats 4000000 in
set_option maxRecDepth 100000 in
theorem c_X8_about (l : Launch) (G : va_G) (cI cJ cZ cB cT : ClassId) (q : Nat → Nat) (p1 : Int32)  : gMi l yX8_about (gws yX8_about cX8_about 2 (some .int)) 3 G (gT cI cJ cZ cB cT) [.ref (q 0), .int p1] [((q 0), .inr (8, [.ref (q 1), .ref (q 5), .ref (q 9), .ref (q 11), .ref (q 15), .ref (q 16), .ref (q 20), .ref (q 23)])), ((q 1), .inr (4, [.ref (q 2), .ref (q 3), .ref (q 4), .int 0, .int 0, .int 0, .int 0, .int 0, .int 9, .int 0, .int (-1), .int 0, .int 0])), ((q 2), .inl (cI, 90, .inl (fun _ => 0))), ((q 3), .inl (cI, 12, .inl (fun _ => 0))), ((q 4), .inl (cI, 1880, .inl (fun _ => 0))), ((q 9), .inr (5, [.ref (q 10), .int 0])), ((q 10), .inl (cI, 300, .inl (fun _ => 0)))] (fun r (_ : Unit) => r = (v_X8_about p1)) (fun (_ : Unit) => ([] : va_W)) := by
  intro sz
  refine gM_start (y := yX8_about) (av := [.ref (q 0), .int p1]) (ws := [((q 0), .inr (8, [.ref (q 1), .ref (q 5), .ref (q 9), .ref (q 11), .ref (q 15), .ref (q 16), .ref (q 20), .ref (q 23)])), ((q 1), .inr (4, [.ref (q 2), .ref (q 3), .ref (q 4), .int 0, .int 0, .int 0, .int 0, .int 0, .int 9, .int 0, .int (-1), .int 0, .int 0])), ((q 2), .inl (cI, 90, .inl (fun _ => 0))), ((q 3), .inl (cI, 12, .inl (fun _ => 0))), ((q 4), .inl (cI, 1880, .inl (fun _ => 0))), ((q 9), .inr (5, [.ref (q 10), .int 0])), ((q 10), .inl (cI, 300, .inl (fun _ => 0)))]) (Qf := fun A => va_Qi (fun r (_ : Unit) => r = (v_X8_about p1)) (gB G (fun (_ : Unit) => ([] : va_W)) A) A) (cc := cX8_about) (maxL := 2) (ret := (some .int)) (by decide) (Nat.le_of_ble_eq_true rfl) ?_
  intro p e s m args below meth c A ls H hx hb hr hts hown hin hlocks hml hP hK hD hA hS hl
  have hl : lv_has ls 2 [(0, .ref (q 0)), (1, .int p1)] := hl
  refine lv_iload_n hx hb dX8_about_0 rfl (lv_at hl 1 rfl) ?_
  by_cases c_1 : p1 = 0
  · refine lv_tableIn (tgt := 56) (off := 55) hx hb dX8_about_1 (by rw [c_1]; decide) (by rw [c_1]; decide) (by rw [c_1]; decide) (by decide) ?_
    refine lv_aload_n hx hb dX8_about_56 rfl (lv_at hl 0 rfl) ?_
    refine va_get (D := G) (ci := 8) (v := .ref (q 1)) (C := RX8) (T := TX8) (N := 8) hx hb hts iX8 hown hK hP 0 rfl rfl 0 (by decide) (hts _ m_49) (fun _ h9 => h9) rfl dX8_about_57 ?_
    refine va_get (D := G) (ci := 4) (v := .int 0) (C := RX4) (T := TX4) (N := 13) hx hb hts iX4 hown hK hP 1 rfl rfl 4 (by decide) (hts _ m_89) (fun _ h9 => h9) rfl dX8_about_60 ?_
    exact gw_iret () hx hb hr hlocks (hP.sub [] rfl) (hD.sub [] (by decide) rfl) hS (by rw [v_X8_about, if_pos c_1]) dX8_about_63
  by_cases c_2 : p1 = 1
  · refine lv_tableIn (tgt := 64) (off := 63) hx hb dX8_about_1 (by rw [c_2]; decide) (by rw [c_2]; decide) (by rw [c_2]; decide) (by decide) ?_
    refine lv_aload_n hx hb dX8_about_64 rfl (lv_at hl 0 rfl) ?_
    refine va_get (D := G) (ci := 8) (v := .ref (q 1)) (C := RX8) (T := TX8) (N := 8) hx hb hts iX8 hown hK hP 0 rfl rfl 0 (by decide) (hts _ m_49) (fun _ h9 => h9) rfl dX8_about_65 ?_
    refine va_get (D := G) (ci := 4) (v := .int 0) (C := RX4) (T := TX4) (N := 13) hx hb hts iX4 hown hK hP 1 rfl rfl 3 (by decide) (hts _ m_91) (fun _ h9 => h9) rfl dX8_about_68 ?_
    exact gw_iret () hx hb hr hlocks (hP.sub [] rfl) (hD.sub [] (by decide) rfl) hS (by rw [v_X8_about, if_neg c_1, if_pos c_2]) dX8_about_71
  by_cases c_3 : p1 = 2
  · refine lv_tableIn (tgt := 72) (off := 71) hx hb dX8_about_1 (by rw [c_3]; decide) (by rw [c_3]; decide) (by rw [c_3]; decide) (by decide) ?_
    refine lv_aload_n hx hb dX8_about_72 rfl (lv_at hl 0 rfl) ?_
    refine va_get (D := G) (ci := 8) (v := .ref (q 1)) (C := RX8) (T := TX8) (N := 8) hx hb hts iX8 hown hK hP 0 rfl rfl 0 (by decide) (hts _ m_49) (fun _ h9 => h9) rfl dX8_about_73 ?_
    refine va_get (D := G) (ci := 4) (v := .int 0) (C := RX4) (T := TX4) (N := 13) hx hb hts iX4 hown hK hP 1 rfl rfl 5 (by decide) (hts _ m_58) (fun _ h9 => h9) rfl dX8_about_76 ?_
    exact gw_iret () hx hb hr hlocks (hP.sub [] rfl) (hD.sub [] (by decide) rfl) hS (by rw [v_X8_about, if_neg c_1, if_neg c_2, if_pos c_3]) dX8_about_79
  by_cases c_4 : p1 = 3
  · refine lv_tableIn (tgt := 80) (off := 79) hx hb dX8_about_1 (by rw [c_4]; decide) (by rw [c_4]; decide) (by rw [c_4]; decide) (by decide) ?_
    refine lv_aload_n hx hb dX8_about_80 rfl (lv_at hl 0 rfl) ?_
    refine va_get (D := G) (ci := 8) (v := .ref (q 1)) (C := RX8) (T := TX8) (N := 8) hx hb hts iX8 hown hK hP 0 rfl rfl 0 (by decide) (hts _ m_49) (fun _ h9 => h9) rfl dX8_about_81 ?_
    refine va_get (D := G) (ci := 4) (v := .int 0) (C := RX4) (T := TX4) (N := 13) hx hb hts iX4 hown hK hP 1 rfl rfl 6 (by decide) (hts _ m_59) (fun _ h9 => h9) rfl dX8_about_84 ?_
    exact gw_iret () hx hb hr hlocks (hP.sub [] rfl) (hD.sub [] (by decide) rfl) hS (by rw [v_X8_about, if_neg c_1, if_neg c_2, if_neg c_3, if_pos c_4]) dX8_about_87
  by_cases c_5 : p1 = 4
  · refine lv_tableIn (tgt := 88) (off := 87) hx hb dX8_about_1 (by rw [c_5]; decide) (by rw [c_5]; decide) (by rw [c_5]; decide) (by decide) ?_
    refine lv_aload_n hx hb dX8_about_88 rfl (lv_at hl 0 rfl) ?_
    refine va_get (D := G) (ci := 8) (v := .ref (q 1)) (C := RX8) (T := TX8) (N := 8) hx hb hts iX8 hown hK hP 0 rfl rfl 0 (by decide) (hts _ m_49) (fun _ h9 => h9) rfl dX8_about_89 ?_
    refine va_get (D := G) (ci := 4) (v := .int 0) (C := RX4) (T := TX4) (N := 13) hx hb hts iX4 hown hK hP 1 rfl rfl 7 (by decide) (hts _ m_88) (fun _ h9 => h9) rfl dX8_about_92 ?_
    exact gw_iret () hx hb hr hlocks (hP.sub [] rfl) (hD.sub [] (by decide) rfl) hS (by rw [v_X8_about, if_neg c_1, if_neg c_2, if_neg c_3, if_neg c_4, if_pos c_5]) dX8_about_95
  by_cases c_6 : p1 = 5
  · refine lv_tableIn (tgt := 96) (off := 95) hx hb dX8_about_1 (by rw [c_6]; decide) (by rw [c_6]; decide) (by rw [c_6]; decide) (by decide) ?_
    refine lv_aload_n hx hb dX8_about_96 rfl (lv_at hl 0 rfl) ?_
    refine va_get (D := G) (ci := 8) (v := .ref (q 1)) (C := RX8) (T := TX8) (N := 8) hx hb hts iX8 hown hK hP 0 rfl rfl 0 (by decide) (hts _ m_49) (fun _ h9 => h9) rfl dX8_about_97 ?_
    refine va_get (D := G) (ci := 4) (v := .int 9) (C := RX4) (T := TX4) (N := 13) hx hb hts iX4 hown hK hP 1 rfl rfl 8 (by decide) (hts _ m_60) (fun _ h9 => h9) rfl dX8_about_100 ?_
    exact gw_iret () hx hb hr hlocks (hP.sub [] rfl) (hD.sub [] (by decide) rfl) hS (by rw [v_X8_about, if_neg c_1, if_neg c_2, if_neg c_3, if_neg c_4, if_neg c_5, if_pos c_6]) dX8_about_103
  by_cases c_7 : p1 = 6
  · refine lv_tableIn (tgt := 104) (off := 103) hx hb dX8_about_1 (by rw [c_7]; decide) (by rw [c_7]; decide) (by rw [c_7]; decide) (by decide) ?_
    refine lv_aload_n hx hb dX8_about_104 rfl (lv_at hl 0 rfl) ?_
    refine va_get (D := G) (ci := 8) (v := .ref (q 1)) (C := RX8) (T := TX8) (N := 8) hx hb hts iX8 hown hK hP 0 rfl rfl 0 (by decide) (hts _ m_49) (fun _ h9 => h9) rfl dX8_about_105 ?_
    refine va_get (D := G) (ci := 4) (v := .int 0) (C := RX4) (T := TX4) (N := 13) hx hb hts iX4 hown hK hP 1 rfl rfl 9 (by decide) (hts _ m_75) (fun _ h9 => h9) rfl dX8_about_108 ?_
    exact gw_iret () hx hb hr hlocks (hP.sub [] rfl) (hD.sub [] (by decide) rfl) hS (by rw [v_X8_about, if_neg c_1, if_neg c_2, if_neg c_3, if_neg c_4, if_neg c_5, if_neg c_6, if_pos c_7]) dX8_about_111
  by_cases c_8 : p1 = 7
  · refine lv_tableIn (tgt := 112) (off := 111) hx hb dX8_about_1 (by rw [c_8]; decide) (by rw [c_8]; decide) (by rw [c_8]; decide) (by decide) ?_
    refine lv_aload_n hx hb dX8_about_112 rfl (lv_at hl 0 rfl) ?_
    refine va_get (D := G) (ci := 8) (v := .ref (q 1)) (C := RX8) (T := TX8) (N := 8) hx hb hts iX8 hown hK hP 0 rfl rfl 0 (by decide) (hts _ m_49) (fun _ h9 => h9) rfl dX8_about_113 ?_
    refine va_get (D := G) (ci := 4) (v := .int (-1)) (C := RX4) (T := TX4) (N := 13) hx hb hts iX4 hown hK hP 1 rfl rfl 10 (by decide) (hts _ m_76) (fun _ h9 => h9) rfl dX8_about_116 ?_
    exact gw_iret () hx hb hr hlocks (hP.sub [] rfl) (hD.sub [] (by decide) rfl) hS (by rw [v_X8_about, if_neg c_1, if_neg c_2, if_neg c_3, if_neg c_4, if_neg c_5, if_neg c_6, if_neg c_7, if_pos c_8]) dX8_about_119
  by_cases c_9 : p1 = 8
  · refine lv_tableIn (tgt := 120) (off := 119) hx hb dX8_about_1 (by rw [c_9]; decide) (by rw [c_9]; decide) (by rw [c_9]; decide) (by decide) ?_
    refine lv_aload_n hx hb dX8_about_120 rfl (lv_at hl 0 rfl) ?_
    refine va_get (D := G) (ci := 8) (v := .ref (q 1)) (C := RX8) (T := TX8) (N := 8) hx hb hts iX8 hown hK hP 0 rfl rfl 0 (by decide) (hts _ m_49) (fun _ h9 => h9) rfl dX8_about_121 ?_
    refine va_get (D := G) (ci := 4) (v := .int 0) (C := RX4) (T := TX4) (N := 13) hx hb hts iX4 hown hK hP 1 rfl rfl 12 (by decide) (hts _ m_92) (fun _ h9 => h9) rfl dX8_about_124 ?_
    exact gw_iret () hx hb hr hlocks (hP.sub [] rfl) (hD.sub [] (by decide) rfl) hS (by rw [v_X8_about, if_neg c_1, if_neg c_2, if_neg c_3, if_neg c_4, if_neg c_5, if_neg c_6, if_neg c_7, if_neg c_8, if_pos c_9]) dX8_about_127
  by_cases c_10 : p1 = 9
  · refine lv_tableIn (tgt := 128) (off := 127) hx hb dX8_about_1 (by rw [c_10]; decide) (by rw [c_10]; decide) (by rw [c_10]; decide) (by decide) ?_
    refine lv_aload_n hx hb dX8_about_128 rfl (lv_at hl 0 rfl) ?_
    refine va_get (D := G) (ci := 8) (v := .ref (q 9)) (C := RX8) (T := TX8) (N := 8) hx hb hts iX8 hown hK hP 0 rfl rfl 2 (by decide) (hts _ m_73) (fun _ h9 => h9) rfl dX8_about_129 ?_
    refine va_get (D := G) (ci := 5) (v := .int 0) (C := RX5) (T := TX5) (N := 2) hx hb hts iX5 hown hK hP 5 rfl rfl 1 (by decide) (hts _ m_74) (fun _ h9 => h9) rfl dX8_about_132 ?_
    exact gw_iret () hx hb hr hlocks (hP.sub [] rfl) (hD.sub [] (by decide) rfl) hS (by rw [v_X8_about, if_neg c_1, if_neg c_2, if_neg c_3, if_neg c_4, if_neg c_5, if_neg c_6, if_neg c_7, if_neg c_8, if_neg c_9, if_pos c_10]) dX8_about_135
  have hq : (p1).toInt < 0 ∨ 9 < (p1).toInt := by
    have hne : ∀ k : Int32, p1 = k → k.toInt < 0 ∨ 9 < k.toInt := by
      intro k hk
      subst hk
      by_cases h1 : (p1).toInt < 0
      · exact Or.inl h1
      · by_cases h2 : 9 < (p1).toInt
        · exact Or.inr h2
        · exfalso
          have e_c_1 := lv_neT (a := 0) c_1 (by decide)
          have e_c_2 := lv_neT (a := 1) c_2 (by decide)
          have e_c_3 := lv_neT (a := 2) c_3 (by decide)
          have e_c_4 := lv_neT (a := 3) c_4 (by decide)
          have e_c_5 := lv_neT (a := 4) c_5 (by decide)
          have e_c_6 := lv_neT (a := 5) c_6 (by decide)
          have e_c_7 := lv_neT (a := 6) c_7 (by decide)
          have e_c_8 := lv_neT (a := 7) c_8 (by decide)
          have e_c_9 := lv_neT (a := 8) c_9 (by decide)
          have e_c_10 := lv_neT (a := 9) c_10 (by decide)
          omega
    exact hne _ rfl
  refine lv_tableOut (tgt := 136) hx hb dX8_about_1 hq (by decide) ?_
  refine lv_aload_n hx hb dX8_about_136 rfl (lv_at hl 0 rfl) ?_
  refine lv_iload_n hx hb dX8_about_137 rfl (lv_at hl 1 rfl) ?_
  refine gw_calli (gw_runV (As := [.int p1]) (rest := []) ⟨hx, hb, hml, hown, hts⟩ (c_X8_aboutMany l G cI cJ cZ cB cT q p1  H.size) (gG_V m_94 m_95 m_96 m_45 m_93) rfl e_X8_aboutMany ⟨Nat.le_of_ble_eq_true rfl, Nat.le_of_ble_eq_true rfl⟩ hK hP hD [0, 1, 2, 3, 4] rfl (by decide) rfl 0 rfl rfl rfl hl.1 rfl (Nat.le_of_ble_eq_true rfl) dX8_about_138 ⟨Nat.le_of_ble_eq_true rfl, Nat.le_of_ble_eq_true rfl⟩) hP hD hS hA [0, 1, 2, 3, 4] [5, 6] rfl rfl (by decide) (by decide) (fun r_11 u_11 H locs hw_11 hP hD hS => ?_)
  subst hw_11
  have hP : va_P G vwCl [((q 9), .inr (5, [.ref (q 10), .int 0])), ((q 10), .inl (cI, 300, .inl (fun _ => 0))), ((q 0), .inr (8, [.ref (q 1), .ref (q 5), .ref (q 9), .ref (q 11), .ref (q 15), .ref (q 16), .ref (q 20), .ref (q 23)])), ((q 1), .inr (4, [.ref (q 2), .ref (q 3), .ref (q 4), .int 0, .int 0, .int 0, .int 0, .int 0, .int 9, .int 0, .int (-1), .int 0, .int 0])), ((q 2), .inl (cI, 90, .inl (fun _ => 0))), ((q 3), .inl (cI, 12, .inl (fun _ => 0))), ((q 4), .inl (cI, 1880, .inl (fun _ => 0)))] H := hP
  have hD : va_D A [((q 9), .inr (5, [.ref (q 10), .int 0])), ((q 10), .inl (cI, 300, .inl (fun _ => 0))), ((q 0), .inr (8, [.ref (q 1), .ref (q 5), .ref (q 9), .ref (q 11), .ref (q 15), .ref (q 16), .ref (q 20), .ref (q 23)])), ((q 1), .inr (4, [.ref (q 2), .ref (q 3), .ref (q 4), .int 0, .int 0, .int 0, .int 0, .int 0, .int 9, .int 0, .int (-1), .int 0, .int 0])), ((q 2), .inl (cI, 90, .inl (fun _ => 0))), ((q 3), .inl (cI, 12, .inl (fun _ => 0))), ((q 4), .inl (cI, 1880, .inl (fun _ => 0)))] := hD
  exact gw_iret () hx hb hr hlocks (hP.sub [] rfl) (hD.sub [] (by decide) rfl) hS (by rw [v_X8_about, if_neg c_1, if_neg c_2, if_neg c_3, if_neg c_4, if_neg c_5, if_neg c_6, if_neg c_7, if_neg c_8, if_neg c_9, if_neg c_10]) dX8_about_141
