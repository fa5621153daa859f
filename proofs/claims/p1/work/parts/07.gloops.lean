set_option maxHeartbeats 4000000 in
set_option maxRecDepth 100000 in
theorem c_X8_fault (l : Launch) (G : va_G) (cI cJ cZ cB cT : ClassId) (q : Nat → Nat) (p1 : Int32)  : gMi l yX8_fault (gws yX8_fault cX8_fault 2 (some .int)) 1 G (gT cI cJ cZ cB cT) [.ref (q 0), .int p1] [((q 0), .inr (8, [.ref (q 1), .ref (q 5), .ref (q 9), .ref (q 11), .ref (q 15), .ref (q 16), .ref (q 20), .ref (q 23)])), ((q 15), .inr (2, [.int (-1), .int (-1), .int (-1)]))] (fun r (_ : Unit) => r = (-1)) (fun (_ : Unit) => ([] : va_W)) := by
  intro sz
  refine gM_start (y := yX8_fault) (av := [.ref (q 0), .int p1]) (ws := [((q 0), .inr (8, [.ref (q 1), .ref (q 5), .ref (q 9), .ref (q 11), .ref (q 15), .ref (q 16), .ref (q 20), .ref (q 23)])), ((q 15), .inr (2, [.int (-1), .int (-1), .int (-1)]))]) (Qf := fun A => va_Qi (fun r (_ : Unit) => r = (-1)) (gB G (fun (_ : Unit) => ([] : va_W)) A) A) (cc := cX8_fault) (maxL := 2) (ret := (some .int)) (by decide) (Nat.le_of_ble_eq_true rfl) ?_
  intro p e s m args below meth c A ls H hx hb hr hts hown hin hlocks hml hP hK hD hA hS hl
  have hl : lv_has ls 2 [(0, .ref (q 0)), (1, .int p1)] := hl
  refine lv_iload_n hx hb dX8_fault_0 rfl (lv_at hl 1 rfl) ?_
  refine lv_if_ne (tgt := 12) hx hb dX8_fault_1 (by decide) (fun c_1 => ?_) (fun c_1 => ?_)
  · refine lv_iload_n hx hb dX8_fault_12 rfl (lv_at hl 1 rfl) ?_
    refine lv_iconst (v := 1) hx hb dX8_fault_13 (by decide) ?_
    refine lv_icmp_ne (tgt := 27) hx hb dX8_fault_14 (by decide) (fun c_2 => ?_) (fun c_2 => ?_)
    · refine lv_iconst (v := (-1)) hx hb dX8_fault_27 (by decide) ?_
      exact gw_iret () hx hb hr hlocks (hP.sub [] rfl) (hD.sub [] (by decide) rfl) hS rfl dX8_fault_28
    · refine lv_aload_n hx hb dX8_fault_17 rfl (lv_at hl 0 rfl) ?_
      refine va_get (D := G) (ci := 8) (v := .ref (q 15)) (C := RX8) (T := TX8) (N := 8) hx hb hts iX8 hown hK hP 0 rfl rfl 4 (by decide) (hts _ m_150) (fun _ h9 => h9) rfl dX8_fault_18 ?_
      refine va_get (D := G) (ci := 2) (v := .int (-1)) (C := RX2) (T := TX2) (N := 3) hx hb hts iX2 hown hK hP 1 rfl rfl 1 (by decide) (hts _ m_151) (fun _ h9 => h9) rfl dX8_fault_21 ?_
      refine lv_goto (tgt := 28) hx hb dX8_fault_24 (by decide) ?_
      exact gw_iret () hx hb hr hlocks (hP.sub [] rfl) (hD.sub [] (by decide) rfl) hS rfl dX8_fault_28
  · refine lv_aload_n hx hb dX8_fault_4 rfl (lv_at hl 0 rfl) ?_
    refine va_get (D := G) (ci := 8) (v := .ref (q 15)) (C := RX8) (T := TX8) (N := 8) hx hb hts iX8 hown hK hP 0 rfl rfl 4 (by decide) (hts _ m_150) (fun _ h9 => h9) rfl dX8_fault_5 ?_
    refine va_get (D := G) (ci := 2) (v := .int (-1)) (C := RX2) (T := TX2) (N := 3) hx hb hts iX2 hown hK hP 1 rfl rfl 0 (by decide) (hts _ m_152) (fun _ h9 => h9) rfl dX8_fault_8 ?_
    exact gw_iret () hx hb hr hlocks (hP.sub [] rfl) (hD.sub [] (by decide) rfl) hS rfl dX8_fault_11
set_option maxHeartbeats 4000000 in
set_option maxRecDepth 100000 in
theorem c_textOf_neg (l : Launch) (G : va_G) (cI cJ cZ cB cT : ClassId) (q : Nat → Nat) (p1 : Int32) (hn : p1 < 0) : gMq l yX1_textOf (gws yX1_textOf cX1_textOf 2 (some (.object "GooseLetters$Text"))) 1 G (gT cI cJ cZ cB cT) [.ref (q 16), .int p1] [((q 16), .inr (1, [.ref (q 17), .ref (q 18), .ref (q 19), .int 0])), ((q 17), .inl (cT, 4, .inr (.inr (.inr (.inr (va_up (va_up (va_up (va_up (fun _ => none) 0 (some (q 32))) 1 (some (q 37))) 2 (some (q 42))) 3 (some (q 47))))))))] (fun r (_ : Unit) => r = none) (fun (_ : Unit) => ([((q 16), .inr (1, [.ref (q 17), .ref (q 18), .ref (q 19), .int 0])), ((q 17), .inl (cT, 4, .inr (.inr (.inr (.inr (va_up (va_up (va_up (va_up (fun _ => none) 0 (some (q 32))) 1 (some (q 37))) 2 (some (q 42))) 3 (some (q 47))))))))] : va_W)) := by
  intro sz
  refine gM_start (y := yX1_textOf) (av := [.ref (q 16), .int p1]) (ws := [((q 16), .inr (1, [.ref (q 17), .ref (q 18), .ref (q 19), .int 0])), ((q 17), .inl (cT, 4, .inr (.inr (.inr (.inr (va_up (va_up (va_up (va_up (fun _ => none) 0 (some (q 32))) 1 (some (q 37))) 2 (some (q 42))) 3 (some (q 47))))))))]) (Qf := fun A => va_Qq (fun r (_ : Unit) => r = none) (gB G (fun (_ : Unit) => ([((q 16), .inr (1, [.ref (q 17), .ref (q 18), .ref (q 19), .int 0])), ((q 17), .inl (cT, 4, .inr (.inr (.inr (.inr (va_up (va_up (va_up (va_up (fun _ => none) 0 (some (q 32))) 1 (some (q 37))) 2 (some (q 42))) 3 (some (q 47))))))))] : va_W)) A) A) (cc := cX1_textOf) (maxL := 2) (ret := (some (.object "GooseLetters$Text"))) (by decide) (Nat.le_of_ble_eq_true rfl) ?_
  intro p e s m args below meth c A ls H hx hb hr hts hown hin hlocks hml hP hK hD hA hS hl
  have hl : lv_has ls 2 [(0, .ref (q 16)), (1, .int p1)] := hl
  refine lv_iload_n hx hb dX1_textOf_0 rfl (lv_at hl 1 rfl) ?_
  refine lv_if_lt (tgt := 18) hx hb dX1_textOf_1 (by decide) (fun _ => ?_) (fun c => absurd hn c)
  refine lv_null hx hb dX1_textOf_18 ?_
  exact gw_qret (v := none) () hx hb hr hlocks hP hD hS rfl dX1_textOf_19
set_option maxHeartbeats 4000000 in
set_option maxRecDepth 100000 in
theorem c_textOf_0 (l : Launch) (G : va_G) (cI cJ cZ cB cT : ClassId) (q : Nat → Nat)  : gMq l yX1_textOf (gws yX1_textOf cX1_textOf 2 (some (.object "GooseLetters$Text"))) 1 G (gT cI cJ cZ cB cT) [.ref (q 16), .int 0] [((q 16), .inr (1, [.ref (q 17), .ref (q 18), .ref (q 19), .int 0])), ((q 17), .inl (cT, 4, .inr (.inr (.inr (.inr (va_up (va_up (va_up (va_up (fun _ => none) 0 (some (q 32))) 1 (some (q 37))) 2 (some (q 42))) 3 (some (q 47))))))))] (fun r (_ : Unit) => r = (some (q 32))) (fun (_ : Unit) => ([((q 16), .inr (1, [.ref (q 17), .ref (q 18), .ref (q 19), .int 0])), ((q 17), .inl (cT, 4, .inr (.inr (.inr (.inr (va_up (va_up (va_up (va_up (fun _ => none) 0 (some (q 32))) 1 (some (q 37))) 2 (some (q 42))) 3 (some (q 47))))))))] : va_W)) := by
  intro sz
  refine gM_start (y := yX1_textOf) (av := [.ref (q 16), .int 0]) (ws := [((q 16), .inr (1, [.ref (q 17), .ref (q 18), .ref (q 19), .int 0])), ((q 17), .inl (cT, 4, .inr (.inr (.inr (.inr (va_up (va_up (va_up (va_up (fun _ => none) 0 (some (q 32))) 1 (some (q 37))) 2 (some (q 42))) 3 (some (q 47))))))))]) (Qf := fun A => va_Qq (fun r (_ : Unit) => r = (some (q 32))) (gB G (fun (_ : Unit) => ([((q 16), .inr (1, [.ref (q 17), .ref (q 18), .ref (q 19), .int 0])), ((q 17), .inl (cT, 4, .inr (.inr (.inr (.inr (va_up (va_up (va_up (va_up (fun _ => none) 0 (some (q 32))) 1 (some (q 37))) 2 (some (q 42))) 3 (some (q 47))))))))] : va_W)) A) A) (cc := cX1_textOf) (maxL := 2) (ret := (some (.object "GooseLetters$Text"))) (by decide) (Nat.le_of_ble_eq_true rfl) ?_
  intro p e s m args below meth c A ls H hx hb hr hts hown hin hlocks hml hP hK hD hA hS hl
  have hl : lv_has ls 2 [(0, .ref (q 16)), (1, .int 0)] := hl
  refine lv_iload_n hx hb dX1_textOf_0 rfl (lv_at hl 1 rfl) ?_
  refine lv_if_lt (tgt := 18) hx hb dX1_textOf_1 (by decide) (fun c => absurd c (by decide)) (fun _ => ?_)
  refine lv_iload_n hx hb dX1_textOf_4 rfl (lv_at hl 1 rfl) ?_
  refine lv_iconst (v := 4) hx hb dX1_textOf_5 (by decide) ?_
  refine lv_icmp_ge (tgt := 18) hx hb dX1_textOf_6 (by decide) (fun c => absurd c (by decide)) (fun _ => ?_)
  refine lv_aload_n hx hb dX1_textOf_9 rfl (lv_at hl 0 rfl) ?_
  refine va_get (D := G) (ci := 1) (v := .ref (q 17)) (C := RX1) (T := TX1) (N := 4) hx hb hts iX1 hown hK hP 0 rfl rfl 0 (by decide) (hts _ m_153) (fun _ h9 => h9) rfl dX1_textOf_10 ?_
  refine lv_iload_n hx hb dX1_textOf_13 rfl (lv_at hl 1 rfl) ?_
  refine gw_aldq (x := (some (q 32))) hx hb hK hP 1 4 0 rfl rfl rfl (by decide) (by decide) rfl dX1_textOf_14 ?_
  refine lv_goto (tgt := 19) hx hb dX1_textOf_15 (by decide) ?_
  exact gw_qret (v := (some (q 32))) () hx hb hr hlocks hP hD hS rfl dX1_textOf_19
set_option maxHeartbeats 4000000 in
set_option maxRecDepth 100000 in
theorem c_textOf_any (l : Launch) (G : va_G) (cI cJ cZ cB cT : ClassId) (q : Nat → Nat) (p1 : Int32)  : gMq l yX1_textOf (gws yX1_textOf cX1_textOf 2 (some (.object "GooseLetters$Text"))) 1 G (gT cI cJ cZ cB cT) [.ref (q 16), .int p1] [((q 16), .inr (1, [.ref (q 17), .ref (q 18), .ref (q 19), .int 0])), ((q 17), .inl (cT, 4, .inr (.inr (.inr (.inr (va_up (va_up (va_up (va_up (fun _ => none) 0 (some (q 32))) 1 (some (q 37))) 2 (some (q 42))) 3 (some (q 47))))))))] (fun (_ : Option Nat) (_ : Unit) => True) (fun (_ : Unit) => ([((q 16), .inr (1, [.ref (q 17), .ref (q 18), .ref (q 19), .int 0])), ((q 17), .inl (cT, 4, .inr (.inr (.inr (.inr (va_up (va_up (va_up (va_up (fun _ => none) 0 (some (q 32))) 1 (some (q 37))) 2 (some (q 42))) 3 (some (q 47))))))))] : va_W)) := by
  intro sz
  refine gM_start (y := yX1_textOf) (av := [.ref (q 16), .int p1]) (ws := [((q 16), .inr (1, [.ref (q 17), .ref (q 18), .ref (q 19), .int 0])), ((q 17), .inl (cT, 4, .inr (.inr (.inr (.inr (va_up (va_up (va_up (va_up (fun _ => none) 0 (some (q 32))) 1 (some (q 37))) 2 (some (q 42))) 3 (some (q 47))))))))]) (Qf := fun A => va_Qq (fun (_ : Option Nat) (_ : Unit) => True) (gB G (fun (_ : Unit) => ([((q 16), .inr (1, [.ref (q 17), .ref (q 18), .ref (q 19), .int 0])), ((q 17), .inl (cT, 4, .inr (.inr (.inr (.inr (va_up (va_up (va_up (va_up (fun _ => none) 0 (some (q 32))) 1 (some (q 37))) 2 (some (q 42))) 3 (some (q 47))))))))] : va_W)) A) A) (cc := cX1_textOf) (maxL := 2) (ret := (some (.object "GooseLetters$Text"))) (by decide) (Nat.le_of_ble_eq_true rfl) ?_
  intro p e s m args below meth c A ls H hx hb hr hts hown hin hlocks hml hP hK hD hA hS hl
  have hl : lv_has ls 2 [(0, .ref (q 16)), (1, .int p1)] := hl
  refine lv_iload_n hx hb dX1_textOf_0 rfl (lv_at hl 1 rfl) ?_
  refine lv_if_lt (tgt := 18) hx hb dX1_textOf_1 (by decide) (fun c_1 => ?_) (fun c_1 => ?_)
  · refine lv_null hx hb dX1_textOf_18 ?_
    exact gw_qret (v := none) () hx hb hr hlocks hP hD hS trivial dX1_textOf_19
  · refine lv_iload_n hx hb dX1_textOf_4 rfl (lv_at hl 1 rfl) ?_
    refine lv_iconst (v := 4) hx hb dX1_textOf_5 (by decide) ?_
    refine lv_icmp_ge (tgt := 18) hx hb dX1_textOf_6 (by decide) (fun c_2 => ?_) (fun c_2 => ?_)
    · refine lv_null hx hb dX1_textOf_18 ?_
      exact gw_qret (v := none) () hx hb hr hlocks hP hD hS trivial dX1_textOf_19
    · obtain ⟨k1, hk1, ek1⟩ := gi_nat (x := p1) 4 (by have := gi_of_nlt c_1; have := gi_of_nle c_2; have : (0 : Int32).toInt = 0 := (by decide); have : (4 : Int32).toInt = 4 := (by decide); omega) (by have := gi_of_nlt c_1; have := gi_of_nle c_2; have : (0 : Int32).toInt = 0 := (by decide); have : (4 : Int32).toInt = 4 := (by decide); omega)
      subst ek1
      refine lv_aload_n hx hb dX1_textOf_9 rfl (lv_at hl 0 rfl) ?_
      refine va_get (D := G) (ci := 1) (v := .ref (q 17)) (C := RX1) (T := TX1) (N := 4) hx hb hts iX1 hown hK hP 0 rfl rfl 0 (by decide) (hts _ m_153) (fun _ h9 => h9) rfl dX1_textOf_10 ?_
      refine lv_iload_n hx hb dX1_textOf_13 rfl (lv_at hl 1 rfl) ?_
      refine gw_aldq (x := ((va_up (va_up (va_up (va_up (fun _ => none) 0 (some (q 32))) 1 (some (q 37))) 2 (some (q 42))) 3 (some (q 47))) k1)) hx hb hK hP 1 4 k1 rfl rfl rfl (by omega) (by decide) rfl dX1_textOf_14 ?_
      refine lv_goto (tgt := 19) hx hb dX1_textOf_15 (by decide) ?_
      exact gw_qret (v := ((va_up (va_up (va_up (va_up (fun _ => none) 0 (some (q 32))) 1 (some (q 37))) 2 (some (q 42))) 3 (some (q 47))) k1)) () hx hb hr hlocks hP hD hS trivial dX1_textOf_19
theorem e_X1_textOf : yX1_textOf.cls = RX1 ∧ yX1_textOf.cls ≠ "java/lang/invoke/MethodHandle" ∧ yX1_textOf.cls ≠ "java/lang/invoke/VarHandle" ∧ (parseMethodDescriptor yX1_textOf.desc).map (fun d => d.parameters.length) = some 1 := by decide +kernel
set_option maxHeartbeats 4000000 in
set_option maxRecDepth 100000 in
theorem c_X8_played (l : Launch) (G : va_G) (cI cJ cZ cB cT : ClassId) (q : Nat → Nat) (p1 : Int32)  : gMi l yX8_played (gws yX8_played cX8_played 7 (some .int)) 2 G (gT cI cJ cZ cB cT) [.ref (q 0), .int p1] [((q 0), .inr (8, [.ref (q 1), .ref (q 5), .ref (q 9), .ref (q 11), .ref (q 15), .ref (q 16), .ref (q 20), .ref (q 23)])), ((q 1), .inr (4, [.ref (q 2), .ref (q 3), .ref (q 4), .int 0, .int 0, .int 0, .int 0, .int 0, .int 9, .int 0, .int (-1), .int 0, .int 0])), ((q 2), .inl (cI, 90, .inl (fun _ => 0))), ((q 3), .inl (cI, 12, .inl (fun _ => 0))), ((q 4), .inl (cI, 1880, .inl (fun _ => 0))), ((q 16), .inr (1, [.ref (q 17), .ref (q 18), .ref (q 19), .int 0])), ((q 17), .inl (cT, 4, .inr (.inr (.inr (.inr (va_up (va_up (va_up (va_up (fun _ => none) 0 (some (q 32))) 1 (some (q 37))) 2 (some (q 42))) 3 (some (q 47))))))))] (fun r (_ : Unit) => r = (-2)) (fun (_ : Unit) => ([] : va_W)) := by
  intro sz
  refine gM_start (y := yX8_played) (av := [.ref (q 0), .int p1]) (ws := [((q 0), .inr (8, [.ref (q 1), .ref (q 5), .ref (q 9), .ref (q 11), .ref (q 15), .ref (q 16), .ref (q 20), .ref (q 23)])), ((q 1), .inr (4, [.ref (q 2), .ref (q 3), .ref (q 4), .int 0, .int 0, .int 0, .int 0, .int 0, .int 9, .int 0, .int (-1), .int 0, .int 0])), ((q 2), .inl (cI, 90, .inl (fun _ => 0))), ((q 3), .inl (cI, 12, .inl (fun _ => 0))), ((q 4), .inl (cI, 1880, .inl (fun _ => 0))), ((q 16), .inr (1, [.ref (q 17), .ref (q 18), .ref (q 19), .int 0])), ((q 17), .inl (cT, 4, .inr (.inr (.inr (.inr (va_up (va_up (va_up (va_up (fun _ => none) 0 (some (q 32))) 1 (some (q 37))) 2 (some (q 42))) 3 (some (q 47))))))))]) (Qf := fun A => va_Qi (fun r (_ : Unit) => r = (-2)) (gB G (fun (_ : Unit) => ([] : va_W)) A) A) (cc := cX8_played) (maxL := 7) (ret := (some .int)) (by decide) (Nat.le_of_ble_eq_true rfl) ?_
  intro p e s m args below meth c A ls H hx hb hr hts hown hin hlocks hml hP hK hD hA hS hl
  have hl : lv_has ls 7 [(0, .ref (q 0)), (1, .int p1)] := hl
  by_cases c_1 : p1 < 0
  · refine lv_aload_n hx hb dX8_played_0 rfl (lv_at hl 0 rfl) ?_
    refine va_get (D := G) (ci := 8) (v := .ref (q 16)) (C := RX8) (T := TX8) (N := 8) hx hb hts iX8 hown hK hP 0 rfl rfl 5 (by decide) (hts _ m_154) (fun _ h9 => h9) rfl dX8_played_1 ?_
    refine lv_iload_n hx hb dX8_played_4 rfl (lv_at hl 1 rfl) ?_
    refine gw_callq (gw_runV (As := [.int p1]) (rest := []) ⟨hx, hb, hml, hown, hts⟩ (c_textOf_neg l G cI cJ cZ cB cT q p1 c_1 H.size) (gG_V m_156 m_157 m_158 m_159 m_155) rfl e_X1_textOf ⟨Nat.le_of_ble_eq_true rfl, Nat.le_of_ble_eq_true rfl⟩ hK hP hD [5, 6] rfl (by decide) rfl 0 rfl rfl rfl hl.1 rfl (Nat.le_of_ble_eq_true rfl) dX8_played_5 ⟨Nat.le_of_ble_eq_true rfl, Nat.le_of_ble_eq_true rfl⟩) hP hD hS hA [5, 6] [0, 1, 2, 3, 4] rfl rfl (by decide) (by decide) (fun r_2 u_2 H locs hw_2 hP hD hS => ?_)
    subst hw_2
    have hP : va_P G vwCl [((q 0), .inr (8, [.ref (q 1), .ref (q 5), .ref (q 9), .ref (q 11), .ref (q 15), .ref (q 16), .ref (q 20), .ref (q 23)])), ((q 1), .inr (4, [.ref (q 2), .ref (q 3), .ref (q 4), .int 0, .int 0, .int 0, .int 0, .int 0, .int 9, .int 0, .int (-1), .int 0, .int 0])), ((q 2), .inl (cI, 90, .inl (fun _ => 0))), ((q 3), .inl (cI, 12, .inl (fun _ => 0))), ((q 4), .inl (cI, 1880, .inl (fun _ => 0))), ((q 16), .inr (1, [.ref (q 17), .ref (q 18), .ref (q 19), .int 0])), ((q 17), .inl (cT, 4, .inr (.inr (.inr (.inr (va_up (va_up (va_up (va_up (fun _ => none) 0 (some (q 32))) 1 (some (q 37))) 2 (some (q 42))) 3 (some (q 47))))))))] H := hP
    have hD : va_D A [((q 0), .inr (8, [.ref (q 1), .ref (q 5), .ref (q 9), .ref (q 11), .ref (q 15), .ref (q 16), .ref (q 20), .ref (q 23)])), ((q 1), .inr (4, [.ref (q 2), .ref (q 3), .ref (q 4), .int 0, .int 0, .int 0, .int 0, .int 0, .int 9, .int 0, .int (-1), .int 0, .int 0])), ((q 2), .inl (cI, 90, .inl (fun _ => 0))), ((q 3), .inl (cI, 12, .inl (fun _ => 0))), ((q 4), .inl (cI, 1880, .inl (fun _ => 0))), ((q 16), .inr (1, [.ref (q 17), .ref (q 18), .ref (q 19), .int 0])), ((q 17), .inl (cT, 4, .inr (.inr (.inr (.inr (va_up (va_up (va_up (va_up (fun _ => none) 0 (some (q 32))) 1 (some (q 37))) 2 (some (q 42))) 3 (some (q 47))))))))] := hD
    refine W.eq (g2 := F0 m 8 ls [.null]) rfl ?_
    refine lv_astore_nN (lv' := [(2, .null), (0, .ref (q 0)), (1, .int p1)]) hx hb dX8_played_8 rfl hl (by decide) rfl (fun ls hl => ?_)
    refine lv_iload_n hx hb dX8_played_9 rfl (lv_at hl 2 rfl) ?_
    refine lv_aload_n hx hb dX8_played_10 rfl (lv_at hl 1 rfl) ?_
    refine va_get (D := G) (ci := 8) (v := .ref (q 1)) (C := RX8) (T := TX8) (N := 8) hx hb hts iX8 hown hK hP 0 rfl rfl 0 (by decide) (hts _ m_49) (fun _ h9 => h9) rfl dX8_played_11 ?_
    refine va_get (D := G) (ci := 4) (v := .int 0) (C := RX4) (T := TX4) (N := 13) hx hb hts iX4 hown hK hP 1 rfl rfl 9 (by decide) (hts _ m_75) (fun _ h9 => h9) rfl dX8_played_14 ?_
    refine lv_icmp_ge (tgt := 24) hx hb dX8_played_17 (by decide) (fun c => absurd c (gi_nle (by have := gi_of_lt c_1; have : (0 : Int32).toInt = 0 := (by decide); omega))) (fun _ => ?_)
    refine lv_aload_nN hx hb dX8_played_20 rfl (lv_at hl 0 rfl) ?_
    refine lv_ifnonnullN hx hb dX8_played_21 ?_
    refine lv_bipush (v := (-2)) hx hb dX8_played_24 (by decide) ?_
    exact gw_iret () hx hb hr hlocks (hP.sub [] rfl) (hD.sub [] (by decide) rfl) hS rfl dX8_played_26
  · refine lv_aload_n hx hb dX8_played_0 rfl (lv_at hl 0 rfl) ?_
    refine va_get (D := G) (ci := 8) (v := .ref (q 16)) (C := RX8) (T := TX8) (N := 8) hx hb hts iX8 hown hK hP 0 rfl rfl 5 (by decide) (hts _ m_154) (fun _ h9 => h9) rfl dX8_played_1 ?_
    refine lv_iload_n hx hb dX8_played_4 rfl (lv_at hl 1 rfl) ?_
    refine gw_callq (gw_runV (As := [.int p1]) (rest := []) ⟨hx, hb, hml, hown, hts⟩ (c_textOf_any l G cI cJ cZ cB cT q p1  H.size) (gG_V m_156 m_157 m_158 m_159 m_155) rfl e_X1_textOf ⟨Nat.le_of_ble_eq_true rfl, Nat.le_of_ble_eq_true rfl⟩ hK hP hD [5, 6] rfl (by decide) rfl 0 rfl rfl rfl hl.1 rfl (Nat.le_of_ble_eq_true rfl) dX8_played_5 ⟨Nat.le_of_ble_eq_true rfl, Nat.le_of_ble_eq_true rfl⟩) hP hD hS hA [5, 6] [0, 1, 2, 3, 4] rfl rfl (by decide) (by decide) (fun r_3 u_3 H locs hw_3 hP hD hS => ?_)
    have hP : va_P G vwCl [((q 0), .inr (8, [.ref (q 1), .ref (q 5), .ref (q 9), .ref (q 11), .ref (q 15), .ref (q 16), .ref (q 20), .ref (q 23)])), ((q 1), .inr (4, [.ref (q 2), .ref (q 3), .ref (q 4), .int 0, .int 0, .int 0, .int 0, .int 0, .int 9, .int 0, .int (-1), .int 0, .int 0])), ((q 2), .inl (cI, 90, .inl (fun _ => 0))), ((q 3), .inl (cI, 12, .inl (fun _ => 0))), ((q 4), .inl (cI, 1880, .inl (fun _ => 0))), ((q 16), .inr (1, [.ref (q 17), .ref (q 18), .ref (q 19), .int 0])), ((q 17), .inl (cT, 4, .inr (.inr (.inr (.inr (va_up (va_up (va_up (va_up (fun _ => none) 0 (some (q 32))) 1 (some (q 37))) 2 (some (q 42))) 3 (some (q 47))))))))] H := hP
    have hD : va_D A [((q 0), .inr (8, [.ref (q 1), .ref (q 5), .ref (q 9), .ref (q 11), .ref (q 15), .ref (q 16), .ref (q 20), .ref (q 23)])), ((q 1), .inr (4, [.ref (q 2), .ref (q 3), .ref (q 4), .int 0, .int 0, .int 0, .int 0, .int 0, .int 9, .int 0, .int (-1), .int 0, .int 0])), ((q 2), .inl (cI, 90, .inl (fun _ => 0))), ((q 3), .inl (cI, 12, .inl (fun _ => 0))), ((q 4), .inl (cI, 1880, .inl (fun _ => 0))), ((q 16), .inr (1, [.ref (q 17), .ref (q 18), .ref (q 19), .int 0])), ((q 17), .inl (cT, 4, .inr (.inr (.inr (.inr (va_up (va_up (va_up (va_up (fun _ => none) 0 (some (q 32))) 1 (some (q 37))) 2 (some (q 42))) 3 (some (q 47))))))))] := hD
    rcases r_3 with _ | x_3
    · refine W.eq (g2 := F0 m 8 ls [.null]) rfl ?_
      refine lv_astore_nN (lv' := [(2, .null), (0, .ref (q 0)), (1, .int p1)]) hx hb dX8_played_8 rfl hl (by decide) rfl (fun ls hl => ?_)
      refine lv_iload_n hx hb dX8_played_9 rfl (lv_at hl 2 rfl) ?_
      refine lv_aload_n hx hb dX8_played_10 rfl (lv_at hl 1 rfl) ?_
      refine va_get (D := G) (ci := 8) (v := .ref (q 1)) (C := RX8) (T := TX8) (N := 8) hx hb hts iX8 hown hK hP 0 rfl rfl 0 (by decide) (hts _ m_49) (fun _ h9 => h9) rfl dX8_played_11 ?_
      refine va_get (D := G) (ci := 4) (v := .int 0) (C := RX4) (T := TX4) (N := 13) hx hb hts iX4 hown hK hP 1 rfl rfl 9 (by decide) (hts _ m_75) (fun _ h9 => h9) rfl dX8_played_14 ?_
      refine lv_icmp_ge (tgt := 24) hx hb dX8_played_17 (by decide) (fun _ => ?_) (fun c => absurd (gi_le (by have := gi_of_nlt c_1; have : (0 : Int32).toInt = 0 := (by decide); omega)) c)
      refine lv_bipush (v := (-2)) hx hb dX8_played_24 (by decide) ?_
      exact gw_iret () hx hb hr hlocks (hP.sub [] rfl) (hD.sub [] (by decide) rfl) hS rfl dX8_played_26
    · refine W.eq (g2 := F0 m 8 ls [.ref x_3]) rfl ?_
      refine lv_astore_n (lv' := [(2, .ref x_3), (0, .ref (q 0)), (1, .int p1)]) hx hb dX8_played_8 rfl hl (by decide) rfl (fun ls hl => ?_)
      refine lv_iload_n hx hb dX8_played_9 rfl (lv_at hl 2 rfl) ?_
      refine lv_aload_n hx hb dX8_played_10 rfl (lv_at hl 1 rfl) ?_
      refine va_get (D := G) (ci := 8) (v := .ref (q 1)) (C := RX8) (T := TX8) (N := 8) hx hb hts iX8 hown hK hP 0 rfl rfl 0 (by decide) (hts _ m_49) (fun _ h9 => h9) rfl dX8_played_11 ?_
      refine va_get (D := G) (ci := 4) (v := .int 0) (C := RX4) (T := TX4) (N := 13) hx hb hts iX4 hown hK hP 1 rfl rfl 9 (by decide) (hts _ m_75) (fun _ h9 => h9) rfl dX8_played_14 ?_
      refine lv_icmp_ge (tgt := 24) hx hb dX8_played_17 (by decide) (fun _ => ?_) (fun c => absurd (gi_le (by have := gi_of_nlt c_1; have : (0 : Int32).toInt = 0 := (by decide); omega)) c)
      refine lv_bipush (v := (-2)) hx hb dX8_played_24 (by decide) ?_
      exact gw_iret () hx hb hr hlocks (hP.sub [] rfl) (hD.sub [] (by decide) rfl) hS rfl dX8_played_26
theorem e_X4_eatDaily : yX4_eatDaily.cls = RX4 ∧ yX4_eatDaily.cls ≠ "java/lang/invoke/MethodHandle" ∧ yX4_eatDaily.cls ≠ "java/lang/invoke/VarHandle" ∧ (parseMethodDescriptor yX4_eatDaily.desc).map (fun d => d.parameters.length) = some 0 := by decide +kernel
set_option maxHeartbeats 4000000 in
set_option maxRecDepth 100000 in
theorem c_passOneDay0 (l : Launch) (G : va_G) (cI cJ cZ cB cT : ClassId) (q : Nat → Nat) (fs : Nat → Int32) (dy : Int32)  : gMv l yX8_passOneDay (gws yX8_passOneDay cX8_passOneDay 2 none) 4 G (gT cI cJ cZ cB cT) [.ref (q 0)] [((q 0), .inr (8, [.ref (q 1), .ref (q 5), .ref (q 9), .ref (q 11), .ref (q 15), .ref (q 16), .ref (q 20), .ref (q 23)])), ((q 1), .inr (4, [.ref (q 2), .ref (q 3), .ref (q 4), .int 0, .int 0, .int 0, .int 0, .int dy, .int 9, .int 0, .int (-1), .int 0, .int 1])), ((q 2), .inl (cI, 90, .inl (fun _ => 0))), ((q 3), .inl (cI, 12, .inl (fun _ => 0))), ((q 4), .inl (cI, 1880, .inl fs))] (fun (_ : Unit) => True) (fun (_ : Unit) => ([((q 0), .inr (8, [.ref (q 1), .ref (q 5), .ref (q 9), .ref (q 11), .ref (q 15), .ref (q 16), .ref (q 20), .ref (q 23)])), ((q 1), .inr (4, [.ref (q 2), .ref (q 3), .ref (q 4), .int 0, .int 0, .int 0, .int 0, .int (dy + 1), .int 9, .int 0, .int (-1), .int 0, .int 1])), ((q 2), .inl (cI, 90, .inl (fun _ => 0))), ((q 3), .inl (cI, 12, .inl (fun _ => 0))), ((q 4), .inl (cI, 1880, .inl fs))] : va_W)) := by
  intro sz
  refine gM_start (y := yX8_passOneDay) (av := [.ref (q 0)]) (ws := [((q 0), .inr (8, [.ref (q 1), .ref (q 5), .ref (q 9), .ref (q 11), .ref (q 15), .ref (q 16), .ref (q 20), .ref (q 23)])), ((q 1), .inr (4, [.ref (q 2), .ref (q 3), .ref (q 4), .int 0, .int 0, .int 0, .int 0, .int dy, .int 9, .int 0, .int (-1), .int 0, .int 1])), ((q 2), .inl (cI, 90, .inl (fun _ => 0))), ((q 3), .inl (cI, 12, .inl (fun _ => 0))), ((q 4), .inl (cI, 1880, .inl fs))]) (Qf := fun A => va_Qv (fun (_ : Unit) => True) (gB G (fun (_ : Unit) => ([((q 0), .inr (8, [.ref (q 1), .ref (q 5), .ref (q 9), .ref (q 11), .ref (q 15), .ref (q 16), .ref (q 20), .ref (q 23)])), ((q 1), .inr (4, [.ref (q 2), .ref (q 3), .ref (q 4), .int 0, .int 0, .int 0, .int 0, .int (dy + 1), .int 9, .int 0, .int (-1), .int 0, .int 1])), ((q 2), .inl (cI, 90, .inl (fun _ => 0))), ((q 3), .inl (cI, 12, .inl (fun _ => 0))), ((q 4), .inl (cI, 1880, .inl fs))] : va_W)) A) A) (cc := cX8_passOneDay) (maxL := 2) (ret := none) (by decide) (Nat.le_of_ble_eq_true rfl) ?_
  intro p e s m args below meth c A ls H hx hb hr hts hown hin hlocks hml hP hK hD hA hS hl
  have hl : lv_has ls 2 [(0, .ref (q 0))] := hl
  refine lv_aload_n hx hb dX8_passOneDay_0 rfl (lv_at hl 0 rfl) ?_
  refine va_get (D := G) (ci := 8) (v := .ref (q 1)) (C := RX8) (T := TX8) (N := 8) hx hb hts iX8 hown hK hP 0 rfl rfl 0 (by decide) (hts _ m_49) (fun _ h9 => h9) rfl dX8_passOneDay_1 ?_
  refine lv_dup hx hb dX8_passOneDay_4 rfl ?_
  refine va_get (D := G) (ci := 4) (v := .int dy) (C := RX4) (T := TX4) (N := 13) hx hb hts iX4 hown hK hP 1 rfl rfl 7 (by decide) (hts _ m_88) (fun _ h9 => h9) rfl dX8_passOneDay_5 ?_
  refine lv_iconst (v := 1) hx hb dX8_passOneDay_8 (by decide) ?_
  refine lv_iadd hx hb dX8_passOneDay_9 ?_
  refine va_put (D := G) (ci := 4) (v := .int (dy + 1)) (ty := .int) (C := RX4) (T := TX4) (N := 13) hx hb hts iX4 tyX4 tyX4_ok nmX4 hown hK hP hD hS 1 rfl rfl 7 (by decide) (hts _ m_88) (fun _ h9 => h9) rfl (tyX4_ok 7 (by decide)) rfl rfl (Nat.le_of_ble_eq_true rfl) dX8_passOneDay_10 (fun H locs hP hD hS => ?_)
  have hP : va_P G vwCl [((q 0), .inr (8, [.ref (q 1), .ref (q 5), .ref (q 9), .ref (q 11), .ref (q 15), .ref (q 16), .ref (q 20), .ref (q 23)])), ((q 1), .inr (4, [.ref (q 2), .ref (q 3), .ref (q 4), .int 0, .int 0, .int 0, .int 0, .int (dy + 1), .int 9, .int 0, .int (-1), .int 0, .int 1])), ((q 2), .inl (cI, 90, .inl (fun _ => 0))), ((q 3), .inl (cI, 12, .inl (fun _ => 0))), ((q 4), .inl (cI, 1880, .inl fs))] H := hP
  have hD : va_D A [((q 0), .inr (8, [.ref (q 1), .ref (q 5), .ref (q 9), .ref (q 11), .ref (q 15), .ref (q 16), .ref (q 20), .ref (q 23)])), ((q 1), .inr (4, [.ref (q 2), .ref (q 3), .ref (q 4), .int 0, .int 0, .int 0, .int 0, .int (dy + 1), .int 9, .int 0, .int (-1), .int 0, .int 1])), ((q 2), .inl (cI, 90, .inl (fun _ => 0))), ((q 3), .inl (cI, 12, .inl (fun _ => 0))), ((q 4), .inl (cI, 1880, .inl fs))] := hD
  refine lv_iconst (v := 0) hx hb dX8_passOneDay_13 (by decide) ?_
  refine lv_istore_n (lv' := [(1, .int 0), (0, .ref (q 0))]) hx hb dX8_passOneDay_14 rfl hl (by decide) rfl (fun ls hl => ?_)
  refine lv_iload_n hx hb dX8_passOneDay_15 rfl (lv_at hl 0 rfl) ?_
  refine lv_aload_n hx hb dX8_passOneDay_16 rfl (lv_at hl 1 rfl) ?_
  refine va_get (D := G) (ci := 8) (v := .ref (q 1)) (C := RX8) (T := TX8) (N := 8) hx hb hts iX8 hown hK hP 0 rfl rfl 0 (by decide) (hts _ m_49) (fun _ h9 => h9) rfl dX8_passOneDay_17 ?_
  refine va_get (D := G) (ci := 4) (v := .int 0) (C := RX4) (T := TX4) (N := 13) hx hb hts iX4 hown hK hP 1 rfl rfl 3 (by decide) (hts _ m_91) (fun _ h9 => h9) rfl dX8_passOneDay_20 ?_
  refine lv_icmp_ge (tgt := 78) hx hb dX8_passOneDay_23 (by decide) (fun _ => ?_) (fun c => absurd (by decide) c)
  refine lv_aload_n hx hb dX8_passOneDay_78 rfl (lv_at hl 1 rfl) ?_
  refine va_get (D := G) (ci := 8) (v := .ref (q 1)) (C := RX8) (T := TX8) (N := 8) hx hb hts iX8 hown hK hP 0 rfl rfl 0 (by decide) (hts _ m_49) (fun _ h9 => h9) rfl dX8_passOneDay_79 ?_
  refine gw_callv (gw_runV (As := []) (rest := []) ⟨hx, hb, hml, hown, hts⟩ (c_eatDaily0 l G cI cJ cZ cB cT (q 1) (q 2) (q 3) (q 4) 0 (dy + 1) 9 0 (-1) 0 1 (fun _ => 0) (fun _ => 0) fs  H.size) (gG_V m_161 m_162 m_163 m_6 m_160) rfl e_X4_eatDaily ⟨Nat.le_of_ble_eq_true rfl, Nat.le_of_ble_eq_true rfl⟩ hK hP hD [1, 2, 3, 4] rfl (by decide) rfl 0 rfl rfl rfl hl.1 rfl (Nat.le_of_ble_eq_true rfl) dX8_passOneDay_82 ⟨Nat.le_of_ble_eq_true rfl, Nat.le_of_ble_eq_true rfl⟩) hP hD hS hA [1, 2, 3, 4] [0] rfl rfl (by decide) (by decide) (fun u_1 H locs hw_1 hP hD hS => ?_)
  have hP : va_P G vwCl [((q 0), .inr (8, [.ref (q 1), .ref (q 5), .ref (q 9), .ref (q 11), .ref (q 15), .ref (q 16), .ref (q 20), .ref (q 23)])), ((q 1), .inr (4, [.ref (q 2), .ref (q 3), .ref (q 4), .int 0, .int 0, .int 0, .int 0, .int (dy + 1), .int 9, .int 0, .int (-1), .int 0, .int 1])), ((q 2), .inl (cI, 90, .inl (fun _ => 0))), ((q 3), .inl (cI, 12, .inl (fun _ => 0))), ((q 4), .inl (cI, 1880, .inl fs))] H := hP
  have hD : va_D A [((q 0), .inr (8, [.ref (q 1), .ref (q 5), .ref (q 9), .ref (q 11), .ref (q 15), .ref (q 16), .ref (q 20), .ref (q 23)])), ((q 1), .inr (4, [.ref (q 2), .ref (q 3), .ref (q 4), .int 0, .int 0, .int 0, .int 0, .int (dy + 1), .int 9, .int 0, .int (-1), .int 0, .int 1])), ((q 2), .inl (cI, 90, .inl (fun _ => 0))), ((q 3), .inl (cI, 12, .inl (fun _ => 0))), ((q 4), .inl (cI, 1880, .inl fs))] := hD
  exact gw_vret () hx hb hr hlocks hP hD hS trivial dX8_passOneDay_85
def v_X8_pass (p1 : Int32) : Int32 := (if p1 < 1 then (-1) else (if 99 < p1 then (-1) else (if (0 + p1) ≤ 999 then p1 else (-1))))
theorem e_X4_keepStep : yX4_keepStep.cls = RX4 ∧ yX4_keepStep.cls ≠ "java/lang/invoke/MethodHandle" ∧ yX4_keepStep.cls ≠ "java/lang/invoke/VarHandle" ∧ (parseMethodDescriptor yX4_keepStep.desc).map (fun d => d.parameters.length) = some 0 := by decide +kernel
theorem e_X8_passOneDay : yX8_passOneDay.cls = RX8 ∧ yX8_passOneDay.cls ≠ "java/lang/invoke/MethodHandle" ∧ yX8_passOneDay.cls ≠ "java/lang/invoke/VarHandle" ∧ (parseMethodDescriptor yX8_passOneDay.desc).map (fun d => d.parameters.length) = some 0 := by decide +kernel
set_option maxHeartbeats 4000000 in
set_option maxRecDepth 100000 in
theorem c_X8_pass (l : Launch) (G : va_G) (cI cJ cZ cB cT : ClassId) (q : Nat → Nat) (p1 : Int32)  : gMi l yX8_pass (gws yX8_pass cX8_pass 3 (some .int)) 5 G (gT cI cJ cZ cB cT) [.ref (q 0), .int p1] [((q 0), .inr (8, [.ref (q 1), .ref (q 5), .ref (q 9), .ref (q 11), .ref (q 15), .ref (q 16), .ref (q 20), .ref (q 23)])), ((q 1), .inr (4, [.ref (q 2), .ref (q 3), .ref (q 4), .int 0, .int 0, .int 0, .int 0, .int 0, .int 9, .int 0, .int (-1), .int 0, .int 0])), ((q 2), .inl (cI, 90, .inl (fun _ => 0))), ((q 3), .inl (cI, 12, .inl (fun _ => 0))), ((q 4), .inl (cI, 1880, .inl (fun _ => 0)))] (fun r (_ : Unit) => r = (v_X8_pass p1)) (fun (_ : Unit) => ([] : va_W)) := by
  intro sz
  refine gM_start (y := yX8_pass) (av := [.ref (q 0), .int p1]) (ws := [((q 0), .inr (8, [.ref (q 1), .ref (q 5), .ref (q 9), .ref (q 11), .ref (q 15), .ref (q 16), .ref (q 20), .ref (q 23)])), ((q 1), .inr (4, [.ref (q 2), .ref (q 3), .ref (q 4), .int 0, .int 0, .int 0, .int 0, .int 0, .int 9, .int 0, .int (-1), .int 0, .int 0])), ((q 2), .inl (cI, 90, .inl (fun _ => 0))), ((q 3), .inl (cI, 12, .inl (fun _ => 0))), ((q 4), .inl (cI, 1880, .inl (fun _ => 0)))]) (Qf := fun A => va_Qi (fun r (_ : Unit) => r = (v_X8_pass p1)) (gB G (fun (_ : Unit) => ([] : va_W)) A) A) (cc := cX8_pass) (maxL := 3) (ret := (some .int)) (by decide) (Nat.le_of_ble_eq_true rfl) ?_
  intro p e s m args below meth c A ls H hx hb hr hts hown hin hlocks hml hP hK hD hA hS hl
  have hl : lv_has ls 3 [(0, .ref (q 0)), (1, .int p1)] := hl
  refine lv_iload_n hx hb dX8_pass_0 rfl (lv_at hl 1 rfl) ?_
  refine lv_iconst (v := 1) hx hb dX8_pass_1 (by decide) ?_
  refine lv_icmp_lt (tgt := 26) hx hb dX8_pass_2 (by decide) (fun c_1 => ?_) (fun c_1 => ?_)
  · refine lv_iconst (v := (-1)) hx hb dX8_pass_26 (by decide) ?_
    exact gw_iret () hx hb hr hlocks (hP.sub [] rfl) (hD.sub [] (by decide) rfl) hS (by rw [v_X8_pass, if_pos c_1]) dX8_pass_27
  · refine lv_iload_n hx hb dX8_pass_5 rfl (lv_at hl 1 rfl) ?_
    refine lv_bipush (v := 99) hx hb dX8_pass_6 (by decide) ?_
    refine lv_icmp_gt (tgt := 26) hx hb dX8_pass_8 (by decide) (fun c_2 => ?_) (fun c_2 => ?_)
    · refine lv_iconst (v := (-1)) hx hb dX8_pass_26 (by decide) ?_
      exact gw_iret () hx hb hr hlocks (hP.sub [] rfl) (hD.sub [] (by decide) rfl) hS (by rw [v_X8_pass, if_neg c_1, if_pos c_2]) dX8_pass_27
    · refine lv_aload_n hx hb dX8_pass_11 rfl (lv_at hl 0 rfl) ?_
      refine va_get (D := G) (ci := 8) (v := .ref (q 1)) (C := RX8) (T := TX8) (N := 8) hx hb hts iX8 hown hK hP 0 rfl rfl 0 (by decide) (hts _ m_49) (fun _ h9 => h9) rfl dX8_pass_12 ?_
      refine va_get (D := G) (ci := 4) (v := .int 0) (C := RX4) (T := TX4) (N := 13) hx hb hts iX4 hown hK hP 1 rfl rfl 7 (by decide) (hts _ m_88) (fun _ h9 => h9) rfl dX8_pass_15 ?_
      refine lv_iload_n hx hb dX8_pass_18 rfl (lv_at hl 1 rfl) ?_
      refine lv_iadd hx hb dX8_pass_19 ?_
      refine lv_sipush (v := 999) hx hb dX8_pass_20 (by decide) ?_
      refine lv_icmp_le (tgt := 28) hx hb dX8_pass_23 (by decide) (fun c_3 => ?_) (fun c_3 => ?_)
      · obtain ⟨d, hd, ed⟩ := gi_nat (x := p1) 100 (by have := gi_of_nlt c_1; have := gi_of_nlt c_2; have : (1 : Int32).toInt = 1 := (by decide); have : (99 : Int32).toInt = 99 := (by decide); omega) (by have := gi_of_nlt c_1; have := gi_of_nlt c_2; have : (1 : Int32).toInt = 1 := (by decide); have : (99 : Int32).toInt = 99 := (by decide); omega)
        subst ed
        refine lv_aload_n hx hb dX8_pass_28 rfl (lv_at hl 0 rfl) ?_
        refine va_get (D := G) (ci := 8) (v := .ref (q 1)) (C := RX8) (T := TX8) (N := 8) hx hb hts iX8 hown hK hP 0 rfl rfl 0 (by decide) (hts _ m_49) (fun _ h9 => h9) rfl dX8_pass_29 ?_
        refine gw_callv (gw_runV (As := []) (rest := []) ⟨hx, hb, hml, hown, hts⟩ (c_keepStep0 l G cI cJ cZ cB cT (q 1) (q 2) (q 3) (q 4) (fun _ => 0) (fun _ => 0) (fun _ => 0)  H.size) (gG_V m_165 m_166 m_167 m_6 m_164) rfl e_X4_keepStep ⟨Nat.le_of_ble_eq_true rfl, Nat.le_of_ble_eq_true rfl⟩ hK hP hD [1, 2, 3, 4] rfl (by decide) rfl 0 rfl rfl rfl hl.1 rfl (Nat.le_of_ble_eq_true rfl) dX8_pass_32 ⟨Nat.le_of_ble_eq_true rfl, Nat.le_of_ble_eq_true rfl⟩) hP hD hS hA [1, 2, 3, 4] [0] rfl rfl (by decide) (by decide) (fun u_4 H locs hw_4 hP hD hS => ?_)
        have hP : va_P G vwCl [((q 0), .inr (8, [.ref (q 1), .ref (q 5), .ref (q 9), .ref (q 11), .ref (q 15), .ref (q 16), .ref (q 20), .ref (q 23)])), ((q 1), .inr (4, [.ref (q 2), .ref (q 3), .ref (q 4), .int 0, .int 0, .int 0, .int 0, .int 0, .int 9, .int 0, .int (-1), .int 0, .int 1])), ((q 2), .inl (cI, 90, .inl (fun _ => 0))), ((q 3), .inl (cI, 12, .inl (fun _ => 0))), ((q 4), .inl (cI, 1880, .inl u_4))] H := hP
        have hD : va_D A [((q 0), .inr (8, [.ref (q 1), .ref (q 5), .ref (q 9), .ref (q 11), .ref (q 15), .ref (q 16), .ref (q 20), .ref (q 23)])), ((q 1), .inr (4, [.ref (q 2), .ref (q 3), .ref (q 4), .int 0, .int 0, .int 0, .int 0, .int 0, .int 9, .int 0, .int (-1), .int 0, .int 1])), ((q 2), .inl (cI, 90, .inl (fun _ => 0))), ((q 3), .inl (cI, 12, .inl (fun _ => 0))), ((q 4), .inl (cI, 1880, .inl u_4))] := hD
        refine lv_iconst (v := 0) hx hb dX8_pass_35 (by decide) ?_
        refine lv_istore_n (lv' := [(2, .int 0), (0, .ref (q 0)), (1, .int (nI d))]) hx hb dX8_pass_36 rfl hl (by decide) rfl (fun ls hl => ?_)
        have hloop_5 : ∀ (n i : Nat), i + n = d → ∀ (H : Heap) (locs : List Loc) (ls : Array Slot), va_P G vwCl [((q 0), .inr (8, [.ref (q 1), .ref (q 5), .ref (q 9), .ref (q 11), .ref (q 15), .ref (q 16), .ref (q 20), .ref (q 23)])), ((q 1), .inr (4, [.ref (q 2), .ref (q 3), .ref (q 4), .int 0, .int 0, .int 0, .int 0, .int (nI i), .int 9, .int 0, .int (-1), .int 0, .int 1])), ((q 2), .inl (cI, 90, .inl (fun _ => 0))), ((q 3), .inl (cI, 12, .inl (fun _ => 0))), ((q 4), .inl (cI, 1880, .inl u_4))] H → va_D A [((q 0), .inr (8, [.ref (q 1), .ref (q 5), .ref (q 9), .ref (q 11), .ref (q 15), .ref (q 16), .ref (q 20), .ref (q 23)])), ((q 1), .inr (4, [.ref (q 2), .ref (q 3), .ref (q 4), .int 0, .int 0, .int 0, .int 0, .int (nI i), .int 9, .int 0, .int (-1), .int 0, .int 1])), ((q 2), .inl (cI, 90, .inl (fun _ => 0))), ((q 3), .inl (cI, 12, .inl (fun _ => 0))), ((q 4), .inl (cI, 1880, .inl u_4))] → va_S A s.heap H locs → lv_has ls 3 [(2, .int (nI i)), (0, .ref (q 0)), (1, .int (nI d))] → W p l e (gRm 5) s m args below meth c H locs 0 0 (MQ below (va_Qi (fun r (_ : Unit) => r = (v_X8_pass (nI d))) (gB G (fun (_ : Unit) => ([] : va_W)) A) A) args s 0 0 A) (F0 m 37 ls []) := by
          intro n
          induction n with
          | zero =>
            intro i hin H locs ls hP hD hS hl
            obtain rfl : d = i := by omega
            have hl : lv_has ls 3 [(2, .int (nI d)), (0, .ref (q 0)), (1, .int (nI d))] := hl
            have hP : va_P G vwCl [((q 0), .inr (8, [.ref (q 1), .ref (q 5), .ref (q 9), .ref (q 11), .ref (q 15), .ref (q 16), .ref (q 20), .ref (q 23)])), ((q 1), .inr (4, [.ref (q 2), .ref (q 3), .ref (q 4), .int 0, .int 0, .int 0, .int 0, .int (nI d), .int 9, .int 0, .int (-1), .int 0, .int 1])), ((q 2), .inl (cI, 90, .inl (fun _ => 0))), ((q 3), .inl (cI, 12, .inl (fun _ => 0))), ((q 4), .inl (cI, 1880, .inl u_4))] H := hP
            have hD : va_D A [((q 0), .inr (8, [.ref (q 1), .ref (q 5), .ref (q 9), .ref (q 11), .ref (q 15), .ref (q 16), .ref (q 20), .ref (q 23)])), ((q 1), .inr (4, [.ref (q 2), .ref (q 3), .ref (q 4), .int 0, .int 0, .int 0, .int 0, .int (nI d), .int 9, .int 0, .int (-1), .int 0, .int 1])), ((q 2), .inl (cI, 90, .inl (fun _ => 0))), ((q 3), .inl (cI, 12, .inl (fun _ => 0))), ((q 4), .inl (cI, 1880, .inl u_4))] := hD
            refine lv_iload_n hx hb dX8_pass_37 rfl (lv_at hl 0 rfl) ?_
            refine lv_iload_n hx hb dX8_pass_38 rfl (lv_at hl 2 rfl) ?_
            refine lv_icmp_ge (tgt := 52) hx hb dX8_pass_39 (by decide) (fun _ => ?_) (fun c => absurd (nI_le (Nat.le_refl _) (by omega)) c)
            refine lv_aload_n hx hb dX8_pass_52 rfl (lv_at hl 1 rfl) ?_
            refine va_get (D := G) (ci := 8) (v := .ref (q 1)) (C := RX8) (T := TX8) (N := 8) hx hb hts iX8 hown hK hP 0 rfl rfl 0 (by decide) (hts _ m_49) (fun _ h9 => h9) rfl dX8_pass_53 ?_
            refine va_get (D := G) (ci := 4) (v := .int (nI d)) (C := RX4) (T := TX4) (N := 13) hx hb hts iX4 hown hK hP 1 rfl rfl 7 (by decide) (hts _ m_88) (fun _ h9 => h9) rfl dX8_pass_56 ?_
            exact gw_iret () hx hb hr hlocks (hP.sub [] rfl) (hD.sub [] (by decide) rfl) hS (by rw [v_X8_pass, if_neg c_1, if_neg c_2, if_pos c_3]) dX8_pass_59
          | succ n ih =>
            intro i hin H locs ls hP hD hS hl
            have hlt : i < d := by omega
            refine lv_iload_n hx hb dX8_pass_37 rfl (lv_at hl 0 rfl) ?_
            refine lv_iload_n hx hb dX8_pass_38 rfl (lv_at hl 2 rfl) ?_
            refine lv_icmp_ge (tgt := 52) hx hb dX8_pass_39 (by decide) (fun c => absurd c (nI_ge (by omega) (by omega))) (fun _ => ?_)
            refine lv_aload_n hx hb dX8_pass_42 rfl (lv_at hl 1 rfl) ?_
            refine gw_callv (gw_runV (As := []) (rest := []) ⟨hx, hb, hml, hown, hts⟩ (c_passOneDay0 l G cI cJ cZ cB cT q u_4 (nI i)  H.size) (gG_V m_169 m_170 m_171 m_45 m_168) rfl e_X8_passOneDay ⟨Nat.le_of_ble_eq_true rfl, Nat.le_of_ble_eq_true rfl⟩ hK hP hD [0, 1, 2, 3, 4] rfl (by decide) rfl 0 rfl rfl rfl hl.1 rfl (Nat.le_of_ble_eq_true rfl) dX8_pass_43 ⟨Nat.le_of_ble_eq_true rfl, Nat.le_of_ble_eq_true rfl⟩) hP hD hS hA [0, 1, 2, 3, 4] [] rfl rfl (by decide) (by decide) (fun u_6 H locs hw_6 hP hD hS => ?_)
            have hP : va_P G vwCl [((q 0), .inr (8, [.ref (q 1), .ref (q 5), .ref (q 9), .ref (q 11), .ref (q 15), .ref (q 16), .ref (q 20), .ref (q 23)])), ((q 1), .inr (4, [.ref (q 2), .ref (q 3), .ref (q 4), .int 0, .int 0, .int 0, .int 0, .int ((nI i) + 1), .int 9, .int 0, .int (-1), .int 0, .int 1])), ((q 2), .inl (cI, 90, .inl (fun _ => 0))), ((q 3), .inl (cI, 12, .inl (fun _ => 0))), ((q 4), .inl (cI, 1880, .inl u_4))] H := hP
            have hD : va_D A [((q 0), .inr (8, [.ref (q 1), .ref (q 5), .ref (q 9), .ref (q 11), .ref (q 15), .ref (q 16), .ref (q 20), .ref (q 23)])), ((q 1), .inr (4, [.ref (q 2), .ref (q 3), .ref (q 4), .int 0, .int 0, .int 0, .int 0, .int ((nI i) + 1), .int 9, .int 0, .int (-1), .int 0, .int 1])), ((q 2), .inl (cI, 90, .inl (fun _ => 0))), ((q 3), .inl (cI, 12, .inl (fun _ => 0))), ((q 4), .inl (cI, 1880, .inl u_4))] := hD
            rw [nI_1 i] at hP hD
            have hP : va_P G vwCl [((q 0), .inr (8, [.ref (q 1), .ref (q 5), .ref (q 9), .ref (q 11), .ref (q 15), .ref (q 16), .ref (q 20), .ref (q 23)])), ((q 1), .inr (4, [.ref (q 2), .ref (q 3), .ref (q 4), .int 0, .int 0, .int 0, .int 0, .int (nI (i + 1)), .int 9, .int 0, .int (-1), .int 0, .int 1])), ((q 2), .inl (cI, 90, .inl (fun _ => 0))), ((q 3), .inl (cI, 12, .inl (fun _ => 0))), ((q 4), .inl (cI, 1880, .inl u_4))] H := hP
            have hD : va_D A [((q 0), .inr (8, [.ref (q 1), .ref (q 5), .ref (q 9), .ref (q 11), .ref (q 15), .ref (q 16), .ref (q 20), .ref (q 23)])), ((q 1), .inr (4, [.ref (q 2), .ref (q 3), .ref (q 4), .int 0, .int 0, .int 0, .int 0, .int (nI (i + 1)), .int 9, .int 0, .int (-1), .int 0, .int 1])), ((q 2), .inl (cI, 90, .inl (fun _ => 0))), ((q 3), .inl (cI, 12, .inl (fun _ => 0))), ((q 4), .inl (cI, 1880, .inl u_4))] := hD
            refine lv_iinc (v := (nI (i + 1))) (lv' := [(2, .int (nI (i + 1))), (0, .ref (q 0)), (1, .int (nI d))]) hx hb dX8_pass_46 hl (k := 0) rfl (nI_1 i) (by decide) rfl (fun ls hl => ?_)
            refine lv_goto (tgt := 37) hx hb dX8_pass_49 (by decide) ?_
            exact ih (i + 1)  (by omega)  H _ ls hP hD hS (lv_sub hl [0, 1, 2] rfl)
        exact hloop_5 d 0  (by omega)  H _ ls hP hD hS (lv_sub hl [0, 1, 2] rfl)
      · refine lv_iconst (v := (-1)) hx hb dX8_pass_26 (by decide) ?_
        exact gw_iret () hx hb hr hlocks (hP.sub [] rfl) (hD.sub [] (by decide) rfl) hS (by rw [v_X8_pass, if_neg c_1, if_neg c_2, if_neg c_3]) dX8_pass_27
set_option maxHeartbeats 4000000 in
set_option maxRecDepth 100000 in
theorem c_addFour0 (l : Launch) (G : va_G) (cI cJ cZ cB cT : ClassId) (q : Nat → Nat) (f : Nat → Int32) (p1 : Int32)  : gMv l yX5_addFour (gws yX5_addFour cX5_addFour 3 none) 1 G (gT cI cJ cZ cB cT) [.ref (q 9), .int p1] [((q 9), .inr (5, [.ref (q 10), .int 0])), ((q 10), .inl (cI, 300, .inl f))] (fun (_ : Nat → Int32) => True) (fun (u : Nat → Int32) => ([((q 9), .inr (5, [.ref (q 10), .int 4])), ((q 10), .inl (cI, 300, .inl u))] : va_W)) := by
  intro sz
  refine gM_start (y := yX5_addFour) (av := [.ref (q 9), .int p1]) (ws := [((q 9), .inr (5, [.ref (q 10), .int 0])), ((q 10), .inl (cI, 300, .inl f))]) (Qf := fun A => va_Qv (fun (_ : Nat → Int32) => True) (gB G (fun (u : Nat → Int32) => ([((q 9), .inr (5, [.ref (q 10), .int 4])), ((q 10), .inl (cI, 300, .inl u))] : va_W)) A) A) (cc := cX5_addFour) (maxL := 3) (ret := none) (by decide) (Nat.le_of_ble_eq_true rfl) ?_
  intro p e s m args below meth c A ls H hx hb hr hts hown hin hlocks hml hP hK hD hA hS hl
  have hl : lv_has ls 3 [(0, .ref (q 9)), (1, .int p1)] := hl
  refine lv_bipush (v := 24) hx hb dX5_addFour_0 (by decide) ?_
  refine lv_istore_n (lv' := [(2, .int 24), (0, .ref (q 9)), (1, .int p1)]) hx hb dX5_addFour_2 rfl hl (by decide) rfl (fun ls hl => ?_)
  refine lv_iload_n hx hb dX5_addFour_3 rfl (lv_at hl 0 rfl) ?_
  refine lv_if_lt (tgt := 51) hx hb dX5_addFour_4 (by decide) (fun c => absurd c (by decide)) (fun _ => ?_)
  refine lv_aload_n hx hb dX5_addFour_7 rfl (lv_at hl 1 rfl) ?_
  refine va_get (D := G) (ci := 5) (v := .int 0) (C := RX5) (T := TX5) (N := 2) hx hb hts iX5 hown hK hP 0 rfl rfl 1 (by decide) (hts _ m_172) (fun _ h9 => h9) rfl dX5_addFour_8 ?_
  refine lv_aload_n hx hb dX5_addFour_11 rfl (lv_at hl 1 rfl) ?_
  refine va_get (D := G) (ci := 5) (v := .ref (q 10)) (C := RX5) (T := TX5) (N := 2) hx hb hts iX5 hown hK hP 0 rfl rfl 0 (by decide) (hts _ m_173) (fun _ h9 => h9) rfl dX5_addFour_12 ?_
  refine va_alen (D := G) hx hb hK hP 1 0 rfl rfl (v := 300) rfl dX5_addFour_15 ?_
  refine lv_icmp_ge (tgt := 45) hx hb dX5_addFour_16 (by decide) (fun c => absurd c (by decide)) (fun _ => ?_)
  refine lv_aload_n hx hb dX5_addFour_19 rfl (lv_at hl 1 rfl) ?_
  refine va_get (D := G) (ci := 5) (v := .ref (q 10)) (C := RX5) (T := TX5) (N := 2) hx hb hts iX5 hown hK hP 0 rfl rfl 0 (by decide) (hts _ m_173) (fun _ h9 => h9) rfl dX5_addFour_20 ?_
  refine lv_aload_n hx hb dX5_addFour_23 rfl (lv_at hl 1 rfl) ?_
  refine va_get (D := G) (ci := 5) (v := .int 0) (C := RX5) (T := TX5) (N := 2) hx hb hts iX5 hown hK hP 0 rfl rfl 1 (by decide) (hts _ m_172) (fun _ h9 => h9) rfl dX5_addFour_24 ?_
  refine lv_iload_n hx hb dX5_addFour_27 rfl (lv_at hl 2 rfl) ?_
  refine lv_iload_n hx hb dX5_addFour_28 rfl (lv_at hl 0 rfl) ?_
  refine lv_ishr hx hb dX5_addFour_29 ?_
  refine lv_sipush (v := 255) hx hb dX5_addFour_30 (by decide) ?_
  refine lv_iand hx hb dX5_addFour_33 ?_
  refine gw_iast hx hb hK hP hD hS 1 0 0 rfl rfl rfl (by decide) (by decide) dX5_addFour_34 (fun H locs hP hD hS => ?_)
  have hP : va_P G vwCl [((q 9), .inr (5, [.ref (q 10), .int 0])), ((q 10), .inl (cI, 300, .inl (upd f 0 ((p1 >>> (24 &&& 31)) &&& 255))))] H := hP
  have hD : va_D A [((q 9), .inr (5, [.ref (q 10), .int 0])), ((q 10), .inl (cI, 300, .inl (upd f 0 ((p1 >>> (24 &&& 31)) &&& 255))))] := hD
  refine lv_aload_n hx hb dX5_addFour_35 rfl (lv_at hl 1 rfl) ?_
  refine lv_dup hx hb dX5_addFour_36 rfl ?_
  refine va_get (D := G) (ci := 5) (v := .int 0) (C := RX5) (T := TX5) (N := 2) hx hb hts iX5 hown hK hP 0 rfl rfl 1 (by decide) (hts _ m_172) (fun _ h9 => h9) rfl dX5_addFour_37 ?_
  refine lv_iconst (v := 1) hx hb dX5_addFour_40 (by decide) ?_
  refine lv_iadd hx hb dX5_addFour_41 ?_
  refine gw_topi (y := 1) (by decide) ?_
  refine va_put (D := G) (ci := 5) (v := .int 1) (ty := .int) (C := RX5) (T := TX5) (N := 2) hx hb hts iX5 tyX5 tyX5_ok nmX5 hown hK hP hD hS 0 rfl rfl 1 (by decide) (hts _ m_172) (fun _ h9 => h9) rfl (tyX5_ok 1 (by decide)) rfl rfl (Nat.le_of_ble_eq_true rfl) dX5_addFour_42 (fun H locs hP hD hS => ?_)
  have hP : va_P G vwCl [((q 9), .inr (5, [.ref (q 10), .int 1])), ((q 10), .inl (cI, 300, .inl (upd f 0 ((p1 >>> (24 &&& 31)) &&& 255))))] H := hP
  have hD : va_D A [((q 9), .inr (5, [.ref (q 10), .int 1])), ((q 10), .inl (cI, 300, .inl (upd f 0 ((p1 >>> (24 &&& 31)) &&& 255))))] := hD
  refine lv_iinc (v := 16) (lv' := [(2, .int 16), (0, .ref (q 9)), (1, .int p1)]) hx hb dX5_addFour_45 hl (k := 0) rfl (by decide) (by decide) rfl (fun ls hl => ?_)
  refine lv_goto (tgt := 3) hx hb dX5_addFour_48 (by decide) ?_
  refine lv_iload_n hx hb dX5_addFour_3 rfl (lv_at hl 0 rfl) ?_
  refine lv_if_lt (tgt := 51) hx hb dX5_addFour_4 (by decide) (fun c => absurd c (by decide)) (fun _ => ?_)
  refine lv_aload_n hx hb dX5_addFour_7 rfl (lv_at hl 1 rfl) ?_
  refine va_get (D := G) (ci := 5) (v := .int 1) (C := RX5) (T := TX5) (N := 2) hx hb hts iX5 hown hK hP 0 rfl rfl 1 (by decide) (hts _ m_172) (fun _ h9 => h9) rfl dX5_addFour_8 ?_
  refine lv_aload_n hx hb dX5_addFour_11 rfl (lv_at hl 1 rfl) ?_
  refine va_get (D := G) (ci := 5) (v := .ref (q 10)) (C := RX5) (T := TX5) (N := 2) hx hb hts iX5 hown hK hP 0 rfl rfl 0 (by decide) (hts _ m_173) (fun _ h9 => h9) rfl dX5_addFour_12 ?_
  refine va_alen (D := G) hx hb hK hP 1 0 rfl rfl (v := 300) rfl dX5_addFour_15 ?_
  refine lv_icmp_ge (tgt := 45) hx hb dX5_addFour_16 (by decide) (fun c => absurd c (by decide)) (fun _ => ?_)
  refine lv_aload_n hx hb dX5_addFour_19 rfl (lv_at hl 1 rfl) ?_
  refine va_get (D := G) (ci := 5) (v := .ref (q 10)) (C := RX5) (T := TX5) (N := 2) hx hb hts iX5 hown hK hP 0 rfl rfl 0 (by decide) (hts _ m_173) (fun _ h9 => h9) rfl dX5_addFour_20 ?_
  refine lv_aload_n hx hb dX5_addFour_23 rfl (lv_at hl 1 rfl) ?_
  refine va_get (D := G) (ci := 5) (v := .int 1) (C := RX5) (T := TX5) (N := 2) hx hb hts iX5 hown hK hP 0 rfl rfl 1 (by decide) (hts _ m_172) (fun _ h9 => h9) rfl dX5_addFour_24 ?_
  refine lv_iload_n hx hb dX5_addFour_27 rfl (lv_at hl 2 rfl) ?_
  refine lv_iload_n hx hb dX5_addFour_28 rfl (lv_at hl 0 rfl) ?_
  refine lv_ishr hx hb dX5_addFour_29 ?_
  refine lv_sipush (v := 255) hx hb dX5_addFour_30 (by decide) ?_
  refine lv_iand hx hb dX5_addFour_33 ?_
  refine gw_iast hx hb hK hP hD hS 1 0 1 rfl rfl rfl (by decide) (by decide) dX5_addFour_34 (fun H locs hP hD hS => ?_)
  have hP : va_P G vwCl [((q 9), .inr (5, [.ref (q 10), .int 1])), ((q 10), .inl (cI, 300, .inl (upd (upd f 0 ((p1 >>> (24 &&& 31)) &&& 255)) 1 ((p1 >>> (16 &&& 31)) &&& 255))))] H := hP
  have hD : va_D A [((q 9), .inr (5, [.ref (q 10), .int 1])), ((q 10), .inl (cI, 300, .inl (upd (upd f 0 ((p1 >>> (24 &&& 31)) &&& 255)) 1 ((p1 >>> (16 &&& 31)) &&& 255))))] := hD
  refine lv_aload_n hx hb dX5_addFour_35 rfl (lv_at hl 1 rfl) ?_
  refine lv_dup hx hb dX5_addFour_36 rfl ?_
  refine va_get (D := G) (ci := 5) (v := .int 1) (C := RX5) (T := TX5) (N := 2) hx hb hts iX5 hown hK hP 0 rfl rfl 1 (by decide) (hts _ m_172) (fun _ h9 => h9) rfl dX5_addFour_37 ?_
  refine lv_iconst (v := 1) hx hb dX5_addFour_40 (by decide) ?_
  refine lv_iadd hx hb dX5_addFour_41 ?_
  refine gw_topi (y := 2) (by decide) ?_
  refine va_put (D := G) (ci := 5) (v := .int 2) (ty := .int) (C := RX5) (T := TX5) (N := 2) hx hb hts iX5 tyX5 tyX5_ok nmX5 hown hK hP hD hS 0 rfl rfl 1 (by decide) (hts _ m_172) (fun _ h9 => h9) rfl (tyX5_ok 1 (by decide)) rfl rfl (Nat.le_of_ble_eq_true rfl) dX5_addFour_42 (fun H locs hP hD hS => ?_)
  have hP : va_P G vwCl [((q 9), .inr (5, [.ref (q 10), .int 2])), ((q 10), .inl (cI, 300, .inl (upd (upd f 0 ((p1 >>> (24 &&& 31)) &&& 255)) 1 ((p1 >>> (16 &&& 31)) &&& 255))))] H := hP
  have hD : va_D A [((q 9), .inr (5, [.ref (q 10), .int 2])), ((q 10), .inl (cI, 300, .inl (upd (upd f 0 ((p1 >>> (24 &&& 31)) &&& 255)) 1 ((p1 >>> (16 &&& 31)) &&& 255))))] := hD
  refine lv_iinc (v := 8) (lv' := [(2, .int 8), (0, .ref (q 9)), (1, .int p1)]) hx hb dX5_addFour_45 hl (k := 0) rfl (by decide) (by decide) rfl (fun ls hl => ?_)
  refine lv_goto (tgt := 3) hx hb dX5_addFour_48 (by decide) ?_
  refine lv_iload_n hx hb dX5_addFour_3 rfl (lv_at hl 0 rfl) ?_
  refine lv_if_lt (tgt := 51) hx hb dX5_addFour_4 (by decide) (fun c => absurd c (by decide)) (fun _ => ?_)
  refine lv_aload_n hx hb dX5_addFour_7 rfl (lv_at hl 1 rfl) ?_
  refine va_get (D := G) (ci := 5) (v := .int 2) (C := RX5) (T := TX5) (N := 2) hx hb hts iX5 hown hK hP 0 rfl rfl 1 (by decide) (hts _ m_172) (fun _ h9 => h9) rfl dX5_addFour_8 ?_
  refine lv_aload_n hx hb dX5_addFour_11 rfl (lv_at hl 1 rfl) ?_
  refine va_get (D := G) (ci := 5) (v := .ref (q 10)) (C := RX5) (T := TX5) (N := 2) hx hb hts iX5 hown hK hP 0 rfl rfl 0 (by decide) (hts _ m_173) (fun _ h9 => h9) rfl dX5_addFour_12 ?_
  refine va_alen (D := G) hx hb hK hP 1 0 rfl rfl (v := 300) rfl dX5_addFour_15 ?_
  refine lv_icmp_ge (tgt := 45) hx hb dX5_addFour_16 (by decide) (fun c => absurd c (by decide)) (fun _ => ?_)
  refine lv_aload_n hx hb dX5_addFour_19 rfl (lv_at hl 1 rfl) ?_
  refine va_get (D := G) (ci := 5) (v := .ref (q 10)) (C := RX5) (T := TX5) (N := 2) hx hb hts iX5 hown hK hP 0 rfl rfl 0 (by decide) (hts _ m_173) (fun _ h9 => h9) rfl dX5_addFour_20 ?_
  refine lv_aload_n hx hb dX5_addFour_23 rfl (lv_at hl 1 rfl) ?_
  refine va_get (D := G) (ci := 5) (v := .int 2) (C := RX5) (T := TX5) (N := 2) hx hb hts iX5 hown hK hP 0 rfl rfl 1 (by decide) (hts _ m_172) (fun _ h9 => h9) rfl dX5_addFour_24 ?_
  refine lv_iload_n hx hb dX5_addFour_27 rfl (lv_at hl 2 rfl) ?_
  refine lv_iload_n hx hb dX5_addFour_28 rfl (lv_at hl 0 rfl) ?_
  refine lv_ishr hx hb dX5_addFour_29 ?_
  refine lv_sipush (v := 255) hx hb dX5_addFour_30 (by decide) ?_
  refine lv_iand hx hb dX5_addFour_33 ?_
  refine gw_iast hx hb hK hP hD hS 1 0 2 rfl rfl rfl (by decide) (by decide) dX5_addFour_34 (fun H locs hP hD hS => ?_)
  have hP : va_P G vwCl [((q 9), .inr (5, [.ref (q 10), .int 2])), ((q 10), .inl (cI, 300, .inl (upd (upd (upd f 0 ((p1 >>> (24 &&& 31)) &&& 255)) 1 ((p1 >>> (16 &&& 31)) &&& 255)) 2 ((p1 >>> (8 &&& 31)) &&& 255))))] H := hP
  have hD : va_D A [((q 9), .inr (5, [.ref (q 10), .int 2])), ((q 10), .inl (cI, 300, .inl (upd (upd (upd f 0 ((p1 >>> (24 &&& 31)) &&& 255)) 1 ((p1 >>> (16 &&& 31)) &&& 255)) 2 ((p1 >>> (8 &&& 31)) &&& 255))))] := hD
  refine lv_aload_n hx hb dX5_addFour_35 rfl (lv_at hl 1 rfl) ?_
  refine lv_dup hx hb dX5_addFour_36 rfl ?_
  refine va_get (D := G) (ci := 5) (v := .int 2) (C := RX5) (T := TX5) (N := 2) hx hb hts iX5 hown hK hP 0 rfl rfl 1 (by decide) (hts _ m_172) (fun _ h9 => h9) rfl dX5_addFour_37 ?_
  refine lv_iconst (v := 1) hx hb dX5_addFour_40 (by decide) ?_
  refine lv_iadd hx hb dX5_addFour_41 ?_
  refine gw_topi (y := 3) (by decide) ?_
  refine va_put (D := G) (ci := 5) (v := .int 3) (ty := .int) (C := RX5) (T := TX5) (N := 2) hx hb hts iX5 tyX5 tyX5_ok nmX5 hown hK hP hD hS 0 rfl rfl 1 (by decide) (hts _ m_172) (fun _ h9 => h9) rfl (tyX5_ok 1 (by decide)) rfl rfl (Nat.le_of_ble_eq_true rfl) dX5_addFour_42 (fun H locs hP hD hS => ?_)
  have hP : va_P G vwCl [((q 9), .inr (5, [.ref (q 10), .int 3])), ((q 10), .inl (cI, 300, .inl (upd (upd (upd f 0 ((p1 >>> (24 &&& 31)) &&& 255)) 1 ((p1 >>> (16 &&& 31)) &&& 255)) 2 ((p1 >>> (8 &&& 31)) &&& 255))))] H := hP
  have hD : va_D A [((q 9), .inr (5, [.ref (q 10), .int 3])), ((q 10), .inl (cI, 300, .inl (upd (upd (upd f 0 ((p1 >>> (24 &&& 31)) &&& 255)) 1 ((p1 >>> (16 &&& 31)) &&& 255)) 2 ((p1 >>> (8 &&& 31)) &&& 255))))] := hD
  refine lv_iinc (v := 0) (lv' := [(2, .int 0), (0, .ref (q 9)), (1, .int p1)]) hx hb dX5_addFour_45 hl (k := 0) rfl (by decide) (by decide) rfl (fun ls hl => ?_)
  refine lv_goto (tgt := 3) hx hb dX5_addFour_48 (by decide) ?_
  refine lv_iload_n hx hb dX5_addFour_3 rfl (lv_at hl 0 rfl) ?_
  refine lv_if_lt (tgt := 51) hx hb dX5_addFour_4 (by decide) (fun c => absurd c (by decide)) (fun _ => ?_)
  refine lv_aload_n hx hb dX5_addFour_7 rfl (lv_at hl 1 rfl) ?_
  refine va_get (D := G) (ci := 5) (v := .int 3) (C := RX5) (T := TX5) (N := 2) hx hb hts iX5 hown hK hP 0 rfl rfl 1 (by decide) (hts _ m_172) (fun _ h9 => h9) rfl dX5_addFour_8 ?_
  refine lv_aload_n hx hb dX5_addFour_11 rfl (lv_at hl 1 rfl) ?_
  refine va_get (D := G) (ci := 5) (v := .ref (q 10)) (C := RX5) (T := TX5) (N := 2) hx hb hts iX5 hown hK hP 0 rfl rfl 0 (by decide) (hts _ m_173) (fun _ h9 => h9) rfl dX5_addFour_12 ?_
  refine va_alen (D := G) hx hb hK hP 1 0 rfl rfl (v := 300) rfl dX5_addFour_15 ?_
  refine lv_icmp_ge (tgt := 45) hx hb dX5_addFour_16 (by decide) (fun c => absurd c (by decide)) (fun _ => ?_)
  refine lv_aload_n hx hb dX5_addFour_19 rfl (lv_at hl 1 rfl) ?_
  refine va_get (D := G) (ci := 5) (v := .ref (q 10)) (C := RX5) (T := TX5) (N := 2) hx hb hts iX5 hown hK hP 0 rfl rfl 0 (by decide) (hts _ m_173) (fun _ h9 => h9) rfl dX5_addFour_20 ?_
  refine lv_aload_n hx hb dX5_addFour_23 rfl (lv_at hl 1 rfl) ?_
  refine va_get (D := G) (ci := 5) (v := .int 3) (C := RX5) (T := TX5) (N := 2) hx hb hts iX5 hown hK hP 0 rfl rfl 1 (by decide) (hts _ m_172) (fun _ h9 => h9) rfl dX5_addFour_24 ?_
  refine lv_iload_n hx hb dX5_addFour_27 rfl (lv_at hl 2 rfl) ?_
  refine lv_iload_n hx hb dX5_addFour_28 rfl (lv_at hl 0 rfl) ?_
  refine lv_ishr hx hb dX5_addFour_29 ?_
  refine lv_sipush (v := 255) hx hb dX5_addFour_30 (by decide) ?_
  refine lv_iand hx hb dX5_addFour_33 ?_
  refine gw_iast hx hb hK hP hD hS 1 0 3 rfl rfl rfl (by decide) (by decide) dX5_addFour_34 (fun H locs hP hD hS => ?_)
  have hP : va_P G vwCl [((q 9), .inr (5, [.ref (q 10), .int 3])), ((q 10), .inl (cI, 300, .inl (upd (upd (upd (upd f 0 ((p1 >>> (24 &&& 31)) &&& 255)) 1 ((p1 >>> (16 &&& 31)) &&& 255)) 2 ((p1 >>> (8 &&& 31)) &&& 255)) 3 ((p1 >>> (0 &&& 31)) &&& 255))))] H := hP
  have hD : va_D A [((q 9), .inr (5, [.ref (q 10), .int 3])), ((q 10), .inl (cI, 300, .inl (upd (upd (upd (upd f 0 ((p1 >>> (24 &&& 31)) &&& 255)) 1 ((p1 >>> (16 &&& 31)) &&& 255)) 2 ((p1 >>> (8 &&& 31)) &&& 255)) 3 ((p1 >>> (0 &&& 31)) &&& 255))))] := hD
  refine lv_aload_n hx hb dX5_addFour_35 rfl (lv_at hl 1 rfl) ?_
  refine lv_dup hx hb dX5_addFour_36 rfl ?_
  refine va_get (D := G) (ci := 5) (v := .int 3) (C := RX5) (T := TX5) (N := 2) hx hb hts iX5 hown hK hP 0 rfl rfl 1 (by decide) (hts _ m_172) (fun _ h9 => h9) rfl dX5_addFour_37 ?_
  refine lv_iconst (v := 1) hx hb dX5_addFour_40 (by decide) ?_
  refine lv_iadd hx hb dX5_addFour_41 ?_
  refine gw_topi (y := 4) (by decide) ?_
  refine va_put (D := G) (ci := 5) (v := .int 4) (ty := .int) (C := RX5) (T := TX5) (N := 2) hx hb hts iX5 tyX5 tyX5_ok nmX5 hown hK hP hD hS 0 rfl rfl 1 (by decide) (hts _ m_172) (fun _ h9 => h9) rfl (tyX5_ok 1 (by decide)) rfl rfl (Nat.le_of_ble_eq_true rfl) dX5_addFour_42 (fun H locs hP hD hS => ?_)
  have hP : va_P G vwCl [((q 9), .inr (5, [.ref (q 10), .int 4])), ((q 10), .inl (cI, 300, .inl (upd (upd (upd (upd f 0 ((p1 >>> (24 &&& 31)) &&& 255)) 1 ((p1 >>> (16 &&& 31)) &&& 255)) 2 ((p1 >>> (8 &&& 31)) &&& 255)) 3 ((p1 >>> (0 &&& 31)) &&& 255))))] H := hP
  have hD : va_D A [((q 9), .inr (5, [.ref (q 10), .int 4])), ((q 10), .inl (cI, 300, .inl (upd (upd (upd (upd f 0 ((p1 >>> (24 &&& 31)) &&& 255)) 1 ((p1 >>> (16 &&& 31)) &&& 255)) 2 ((p1 >>> (8 &&& 31)) &&& 255)) 3 ((p1 >>> (0 &&& 31)) &&& 255))))] := hD
  refine lv_iinc (v := (-8)) (lv' := [(2, .int (-8)), (0, .ref (q 9)), (1, .int p1)]) hx hb dX5_addFour_45 hl (k := 0) rfl (by decide) (by decide) rfl (fun ls hl => ?_)
  refine lv_goto (tgt := 3) hx hb dX5_addFour_48 (by decide) ?_
  refine lv_iload_n hx hb dX5_addFour_3 rfl (lv_at hl 0 rfl) ?_
  refine lv_if_lt (tgt := 51) hx hb dX5_addFour_4 (by decide) (fun _ => ?_) (fun c => absurd (by decide) c)
  exact gw_vret (upd (upd (upd (upd f 0 ((p1 >>> (24 &&& 31)) &&& 255)) 1 ((p1 >>> (16 &&& 31)) &&& 255)) 2 ((p1 >>> (8 &&& 31)) &&& 255)) 3 ((p1 >>> (0 &&& 31)) &&& 255)) hx hb hr hlocks hP hD hS trivial dX5_addFour_51
set_option maxHeartbeats 4000000 in
set_option maxRecDepth 100000 in
theorem c_addFour4 (l : Launch) (G : va_G) (cI cJ cZ cB cT : ClassId) (q : Nat → Nat) (f : Nat → Int32) (p1 : Int32)  : gMv l yX5_addFour (gws yX5_addFour cX5_addFour 3 none) 1 G (gT cI cJ cZ cB cT) [.ref (q 9), .int p1] [((q 9), .inr (5, [.ref (q 10), .int 4])), ((q 10), .inl (cI, 300, .inl f))] (fun (_ : Nat → Int32) => True) (fun (u : Nat → Int32) => ([((q 9), .inr (5, [.ref (q 10), .int 8])), ((q 10), .inl (cI, 300, .inl u))] : va_W)) := by
  intro sz
  refine gM_start (y := yX5_addFour) (av := [.ref (q 9), .int p1]) (ws := [((q 9), .inr (5, [.ref (q 10), .int 4])), ((q 10), .inl (cI, 300, .inl f))]) (Qf := fun A => va_Qv (fun (_ : Nat → Int32) => True) (gB G (fun (u : Nat → Int32) => ([((q 9), .inr (5, [.ref (q 10), .int 8])), ((q 10), .inl (cI, 300, .inl u))] : va_W)) A) A) (cc := cX5_addFour) (maxL := 3) (ret := none) (by decide) (Nat.le_of_ble_eq_true rfl) ?_
  intro p e s m args below meth c A ls H hx hb hr hts hown hin hlocks hml hP hK hD hA hS hl
  have hl : lv_has ls 3 [(0, .ref (q 9)), (1, .int p1)] := hl
  refine lv_bipush (v := 24) hx hb dX5_addFour_0 (by decide) ?_
  refine lv_istore_n (lv' := [(2, .int 24), (0, .ref (q 9)), (1, .int p1)]) hx hb dX5_addFour_2 rfl hl (by decide) rfl (fun ls hl => ?_)
  refine lv_iload_n hx hb dX5_addFour_3 rfl (lv_at hl 0 rfl) ?_
  refine lv_if_lt (tgt := 51) hx hb dX5_addFour_4 (by decide) (fun c => absurd c (by decide)) (fun _ => ?_)
  refine lv_aload_n hx hb dX5_addFour_7 rfl (lv_at hl 1 rfl) ?_
  refine va_get (D := G) (ci := 5) (v := .int 4) (C := RX5) (T := TX5) (N := 2) hx hb hts iX5 hown hK hP 0 rfl rfl 1 (by decide) (hts _ m_172) (fun _ h9 => h9) rfl dX5_addFour_8 ?_
  refine lv_aload_n hx hb dX5_addFour_11 rfl (lv_at hl 1 rfl) ?_
  refine va_get (D := G) (ci := 5) (v := .ref (q 10)) (C := RX5) (T := TX5) (N := 2) hx hb hts iX5 hown hK hP 0 rfl rfl 0 (by decide) (hts _ m_173) (fun _ h9 => h9) rfl dX5_addFour_12 ?_
  refine va_alen (D := G) hx hb hK hP 1 0 rfl rfl (v := 300) rfl dX5_addFour_15 ?_
  refine lv_icmp_ge (tgt := 45) hx hb dX5_addFour_16 (by decide) (fun c => absurd c (by decide)) (fun _ => ?_)
  refine lv_aload_n hx hb dX5_addFour_19 rfl (lv_at hl 1 rfl) ?_
  refine va_get (D := G) (ci := 5) (v := .ref (q 10)) (C := RX5) (T := TX5) (N := 2) hx hb hts iX5 hown hK hP 0 rfl rfl 0 (by decide) (hts _ m_173) (fun _ h9 => h9) rfl dX5_addFour_20 ?_
  refine lv_aload_n hx hb dX5_addFour_23 rfl (lv_at hl 1 rfl) ?_
  refine va_get (D := G) (ci := 5) (v := .int 4) (C := RX5) (T := TX5) (N := 2) hx hb hts iX5 hown hK hP 0 rfl rfl 1 (by decide) (hts _ m_172) (fun _ h9 => h9) rfl dX5_addFour_24 ?_
  refine lv_iload_n hx hb dX5_addFour_27 rfl (lv_at hl 2 rfl) ?_
  refine lv_iload_n hx hb dX5_addFour_28 rfl (lv_at hl 0 rfl) ?_
  refine lv_ishr hx hb dX5_addFour_29 ?_
  refine lv_sipush (v := 255) hx hb dX5_addFour_30 (by decide) ?_
  refine lv_iand hx hb dX5_addFour_33 ?_
  refine gw_iast hx hb hK hP hD hS 1 0 4 rfl rfl rfl (by decide) (by decide) dX5_addFour_34 (fun H locs hP hD hS => ?_)
  have hP : va_P G vwCl [((q 9), .inr (5, [.ref (q 10), .int 4])), ((q 10), .inl (cI, 300, .inl (upd f 4 ((p1 >>> (24 &&& 31)) &&& 255))))] H := hP
  have hD : va_D A [((q 9), .inr (5, [.ref (q 10), .int 4])), ((q 10), .inl (cI, 300, .inl (upd f 4 ((p1 >>> (24 &&& 31)) &&& 255))))] := hD
  refine lv_aload_n hx hb dX5_addFour_35 rfl (lv_at hl 1 rfl) ?_
  refine lv_dup hx hb dX5_addFour_36 rfl ?_
  refine va_get (D := G) (ci := 5) (v := .int 4) (C := RX5) (T := TX5) (N := 2) hx hb hts iX5 hown hK hP 0 rfl rfl 1 (by decide) (hts _ m_172) (fun _ h9 => h9) rfl dX5_addFour_37 ?_
  refine lv_iconst (v := 1) hx hb dX5_addFour_40 (by decide) ?_
  refine lv_iadd hx hb dX5_addFour_41 ?_
  refine gw_topi (y := 5) (by decide) ?_
  refine va_put (D := G) (ci := 5) (v := .int 5) (ty := .int) (C := RX5) (T := TX5) (N := 2) hx hb hts iX5 tyX5 tyX5_ok nmX5 hown hK hP hD hS 0 rfl rfl 1 (by decide) (hts _ m_172) (fun _ h9 => h9) rfl (tyX5_ok 1 (by decide)) rfl rfl (Nat.le_of_ble_eq_true rfl) dX5_addFour_42 (fun H locs hP hD hS => ?_)
  have hP : va_P G vwCl [((q 9), .inr (5, [.ref (q 10), .int 5])), ((q 10), .inl (cI, 300, .inl (upd f 4 ((p1 >>> (24 &&& 31)) &&& 255))))] H := hP
  have hD : va_D A [((q 9), .inr (5, [.ref (q 10), .int 5])), ((q 10), .inl (cI, 300, .inl (upd f 4 ((p1 >>> (24 &&& 31)) &&& 255))))] := hD
  refine lv_iinc (v := 16) (lv' := [(2, .int 16), (0, .ref (q 9)), (1, .int p1)]) hx hb dX5_addFour_45 hl (k := 0) rfl (by decide) (by decide) rfl (fun ls hl => ?_)
  refine lv_goto (tgt := 3) hx hb dX5_addFour_48 (by decide) ?_
  refine lv_iload_n hx hb dX5_addFour_3 rfl (lv_at hl 0 rfl) ?_
  refine lv_if_lt (tgt := 51) hx hb dX5_addFour_4 (by decide) (fun c => absurd c (by decide)) (fun _ => ?_)
  refine lv_aload_n hx hb dX5_addFour_7 rfl (lv_at hl 1 rfl) ?_
  refine va_get (D := G) (ci := 5) (v := .int 5) (C := RX5) (T := TX5) (N := 2) hx hb hts iX5 hown hK hP 0 rfl rfl 1 (by decide) (hts _ m_172) (fun _ h9 => h9) rfl dX5_addFour_8 ?_
  refine lv_aload_n hx hb dX5_addFour_11 rfl (lv_at hl 1 rfl) ?_
  refine va_get (D := G) (ci := 5) (v := .ref (q 10)) (C := RX5) (T := TX5) (N := 2) hx hb hts iX5 hown hK hP 0 rfl rfl 0 (by decide) (hts _ m_173) (fun _ h9 => h9) rfl dX5_addFour_12 ?_
  refine va_alen (D := G) hx hb hK hP 1 0 rfl rfl (v := 300) rfl dX5_addFour_15 ?_
  refine lv_icmp_ge (tgt := 45) hx hb dX5_addFour_16 (by decide) (fun c => absurd c (by decide)) (fun _ => ?_)
  refine lv_aload_n hx hb dX5_addFour_19 rfl (lv_at hl 1 rfl) ?_
  refine va_get (D := G) (ci := 5) (v := .ref (q 10)) (C := RX5) (T := TX5) (N := 2) hx hb hts iX5 hown hK hP 0 rfl rfl 0 (by decide) (hts _ m_173) (fun _ h9 => h9) rfl dX5_addFour_20 ?_
  refine lv_aload_n hx hb dX5_addFour_23 rfl (lv_at hl 1 rfl) ?_
  refine va_get (D := G) (ci := 5) (v := .int 5) (C := RX5) (T := TX5) (N := 2) hx hb hts iX5 hown hK hP 0 rfl rfl 1 (by decide) (hts _ m_172) (fun _ h9 => h9) rfl dX5_addFour_24 ?_
  refine lv_iload_n hx hb dX5_addFour_27 rfl (lv_at hl 2 rfl) ?_
  refine lv_iload_n hx hb dX5_addFour_28 rfl (lv_at hl 0 rfl) ?_
  refine lv_ishr hx hb dX5_addFour_29 ?_
  refine lv_sipush (v := 255) hx hb dX5_addFour_30 (by decide) ?_
  refine lv_iand hx hb dX5_addFour_33 ?_
  refine gw_iast hx hb hK hP hD hS 1 0 5 rfl rfl rfl (by decide) (by decide) dX5_addFour_34 (fun H locs hP hD hS => ?_)
  have hP : va_P G vwCl [((q 9), .inr (5, [.ref (q 10), .int 5])), ((q 10), .inl (cI, 300, .inl (upd (upd f 4 ((p1 >>> (24 &&& 31)) &&& 255)) 5 ((p1 >>> (16 &&& 31)) &&& 255))))] H := hP
  have hD : va_D A [((q 9), .inr (5, [.ref (q 10), .int 5])), ((q 10), .inl (cI, 300, .inl (upd (upd f 4 ((p1 >>> (24 &&& 31)) &&& 255)) 5 ((p1 >>> (16 &&& 31)) &&& 255))))] := hD
  refine lv_aload_n hx hb dX5_addFour_35 rfl (lv_at hl 1 rfl) ?_
  refine lv_dup hx hb dX5_addFour_36 rfl ?_
  refine va_get (D := G) (ci := 5) (v := .int 5) (C := RX5) (T := TX5) (N := 2) hx hb hts iX5 hown hK hP 0 rfl rfl 1 (by decide) (hts _ m_172) (fun _ h9 => h9) rfl dX5_addFour_37 ?_
  refine lv_iconst (v := 1) hx hb dX5_addFour_40 (by decide) ?_
  refine lv_iadd hx hb dX5_addFour_41 ?_
  refine gw_topi (y := 6) (by decide) ?_
  refine va_put (D := G) (ci := 5) (v := .int 6) (ty := .int) (C := RX5) (T := TX5) (N := 2) hx hb hts iX5 tyX5 tyX5_ok nmX5 hown hK hP hD hS 0 rfl rfl 1 (by decide) (hts _ m_172) (fun _ h9 => h9) rfl (tyX5_ok 1 (by decide)) rfl rfl (Nat.le_of_ble_eq_true rfl) dX5_addFour_42 (fun H locs hP hD hS => ?_)
  have hP : va_P G vwCl [((q 9), .inr (5, [.ref (q 10), .int 6])), ((q 10), .inl (cI, 300, .inl (upd (upd f 4 ((p1 >>> (24 &&& 31)) &&& 255)) 5 ((p1 >>> (16 &&& 31)) &&& 255))))] H := hP
  have hD : va_D A [((q 9), .inr (5, [.ref (q 10), .int 6])), ((q 10), .inl (cI, 300, .inl (upd (upd f 4 ((p1 >>> (24 &&& 31)) &&& 255)) 5 ((p1 >>> (16 &&& 31)) &&& 255))))] := hD
  refine lv_iinc (v := 8) (lv' := [(2, .int 8), (0, .ref (q 9)), (1, .int p1)]) hx hb dX5_addFour_45 hl (k := 0) rfl (by decide) (by decide) rfl (fun ls hl => ?_)
  refine lv_goto (tgt := 3) hx hb dX5_addFour_48 (by decide) ?_
  refine lv_iload_n hx hb dX5_addFour_3 rfl (lv_at hl 0 rfl) ?_
  refine lv_if_lt (tgt := 51) hx hb dX5_addFour_4 (by decide) (fun c => absurd c (by decide)) (fun _ => ?_)
  refine lv_aload_n hx hb dX5_addFour_7 rfl (lv_at hl 1 rfl) ?_
  refine va_get (D := G) (ci := 5) (v := .int 6) (C := RX5) (T := TX5) (N := 2) hx hb hts iX5 hown hK hP 0 rfl rfl 1 (by decide) (hts _ m_172) (fun _ h9 => h9) rfl dX5_addFour_8 ?_
  refine lv_aload_n hx hb dX5_addFour_11 rfl (lv_at hl 1 rfl) ?_
  refine va_get (D := G) (ci := 5) (v := .ref (q 10)) (C := RX5) (T := TX5) (N := 2) hx hb hts iX5 hown hK hP 0 rfl rfl 0 (by decide) (hts _ m_173) (fun _ h9 => h9) rfl dX5_addFour_12 ?_
  refine va_alen (D := G) hx hb hK hP 1 0 rfl rfl (v := 300) rfl dX5_addFour_15 ?_
  refine lv_icmp_ge (tgt := 45) hx hb dX5_addFour_16 (by decide) (fun c => absurd c (by decide)) (fun _ => ?_)
  refine lv_aload_n hx hb dX5_addFour_19 rfl (lv_at hl 1 rfl) ?_
  refine va_get (D := G) (ci := 5) (v := .ref (q 10)) (C := RX5) (T := TX5) (N := 2) hx hb hts iX5 hown hK hP 0 rfl rfl 0 (by decide) (hts _ m_173) (fun _ h9 => h9) rfl dX5_addFour_20 ?_
  refine lv_aload_n hx hb dX5_addFour_23 rfl (lv_at hl 1 rfl) ?_
  refine va_get (D := G) (ci := 5) (v := .int 6) (C := RX5) (T := TX5) (N := 2) hx hb hts iX5 hown hK hP 0 rfl rfl 1 (by decide) (hts _ m_172) (fun _ h9 => h9) rfl dX5_addFour_24 ?_
  refine lv_iload_n hx hb dX5_addFour_27 rfl (lv_at hl 2 rfl) ?_
  refine lv_iload_n hx hb dX5_addFour_28 rfl (lv_at hl 0 rfl) ?_
  refine lv_ishr hx hb dX5_addFour_29 ?_
  refine lv_sipush (v := 255) hx hb dX5_addFour_30 (by decide) ?_
  refine lv_iand hx hb dX5_addFour_33 ?_
  refine gw_iast hx hb hK hP hD hS 1 0 6 rfl rfl rfl (by decide) (by decide) dX5_addFour_34 (fun H locs hP hD hS => ?_)
  have hP : va_P G vwCl [((q 9), .inr (5, [.ref (q 10), .int 6])), ((q 10), .inl (cI, 300, .inl (upd (upd (upd f 4 ((p1 >>> (24 &&& 31)) &&& 255)) 5 ((p1 >>> (16 &&& 31)) &&& 255)) 6 ((p1 >>> (8 &&& 31)) &&& 255))))] H := hP
  have hD : va_D A [((q 9), .inr (5, [.ref (q 10), .int 6])), ((q 10), .inl (cI, 300, .inl (upd (upd (upd f 4 ((p1 >>> (24 &&& 31)) &&& 255)) 5 ((p1 >>> (16 &&& 31)) &&& 255)) 6 ((p1 >>> (8 &&& 31)) &&& 255))))] := hD
  refine lv_aload_n hx hb dX5_addFour_35 rfl (lv_at hl 1 rfl) ?_
  refine lv_dup hx hb dX5_addFour_36 rfl ?_
  refine va_get (D := G) (ci := 5) (v := .int 6) (C := RX5) (T := TX5) (N := 2) hx hb hts iX5 hown hK hP 0 rfl rfl 1 (by decide) (hts _ m_172) (fun _ h9 => h9) rfl dX5_addFour_37 ?_
  refine lv_iconst (v := 1) hx hb dX5_addFour_40 (by decide) ?_
  refine lv_iadd hx hb dX5_addFour_41 ?_
  refine gw_topi (y := 7) (by decide) ?_
  refine va_put (D := G) (ci := 5) (v := .int 7) (ty := .int) (C := RX5) (T := TX5) (N := 2) hx hb hts iX5 tyX5 tyX5_ok nmX5 hown hK hP hD hS 0 rfl rfl 1 (by decide) (hts _ m_172) (fun _ h9 => h9) rfl (tyX5_ok 1 (by decide)) rfl rfl (Nat.le_of_ble_eq_true rfl) dX5_addFour_42 (fun H locs hP hD hS => ?_)
  have hP : va_P G vwCl [((q 9), .inr (5, [.ref (q 10), .int 7])), ((q 10), .inl (cI, 300, .inl (upd (upd (upd f 4 ((p1 >>> (24 &&& 31)) &&& 255)) 5 ((p1 >>> (16 &&& 31)) &&& 255)) 6 ((p1 >>> (8 &&& 31)) &&& 255))))] H := hP
  have hD : va_D A [((q 9), .inr (5, [.ref (q 10), .int 7])), ((q 10), .inl (cI, 300, .inl (upd (upd (upd f 4 ((p1 >>> (24 &&& 31)) &&& 255)) 5 ((p1 >>> (16 &&& 31)) &&& 255)) 6 ((p1 >>> (8 &&& 31)) &&& 255))))] := hD
  refine lv_iinc (v := 0) (lv' := [(2, .int 0), (0, .ref (q 9)), (1, .int p1)]) hx hb dX5_addFour_45 hl (k := 0) rfl (by decide) (by decide) rfl (fun ls hl => ?_)
  refine lv_goto (tgt := 3) hx hb dX5_addFour_48 (by decide) ?_
  refine lv_iload_n hx hb dX5_addFour_3 rfl (lv_at hl 0 rfl) ?_
  refine lv_if_lt (tgt := 51) hx hb dX5_addFour_4 (by decide) (fun c => absurd c (by decide)) (fun _ => ?_)
  refine lv_aload_n hx hb dX5_addFour_7 rfl (lv_at hl 1 rfl) ?_
  refine va_get (D := G) (ci := 5) (v := .int 7) (C := RX5) (T := TX5) (N := 2) hx hb hts iX5 hown hK hP 0 rfl rfl 1 (by decide) (hts _ m_172) (fun _ h9 => h9) rfl dX5_addFour_8 ?_
  refine lv_aload_n hx hb dX5_addFour_11 rfl (lv_at hl 1 rfl) ?_
  refine va_get (D := G) (ci := 5) (v := .ref (q 10)) (C := RX5) (T := TX5) (N := 2) hx hb hts iX5 hown hK hP 0 rfl rfl 0 (by decide) (hts _ m_173) (fun _ h9 => h9) rfl dX5_addFour_12 ?_
  refine va_alen (D := G) hx hb hK hP 1 0 rfl rfl (v := 300) rfl dX5_addFour_15 ?_
  refine lv_icmp_ge (tgt := 45) hx hb dX5_addFour_16 (by decide) (fun c => absurd c (by decide)) (fun _ => ?_)
  refine lv_aload_n hx hb dX5_addFour_19 rfl (lv_at hl 1 rfl) ?_
  refine va_get (D := G) (ci := 5) (v := .ref (q 10)) (C := RX5) (T := TX5) (N := 2) hx hb hts iX5 hown hK hP 0 rfl rfl 0 (by decide) (hts _ m_173) (fun _ h9 => h9) rfl dX5_addFour_20 ?_
  refine lv_aload_n hx hb dX5_addFour_23 rfl (lv_at hl 1 rfl) ?_
  refine va_get (D := G) (ci := 5) (v := .int 7) (C := RX5) (T := TX5) (N := 2) hx hb hts iX5 hown hK hP 0 rfl rfl 1 (by decide) (hts _ m_172) (fun _ h9 => h9) rfl dX5_addFour_24 ?_
  refine lv_iload_n hx hb dX5_addFour_27 rfl (lv_at hl 2 rfl) ?_
  refine lv_iload_n hx hb dX5_addFour_28 rfl (lv_at hl 0 rfl) ?_
  refine lv_ishr hx hb dX5_addFour_29 ?_
  refine lv_sipush (v := 255) hx hb dX5_addFour_30 (by decide) ?_
  refine lv_iand hx hb dX5_addFour_33 ?_
  refine gw_iast hx hb hK hP hD hS 1 0 7 rfl rfl rfl (by decide) (by decide) dX5_addFour_34 (fun H locs hP hD hS => ?_)
  have hP : va_P G vwCl [((q 9), .inr (5, [.ref (q 10), .int 7])), ((q 10), .inl (cI, 300, .inl (upd (upd (upd (upd f 4 ((p1 >>> (24 &&& 31)) &&& 255)) 5 ((p1 >>> (16 &&& 31)) &&& 255)) 6 ((p1 >>> (8 &&& 31)) &&& 255)) 7 ((p1 >>> (0 &&& 31)) &&& 255))))] H := hP
  have hD : va_D A [((q 9), .inr (5, [.ref (q 10), .int 7])), ((q 10), .inl (cI, 300, .inl (upd (upd (upd (upd f 4 ((p1 >>> (24 &&& 31)) &&& 255)) 5 ((p1 >>> (16 &&& 31)) &&& 255)) 6 ((p1 >>> (8 &&& 31)) &&& 255)) 7 ((p1 >>> (0 &&& 31)) &&& 255))))] := hD
  refine lv_aload_n hx hb dX5_addFour_35 rfl (lv_at hl 1 rfl) ?_
  refine lv_dup hx hb dX5_addFour_36 rfl ?_
  refine va_get (D := G) (ci := 5) (v := .int 7) (C := RX5) (T := TX5) (N := 2) hx hb hts iX5 hown hK hP 0 rfl rfl 1 (by decide) (hts _ m_172) (fun _ h9 => h9) rfl dX5_addFour_37 ?_
  refine lv_iconst (v := 1) hx hb dX5_addFour_40 (by decide) ?_
  refine lv_iadd hx hb dX5_addFour_41 ?_
  refine gw_topi (y := 8) (by decide) ?_
  refine va_put (D := G) (ci := 5) (v := .int 8) (ty := .int) (C := RX5) (T := TX5) (N := 2) hx hb hts iX5 tyX5 tyX5_ok nmX5 hown hK hP hD hS 0 rfl rfl 1 (by decide) (hts _ m_172) (fun _ h9 => h9) rfl (tyX5_ok 1 (by decide)) rfl rfl (Nat.le_of_ble_eq_true rfl) dX5_addFour_42 (fun H locs hP hD hS => ?_)
  have hP : va_P G vwCl [((q 9), .inr (5, [.ref (q 10), .int 8])), ((q 10), .inl (cI, 300, .inl (upd (upd (upd (upd f 4 ((p1 >>> (24 &&& 31)) &&& 255)) 5 ((p1 >>> (16 &&& 31)) &&& 255)) 6 ((p1 >>> (8 &&& 31)) &&& 255)) 7 ((p1 >>> (0 &&& 31)) &&& 255))))] H := hP
  have hD : va_D A [((q 9), .inr (5, [.ref (q 10), .int 8])), ((q 10), .inl (cI, 300, .inl (upd (upd (upd (upd f 4 ((p1 >>> (24 &&& 31)) &&& 255)) 5 ((p1 >>> (16 &&& 31)) &&& 255)) 6 ((p1 >>> (8 &&& 31)) &&& 255)) 7 ((p1 >>> (0 &&& 31)) &&& 255))))] := hD
  refine lv_iinc (v := (-8)) (lv' := [(2, .int (-8)), (0, .ref (q 9)), (1, .int p1)]) hx hb dX5_addFour_45 hl (k := 0) rfl (by decide) (by decide) rfl (fun ls hl => ?_)
  refine lv_goto (tgt := 3) hx hb dX5_addFour_48 (by decide) ?_
  refine lv_iload_n hx hb dX5_addFour_3 rfl (lv_at hl 0 rfl) ?_
  refine lv_if_lt (tgt := 51) hx hb dX5_addFour_4 (by decide) (fun _ => ?_) (fun c => absurd (by decide) c)
  exact gw_vret (upd (upd (upd (upd f 4 ((p1 >>> (24 &&& 31)) &&& 255)) 5 ((p1 >>> (16 &&& 31)) &&& 255)) 6 ((p1 >>> (8 &&& 31)) &&& 255)) 7 ((p1 >>> (0 &&& 31)) &&& 255)) hx hb hr hlocks hP hD hS trivial dX5_addFour_51
set_option maxHeartbeats 4000000 in
set_option maxRecDepth 100000 in
theorem c_addFour8 (l : Launch) (G : va_G) (cI cJ cZ cB cT : ClassId) (q : Nat → Nat) (f : Nat → Int32) (p1 : Int32)  : gMv l yX5_addFour (gws yX5_addFour cX5_addFour 3 none) 1 G (gT cI cJ cZ cB cT) [.ref (q 9), .int p1] [((q 9), .inr (5, [.ref (q 10), .int 8])), ((q 10), .inl (cI, 300, .inl f))] (fun (_ : Nat → Int32) => True) (fun (u : Nat → Int32) => ([((q 9), .inr (5, [.ref (q 10), .int 12])), ((q 10), .inl (cI, 300, .inl u))] : va_W)) := by
  intro sz
  refine gM_start (y := yX5_addFour) (av := [.ref (q 9), .int p1]) (ws := [((q 9), .inr (5, [.ref (q 10), .int 8])), ((q 10), .inl (cI, 300, .inl f))]) (Qf := fun A => va_Qv (fun (_ : Nat → Int32) => True) (gB G (fun (u : Nat → Int32) => ([((q 9), .inr (5, [.ref (q 10), .int 12])), ((q 10), .inl (cI, 300, .inl u))] : va_W)) A) A) (cc := cX5_addFour) (maxL := 3) (ret := none) (by decide) (Nat.le_of_ble_eq_true rfl) ?_
  intro p e s m args below meth c A ls H hx hb hr hts hown hin hlocks hml hP hK hD hA hS hl
  have hl : lv_has ls 3 [(0, .ref (q 9)), (1, .int p1)] := hl
  refine lv_bipush (v := 24) hx hb dX5_addFour_0 (by decide) ?_
  refine lv_istore_n (lv' := [(2, .int 24), (0, .ref (q 9)), (1, .int p1)]) hx hb dX5_addFour_2 rfl hl (by decide) rfl (fun ls hl => ?_)
  refine lv_iload_n hx hb dX5_addFour_3 rfl (lv_at hl 0 rfl) ?_
  refine lv_if_lt (tgt := 51) hx hb dX5_addFour_4 (by decide) (fun c => absurd c (by decide)) (fun _ => ?_)
  refine lv_aload_n hx hb dX5_addFour_7 rfl (lv_at hl 1 rfl) ?_
  refine va_get (D := G) (ci := 5) (v := .int 8) (C := RX5) (T := TX5) (N := 2) hx hb hts iX5 hown hK hP 0 rfl rfl 1 (by decide) (hts _ m_172) (fun _ h9 => h9) rfl dX5_addFour_8 ?_
  refine lv_aload_n hx hb dX5_addFour_11 rfl (lv_at hl 1 rfl) ?_
  refine va_get (D := G) (ci := 5) (v := .ref (q 10)) (C := RX5) (T := TX5) (N := 2) hx hb hts iX5 hown hK hP 0 rfl rfl 0 (by decide) (hts _ m_173) (fun _ h9 => h9) rfl dX5_addFour_12 ?_
  refine va_alen (D := G) hx hb hK hP 1 0 rfl rfl (v := 300) rfl dX5_addFour_15 ?_
  refine lv_icmp_ge (tgt := 45) hx hb dX5_addFour_16 (by decide) (fun c => absurd c (by decide)) (fun _ => ?_)
  refine lv_aload_n hx hb dX5_addFour_19 rfl (lv_at hl 1 rfl) ?_
  refine va_get (D := G) (ci := 5) (v := .ref (q 10)) (C := RX5) (T := TX5) (N := 2) hx hb hts iX5 hown hK hP 0 rfl rfl 0 (by decide) (hts _ m_173) (fun _ h9 => h9) rfl dX5_addFour_20 ?_
  refine lv_aload_n hx hb dX5_addFour_23 rfl (lv_at hl 1 rfl) ?_
  refine va_get (D := G) (ci := 5) (v := .int 8) (C := RX5) (T := TX5) (N := 2) hx hb hts iX5 hown hK hP 0 rfl rfl 1 (by decide) (hts _ m_172) (fun _ h9 => h9) rfl dX5_addFour_24 ?_
  refine lv_iload_n hx hb dX5_addFour_27 rfl (lv_at hl 2 rfl) ?_
  refine lv_iload_n hx hb dX5_addFour_28 rfl (lv_at hl 0 rfl) ?_
  refine lv_ishr hx hb dX5_addFour_29 ?_
  refine lv_sipush (v := 255) hx hb dX5_addFour_30 (by decide) ?_
  refine lv_iand hx hb dX5_addFour_33 ?_
  refine gw_iast hx hb hK hP hD hS 1 0 8 rfl rfl rfl (by decide) (by decide) dX5_addFour_34 (fun H locs hP hD hS => ?_)
  have hP : va_P G vwCl [((q 9), .inr (5, [.ref (q 10), .int 8])), ((q 10), .inl (cI, 300, .inl (upd f 8 ((p1 >>> (24 &&& 31)) &&& 255))))] H := hP
  have hD : va_D A [((q 9), .inr (5, [.ref (q 10), .int 8])), ((q 10), .inl (cI, 300, .inl (upd f 8 ((p1 >>> (24 &&& 31)) &&& 255))))] := hD
  refine lv_aload_n hx hb dX5_addFour_35 rfl (lv_at hl 1 rfl) ?_
  refine lv_dup hx hb dX5_addFour_36 rfl ?_
  refine va_get (D := G) (ci := 5) (v := .int 8) (C := RX5) (T := TX5) (N := 2) hx hb hts iX5 hown hK hP 0 rfl rfl 1 (by decide) (hts _ m_172) (fun _ h9 => h9) rfl dX5_addFour_37 ?_
  refine lv_iconst (v := 1) hx hb dX5_addFour_40 (by decide) ?_
  refine lv_iadd hx hb dX5_addFour_41 ?_
  refine gw_topi (y := 9) (by decide) ?_
  refine va_put (D := G) (ci := 5) (v := .int 9) (ty := .int) (C := RX5) (T := TX5) (N := 2) hx hb hts iX5 tyX5 tyX5_ok nmX5 hown hK hP hD hS 0 rfl rfl 1 (by decide) (hts _ m_172) (fun _ h9 => h9) rfl (tyX5_ok 1 (by decide)) rfl rfl (Nat.le_of_ble_eq_true rfl) dX5_addFour_42 (fun H locs hP hD hS => ?_)
  have hP : va_P G vwCl [((q 9), .inr (5, [.ref (q 10), .int 9])), ((q 10), .inl (cI, 300, .inl (upd f 8 ((p1 >>> (24 &&& 31)) &&& 255))))] H := hP
  have hD : va_D A [((q 9), .inr (5, [.ref (q 10), .int 9])), ((q 10), .inl (cI, 300, .inl (upd f 8 ((p1 >>> (24 &&& 31)) &&& 255))))] := hD
  refine lv_iinc (v := 16) (lv' := [(2, .int 16), (0, .ref (q 9)), (1, .int p1)]) hx hb dX5_addFour_45 hl (k := 0) rfl (by decide) (by decide) rfl (fun ls hl => ?_)
  refine lv_goto (tgt := 3) hx hb dX5_addFour_48 (by decide) ?_
  refine lv_iload_n hx hb dX5_addFour_3 rfl (lv_at hl 0 rfl) ?_
  refine lv_if_lt (tgt := 51) hx hb dX5_addFour_4 (by decide) (fun c => absurd c (by decide)) (fun _ => ?_)
  refine lv_aload_n hx hb dX5_addFour_7 rfl (lv_at hl 1 rfl) ?_
  refine va_get (D := G) (ci := 5) (v := .int 9) (C := RX5) (T := TX5) (N := 2) hx hb hts iX5 hown hK hP 0 rfl rfl 1 (by decide) (hts _ m_172) (fun _ h9 => h9) rfl dX5_addFour_8 ?_
  refine lv_aload_n hx hb dX5_addFour_11 rfl (lv_at hl 1 rfl) ?_
  refine va_get (D := G) (ci := 5) (v := .ref (q 10)) (C := RX5) (T := TX5) (N := 2) hx hb hts iX5 hown hK hP 0 rfl rfl 0 (by decide) (hts _ m_173) (fun _ h9 => h9) rfl dX5_addFour_12 ?_
  refine va_alen (D := G) hx hb hK hP 1 0 rfl rfl (v := 300) rfl dX5_addFour_15 ?_
  refine lv_icmp_ge (tgt := 45) hx hb dX5_addFour_16 (by decide) (fun c => absurd c (by decide)) (fun _ => ?_)
  refine lv_aload_n hx hb dX5_addFour_19 rfl (lv_at hl 1 rfl) ?_
  refine va_get (D := G) (ci := 5) (v := .ref (q 10)) (C := RX5) (T := TX5) (N := 2) hx hb hts iX5 hown hK hP 0 rfl rfl 0 (by decide) (hts _ m_173) (fun _ h9 => h9) rfl dX5_addFour_20 ?_
  refine lv_aload_n hx hb dX5_addFour_23 rfl (lv_at hl 1 rfl) ?_
  refine va_get (D := G) (ci := 5) (v := .int 9) (C := RX5) (T := TX5) (N := 2) hx hb hts iX5 hown hK hP 0 rfl rfl 1 (by decide) (hts _ m_172) (fun _ h9 => h9) rfl dX5_addFour_24 ?_
  refine lv_iload_n hx hb dX5_addFour_27 rfl (lv_at hl 2 rfl) ?_
  refine lv_iload_n hx hb dX5_addFour_28 rfl (lv_at hl 0 rfl) ?_
  refine lv_ishr hx hb dX5_addFour_29 ?_
  refine lv_sipush (v := 255) hx hb dX5_addFour_30 (by decide) ?_
  refine lv_iand hx hb dX5_addFour_33 ?_
  refine gw_iast hx hb hK hP hD hS 1 0 9 rfl rfl rfl (by decide) (by decide) dX5_addFour_34 (fun H locs hP hD hS => ?_)
  have hP : va_P G vwCl [((q 9), .inr (5, [.ref (q 10), .int 9])), ((q 10), .inl (cI, 300, .inl (upd (upd f 8 ((p1 >>> (24 &&& 31)) &&& 255)) 9 ((p1 >>> (16 &&& 31)) &&& 255))))] H := hP
  have hD : va_D A [((q 9), .inr (5, [.ref (q 10), .int 9])), ((q 10), .inl (cI, 300, .inl (upd (upd f 8 ((p1 >>> (24 &&& 31)) &&& 255)) 9 ((p1 >>> (16 &&& 31)) &&& 255))))] := hD
  refine lv_aload_n hx hb dX5_addFour_35 rfl (lv_at hl 1 rfl) ?_
  refine lv_dup hx hb dX5_addFour_36 rfl ?_
  refine va_get (D := G) (ci := 5) (v := .int 9) (C := RX5) (T := TX5) (N := 2) hx hb hts iX5 hown hK hP 0 rfl rfl 1 (by decide) (hts _ m_172) (fun _ h9 => h9) rfl dX5_addFour_37 ?_
  refine lv_iconst (v := 1) hx hb dX5_addFour_40 (by decide) ?_
  refine lv_iadd hx hb dX5_addFour_41 ?_
  refine gw_topi (y := 10) (by decide) ?_
  refine va_put (D := G) (ci := 5) (v := .int 10) (ty := .int) (C := RX5) (T := TX5) (N := 2) hx hb hts iX5 tyX5 tyX5_ok nmX5 hown hK hP hD hS 0 rfl rfl 1 (by decide) (hts _ m_172) (fun _ h9 => h9) rfl (tyX5_ok 1 (by decide)) rfl rfl (Nat.le_of_ble_eq_true rfl) dX5_addFour_42 (fun H locs hP hD hS => ?_)
  have hP : va_P G vwCl [((q 9), .inr (5, [.ref (q 10), .int 10])), ((q 10), .inl (cI, 300, .inl (upd (upd f 8 ((p1 >>> (24 &&& 31)) &&& 255)) 9 ((p1 >>> (16 &&& 31)) &&& 255))))] H := hP
  have hD : va_D A [((q 9), .inr (5, [.ref (q 10), .int 10])), ((q 10), .inl (cI, 300, .inl (upd (upd f 8 ((p1 >>> (24 &&& 31)) &&& 255)) 9 ((p1 >>> (16 &&& 31)) &&& 255))))] := hD
  refine lv_iinc (v := 8) (lv' := [(2, .int 8), (0, .ref (q 9)), (1, .int p1)]) hx hb dX5_addFour_45 hl (k := 0) rfl (by decide) (by decide) rfl (fun ls hl => ?_)
  refine lv_goto (tgt := 3) hx hb dX5_addFour_48 (by decide) ?_
  refine lv_iload_n hx hb dX5_addFour_3 rfl (lv_at hl 0 rfl) ?_
  refine lv_if_lt (tgt := 51) hx hb dX5_addFour_4 (by decide) (fun c => absurd c (by decide)) (fun _ => ?_)
  refine lv_aload_n hx hb dX5_addFour_7 rfl (lv_at hl 1 rfl) ?_
  refine va_get (D := G) (ci := 5) (v := .int 10) (C := RX5) (T := TX5) (N := 2) hx hb hts iX5 hown hK hP 0 rfl rfl 1 (by decide) (hts _ m_172) (fun _ h9 => h9) rfl dX5_addFour_8 ?_
  refine lv_aload_n hx hb dX5_addFour_11 rfl (lv_at hl 1 rfl) ?_
  refine va_get (D := G) (ci := 5) (v := .ref (q 10)) (C := RX5) (T := TX5) (N := 2) hx hb hts iX5 hown hK hP 0 rfl rfl 0 (by decide) (hts _ m_173) (fun _ h9 => h9) rfl dX5_addFour_12 ?_
  refine va_alen (D := G) hx hb hK hP 1 0 rfl rfl (v := 300) rfl dX5_addFour_15 ?_
  refine lv_icmp_ge (tgt := 45) hx hb dX5_addFour_16 (by decide) (fun c => absurd c (by decide)) (fun _ => ?_)
  refine lv_aload_n hx hb dX5_addFour_19 rfl (lv_at hl 1 rfl) ?_
  refine va_get (D := G) (ci := 5) (v := .ref (q 10)) (C := RX5) (T := TX5) (N := 2) hx hb hts iX5 hown hK hP 0 rfl rfl 0 (by decide) (hts _ m_173) (fun _ h9 => h9) rfl dX5_addFour_20 ?_
  refine lv_aload_n hx hb dX5_addFour_23 rfl (lv_at hl 1 rfl) ?_
  refine va_get (D := G) (ci := 5) (v := .int 10) (C := RX5) (T := TX5) (N := 2) hx hb hts iX5 hown hK hP 0 rfl rfl 1 (by decide) (hts _ m_172) (fun _ h9 => h9) rfl dX5_addFour_24 ?_
  refine lv_iload_n hx hb dX5_addFour_27 rfl (lv_at hl 2 rfl) ?_
  refine lv_iload_n hx hb dX5_addFour_28 rfl (lv_at hl 0 rfl) ?_
  refine lv_ishr hx hb dX5_addFour_29 ?_
  refine lv_sipush (v := 255) hx hb dX5_addFour_30 (by decide) ?_
  refine lv_iand hx hb dX5_addFour_33 ?_
  refine gw_iast hx hb hK hP hD hS 1 0 10 rfl rfl rfl (by decide) (by decide) dX5_addFour_34 (fun H locs hP hD hS => ?_)
  have hP : va_P G vwCl [((q 9), .inr (5, [.ref (q 10), .int 10])), ((q 10), .inl (cI, 300, .inl (upd (upd (upd f 8 ((p1 >>> (24 &&& 31)) &&& 255)) 9 ((p1 >>> (16 &&& 31)) &&& 255)) 10 ((p1 >>> (8 &&& 31)) &&& 255))))] H := hP
  have hD : va_D A [((q 9), .inr (5, [.ref (q 10), .int 10])), ((q 10), .inl (cI, 300, .inl (upd (upd (upd f 8 ((p1 >>> (24 &&& 31)) &&& 255)) 9 ((p1 >>> (16 &&& 31)) &&& 255)) 10 ((p1 >>> (8 &&& 31)) &&& 255))))] := hD
  refine lv_aload_n hx hb dX5_addFour_35 rfl (lv_at hl 1 rfl) ?_
  refine lv_dup hx hb dX5_addFour_36 rfl ?_
  refine va_get (D := G) (ci := 5) (v := .int 10) (C := RX5) (T := TX5) (N := 2) hx hb hts iX5 hown hK hP 0 rfl rfl 1 (by decide) (hts _ m_172) (fun _ h9 => h9) rfl dX5_addFour_37 ?_
  refine lv_iconst (v := 1) hx hb dX5_addFour_40 (by decide) ?_
  refine lv_iadd hx hb dX5_addFour_41 ?_
  refine gw_topi (y := 11) (by decide) ?_
  refine va_put (D := G) (ci := 5) (v := .int 11) (ty := .int) (C := RX5) (T := TX5) (N := 2) hx hb hts iX5 tyX5 tyX5_ok nmX5 hown hK hP hD hS 0 rfl rfl 1 (by decide) (hts _ m_172) (fun _ h9 => h9) rfl (tyX5_ok 1 (by decide)) rfl rfl (Nat.le_of_ble_eq_true rfl) dX5_addFour_42 (fun H locs hP hD hS => ?_)
  have hP : va_P G vwCl [((q 9), .inr (5, [.ref (q 10), .int 11])), ((q 10), .inl (cI, 300, .inl (upd (upd (upd f 8 ((p1 >>> (24 &&& 31)) &&& 255)) 9 ((p1 >>> (16 &&& 31)) &&& 255)) 10 ((p1 >>> (8 &&& 31)) &&& 255))))] H := hP
  have hD : va_D A [((q 9), .inr (5, [.ref (q 10), .int 11])), ((q 10), .inl (cI, 300, .inl (upd (upd (upd f 8 ((p1 >>> (24 &&& 31)) &&& 255)) 9 ((p1 >>> (16 &&& 31)) &&& 255)) 10 ((p1 >>> (8 &&& 31)) &&& 255))))] := hD
  refine lv_iinc (v := 0) (lv' := [(2, .int 0), (0, .ref (q 9)), (1, .int p1)]) hx hb dX5_addFour_45 hl (k := 0) rfl (by decide) (by decide) rfl (fun ls hl => ?_)
  refine lv_goto (tgt := 3) hx hb dX5_addFour_48 (by decide) ?_
  refine lv_iload_n hx hb dX5_addFour_3 rfl (lv_at hl 0 rfl) ?_
  refine lv_if_lt (tgt := 51) hx hb dX5_addFour_4 (by decide) (fun c => absurd c (by decide)) (fun _ => ?_)
  refine lv_aload_n hx hb dX5_addFour_7 rfl (lv_at hl 1 rfl) ?_
  refine va_get (D := G) (ci := 5) (v := .int 11) (C := RX5) (T := TX5) (N := 2) hx hb hts iX5 hown hK hP 0 rfl rfl 1 (by decide) (hts _ m_172) (fun _ h9 => h9) rfl dX5_addFour_8 ?_
  refine lv_aload_n hx hb dX5_addFour_11 rfl (lv_at hl 1 rfl) ?_
  refine va_get (D := G) (ci := 5) (v := .ref (q 10)) (C := RX5) (T := TX5) (N := 2) hx hb hts iX5 hown hK hP 0 rfl rfl 0 (by decide) (hts _ m_173) (fun _ h9 => h9) rfl dX5_addFour_12 ?_
  refine va_alen (D := G) hx hb hK hP 1 0 rfl rfl (v := 300) rfl dX5_addFour_15 ?_
  refine lv_icmp_ge (tgt := 45) hx hb dX5_addFour_16 (by decide) (fun c => absurd c (by decide)) (fun _ => ?_)
  refine lv_aload_n hx hb dX5_addFour_19 rfl (lv_at hl 1 rfl) ?_
  refine va_get (D := G) (ci := 5) (v := .ref (q 10)) (C := RX5) (T := TX5) (N := 2) hx hb hts iX5 hown hK hP 0 rfl rfl 0 (by decide) (hts _ m_173) (fun _ h9 => h9) rfl dX5_addFour_20 ?_
  refine lv_aload_n hx hb dX5_addFour_23 rfl (lv_at hl 1 rfl) ?_
  refine va_get (D := G) (ci := 5) (v := .int 11) (C := RX5) (T := TX5) (N := 2) hx hb hts iX5 hown hK hP 0 rfl rfl 1 (by decide) (hts _ m_172) (fun _ h9 => h9) rfl dX5_addFour_24 ?_
  refine lv_iload_n hx hb dX5_addFour_27 rfl (lv_at hl 2 rfl) ?_
  refine lv_iload_n hx hb dX5_addFour_28 rfl (lv_at hl 0 rfl) ?_
  refine lv_ishr hx hb dX5_addFour_29 ?_
  refine lv_sipush (v := 255) hx hb dX5_addFour_30 (by decide) ?_
  refine lv_iand hx hb dX5_addFour_33 ?_
  refine gw_iast hx hb hK hP hD hS 1 0 11 rfl rfl rfl (by decide) (by decide) dX5_addFour_34 (fun H locs hP hD hS => ?_)
  have hP : va_P G vwCl [((q 9), .inr (5, [.ref (q 10), .int 11])), ((q 10), .inl (cI, 300, .inl (upd (upd (upd (upd f 8 ((p1 >>> (24 &&& 31)) &&& 255)) 9 ((p1 >>> (16 &&& 31)) &&& 255)) 10 ((p1 >>> (8 &&& 31)) &&& 255)) 11 ((p1 >>> (0 &&& 31)) &&& 255))))] H := hP
  have hD : va_D A [((q 9), .inr (5, [.ref (q 10), .int 11])), ((q 10), .inl (cI, 300, .inl (upd (upd (upd (upd f 8 ((p1 >>> (24 &&& 31)) &&& 255)) 9 ((p1 >>> (16 &&& 31)) &&& 255)) 10 ((p1 >>> (8 &&& 31)) &&& 255)) 11 ((p1 >>> (0 &&& 31)) &&& 255))))] := hD
  refine lv_aload_n hx hb dX5_addFour_35 rfl (lv_at hl 1 rfl) ?_
  refine lv_dup hx hb dX5_addFour_36 rfl ?_
  refine va_get (D := G) (ci := 5) (v := .int 11) (C := RX5) (T := TX5) (N := 2) hx hb hts iX5 hown hK hP 0 rfl rfl 1 (by decide) (hts _ m_172) (fun _ h9 => h9) rfl dX5_addFour_37 ?_
  refine lv_iconst (v := 1) hx hb dX5_addFour_40 (by decide) ?_
  refine lv_iadd hx hb dX5_addFour_41 ?_
  refine gw_topi (y := 12) (by decide) ?_
  refine va_put (D := G) (ci := 5) (v := .int 12) (ty := .int) (C := RX5) (T := TX5) (N := 2) hx hb hts iX5 tyX5 tyX5_ok nmX5 hown hK hP hD hS 0 rfl rfl 1 (by decide) (hts _ m_172) (fun _ h9 => h9) rfl (tyX5_ok 1 (by decide)) rfl rfl (Nat.le_of_ble_eq_true rfl) dX5_addFour_42 (fun H locs hP hD hS => ?_)
  have hP : va_P G vwCl [((q 9), .inr (5, [.ref (q 10), .int 12])), ((q 10), .inl (cI, 300, .inl (upd (upd (upd (upd f 8 ((p1 >>> (24 &&& 31)) &&& 255)) 9 ((p1 >>> (16 &&& 31)) &&& 255)) 10 ((p1 >>> (8 &&& 31)) &&& 255)) 11 ((p1 >>> (0 &&& 31)) &&& 255))))] H := hP
  have hD : va_D A [((q 9), .inr (5, [.ref (q 10), .int 12])), ((q 10), .inl (cI, 300, .inl (upd (upd (upd (upd f 8 ((p1 >>> (24 &&& 31)) &&& 255)) 9 ((p1 >>> (16 &&& 31)) &&& 255)) 10 ((p1 >>> (8 &&& 31)) &&& 255)) 11 ((p1 >>> (0 &&& 31)) &&& 255))))] := hD
  refine lv_iinc (v := (-8)) (lv' := [(2, .int (-8)), (0, .ref (q 9)), (1, .int p1)]) hx hb dX5_addFour_45 hl (k := 0) rfl (by decide) (by decide) rfl (fun ls hl => ?_)
  refine lv_goto (tgt := 3) hx hb dX5_addFour_48 (by decide) ?_
  refine lv_iload_n hx hb dX5_addFour_3 rfl (lv_at hl 0 rfl) ?_
  refine lv_if_lt (tgt := 51) hx hb dX5_addFour_4 (by decide) (fun _ => ?_) (fun c => absurd (by decide) c)
  exact gw_vret (upd (upd (upd (upd f 8 ((p1 >>> (24 &&& 31)) &&& 255)) 9 ((p1 >>> (16 &&& 31)) &&& 255)) 10 ((p1 >>> (8 &&& 31)) &&& 255)) 11 ((p1 >>> (0 &&& 31)) &&& 255)) hx hb hr hlocks hP hD hS trivial dX5_addFour_51
set_option maxHeartbeats 4000000 in
set_option maxRecDepth 100000 in
theorem c_addFour12 (l : Launch) (G : va_G) (cI cJ cZ cB cT : ClassId) (q : Nat → Nat) (f : Nat → Int32) (p1 : Int32)  : gMv l yX5_addFour (gws yX5_addFour cX5_addFour 3 none) 1 G (gT cI cJ cZ cB cT) [.ref (q 9), .int p1] [((q 9), .inr (5, [.ref (q 10), .int 12])), ((q 10), .inl (cI, 300, .inl f))] (fun (_ : Nat → Int32) => True) (fun (u : Nat → Int32) => ([((q 9), .inr (5, [.ref (q 10), .int 16])), ((q 10), .inl (cI, 300, .inl u))] : va_W)) := by
  intro sz
  refine gM_start (y := yX5_addFour) (av := [.ref (q 9), .int p1]) (ws := [((q 9), .inr (5, [.ref (q 10), .int 12])), ((q 10), .inl (cI, 300, .inl f))]) (Qf := fun A => va_Qv (fun (_ : Nat → Int32) => True) (gB G (fun (u : Nat → Int32) => ([((q 9), .inr (5, [.ref (q 10), .int 16])), ((q 10), .inl (cI, 300, .inl u))] : va_W)) A) A) (cc := cX5_addFour) (maxL := 3) (ret := none) (by decide) (Nat.le_of_ble_eq_true rfl) ?_
  intro p e s m args below meth c A ls H hx hb hr hts hown hin hlocks hml hP hK hD hA hS hl
  have hl : lv_has ls 3 [(0, .ref (q 9)), (1, .int p1)] := hl
  refine lv_bipush (v := 24) hx hb dX5_addFour_0 (by decide) ?_
  refine lv_istore_n (lv' := [(2, .int 24), (0, .ref (q 9)), (1, .int p1)]) hx hb dX5_addFour_2 rfl hl (by decide) rfl (fun ls hl => ?_)
  refine lv_iload_n hx hb dX5_addFour_3 rfl (lv_at hl 0 rfl) ?_
  refine lv_if_lt (tgt := 51) hx hb dX5_addFour_4 (by decide) (fun c => absurd c (by decide)) (fun _ => ?_)
  refine lv_aload_n hx hb dX5_addFour_7 rfl (lv_at hl 1 rfl) ?_
  refine va_get (D := G) (ci := 5) (v := .int 12) (C := RX5) (T := TX5) (N := 2) hx hb hts iX5 hown hK hP 0 rfl rfl 1 (by decide) (hts _ m_172) (fun _ h9 => h9) rfl dX5_addFour_8 ?_
  refine lv_aload_n hx hb dX5_addFour_11 rfl (lv_at hl 1 rfl) ?_
  refine va_get (D := G) (ci := 5) (v := .ref (q 10)) (C := RX5) (T := TX5) (N := 2) hx hb hts iX5 hown hK hP 0 rfl rfl 0 (by decide) (hts _ m_173) (fun _ h9 => h9) rfl dX5_addFour_12 ?_
  refine va_alen (D := G) hx hb hK hP 1 0 rfl rfl (v := 300) rfl dX5_addFour_15 ?_
  refine lv_icmp_ge (tgt := 45) hx hb dX5_addFour_16 (by decide) (fun c => absurd c (by decide)) (fun _ => ?_)
  refine lv_aload_n hx hb dX5_addFour_19 rfl (lv_at hl 1 rfl) ?_
  refine va_get (D := G) (ci := 5) (v := .ref (q 10)) (C := RX5) (T := TX5) (N := 2) hx hb hts iX5 hown hK hP 0 rfl rfl 0 (by decide) (hts _ m_173) (fun _ h9 => h9) rfl dX5_addFour_20 ?_
  refine lv_aload_n hx hb dX5_addFour_23 rfl (lv_at hl 1 rfl) ?_
  refine va_get (D := G) (ci := 5) (v := .int 12) (C := RX5) (T := TX5) (N := 2) hx hb hts iX5 hown hK hP 0 rfl rfl 1 (by decide) (hts _ m_172) (fun _ h9 => h9) rfl dX5_addFour_24 ?_
  refine lv_iload_n hx hb dX5_addFour_27 rfl (lv_at hl 2 rfl) ?_
  refine lv_iload_n hx hb dX5_addFour_28 rfl (lv_at hl 0 rfl) ?_
  refine lv_ishr hx hb dX5_addFour_29 ?_
  refine lv_sipush (v := 255) hx hb dX5_addFour_30 (by decide) ?_
  refine lv_iand hx hb dX5_addFour_33 ?_
  refine gw_iast hx hb hK hP hD hS 1 0 12 rfl rfl rfl (by decide) (by decide) dX5_addFour_34 (fun H locs hP hD hS => ?_)
  have hP : va_P G vwCl [((q 9), .inr (5, [.ref (q 10), .int 12])), ((q 10), .inl (cI, 300, .inl (upd f 12 ((p1 >>> (24 &&& 31)) &&& 255))))] H := hP
  have hD : va_D A [((q 9), .inr (5, [.ref (q 10), .int 12])), ((q 10), .inl (cI, 300, .inl (upd f 12 ((p1 >>> (24 &&& 31)) &&& 255))))] := hD
  refine lv_aload_n hx hb dX5_addFour_35 rfl (lv_at hl 1 rfl) ?_
  refine lv_dup hx hb dX5_addFour_36 rfl ?_
  refine va_get (D := G) (ci := 5) (v := .int 12) (C := RX5) (T := TX5) (N := 2) hx hb hts iX5 hown hK hP 0 rfl rfl 1 (by decide) (hts _ m_172) (fun _ h9 => h9) rfl dX5_addFour_37 ?_
  refine lv_iconst (v := 1) hx hb dX5_addFour_40 (by decide) ?_
  refine lv_iadd hx hb dX5_addFour_41 ?_
  refine gw_topi (y := 13) (by decide) ?_
  refine va_put (D := G) (ci := 5) (v := .int 13) (ty := .int) (C := RX5) (T := TX5) (N := 2) hx hb hts iX5 tyX5 tyX5_ok nmX5 hown hK hP hD hS 0 rfl rfl 1 (by decide) (hts _ m_172) (fun _ h9 => h9) rfl (tyX5_ok 1 (by decide)) rfl rfl (Nat.le_of_ble_eq_true rfl) dX5_addFour_42 (fun H locs hP hD hS => ?_)
  have hP : va_P G vwCl [((q 9), .inr (5, [.ref (q 10), .int 13])), ((q 10), .inl (cI, 300, .inl (upd f 12 ((p1 >>> (24 &&& 31)) &&& 255))))] H := hP
  have hD : va_D A [((q 9), .inr (5, [.ref (q 10), .int 13])), ((q 10), .inl (cI, 300, .inl (upd f 12 ((p1 >>> (24 &&& 31)) &&& 255))))] := hD
  refine lv_iinc (v := 16) (lv' := [(2, .int 16), (0, .ref (q 9)), (1, .int p1)]) hx hb dX5_addFour_45 hl (k := 0) rfl (by decide) (by decide) rfl (fun ls hl => ?_)
  refine lv_goto (tgt := 3) hx hb dX5_addFour_48 (by decide) ?_
  refine lv_iload_n hx hb dX5_addFour_3 rfl (lv_at hl 0 rfl) ?_
  refine lv_if_lt (tgt := 51) hx hb dX5_addFour_4 (by decide) (fun c => absurd c (by decide)) (fun _ => ?_)
  refine lv_aload_n hx hb dX5_addFour_7 rfl (lv_at hl 1 rfl) ?_
  refine va_get (D := G) (ci := 5) (v := .int 13) (C := RX5) (T := TX5) (N := 2) hx hb hts iX5 hown hK hP 0 rfl rfl 1 (by decide) (hts _ m_172) (fun _ h9 => h9) rfl dX5_addFour_8 ?_
  refine lv_aload_n hx hb dX5_addFour_11 rfl (lv_at hl 1 rfl) ?_
  refine va_get (D := G) (ci := 5) (v := .ref (q 10)) (C := RX5) (T := TX5) (N := 2) hx hb hts iX5 hown hK hP 0 rfl rfl 0 (by decide) (hts _ m_173) (fun _ h9 => h9) rfl dX5_addFour_12 ?_
  refine va_alen (D := G) hx hb hK hP 1 0 rfl rfl (v := 300) rfl dX5_addFour_15 ?_
  refine lv_icmp_ge (tgt := 45) hx hb dX5_addFour_16 (by decide) (fun c => absurd c (by decide)) (fun _ => ?_)
  refine lv_aload_n hx hb dX5_addFour_19 rfl (lv_at hl 1 rfl) ?_
  refine va_get (D := G) (ci := 5) (v := .ref (q 10)) (C := RX5) (T := TX5) (N := 2) hx hb hts iX5 hown hK hP 0 rfl rfl 0 (by decide) (hts _ m_173) (fun _ h9 => h9) rfl dX5_addFour_20 ?_
  refine lv_aload_n hx hb dX5_addFour_23 rfl (lv_at hl 1 rfl) ?_
  refine va_get (D := G) (ci := 5) (v := .int 13) (C := RX5) (T := TX5) (N := 2) hx hb hts iX5 hown hK hP 0 rfl rfl 1 (by decide) (hts _ m_172) (fun _ h9 => h9) rfl dX5_addFour_24 ?_
  refine lv_iload_n hx hb dX5_addFour_27 rfl (lv_at hl 2 rfl) ?_
  refine lv_iload_n hx hb dX5_addFour_28 rfl (lv_at hl 0 rfl) ?_
  refine lv_ishr hx hb dX5_addFour_29 ?_
  refine lv_sipush (v := 255) hx hb dX5_addFour_30 (by decide) ?_
  refine lv_iand hx hb dX5_addFour_33 ?_
  refine gw_iast hx hb hK hP hD hS 1 0 13 rfl rfl rfl (by decide) (by decide) dX5_addFour_34 (fun H locs hP hD hS => ?_)
  have hP : va_P G vwCl [((q 9), .inr (5, [.ref (q 10), .int 13])), ((q 10), .inl (cI, 300, .inl (upd (upd f 12 ((p1 >>> (24 &&& 31)) &&& 255)) 13 ((p1 >>> (16 &&& 31)) &&& 255))))] H := hP
  have hD : va_D A [((q 9), .inr (5, [.ref (q 10), .int 13])), ((q 10), .inl (cI, 300, .inl (upd (upd f 12 ((p1 >>> (24 &&& 31)) &&& 255)) 13 ((p1 >>> (16 &&& 31)) &&& 255))))] := hD
  refine lv_aload_n hx hb dX5_addFour_35 rfl (lv_at hl 1 rfl) ?_
  refine lv_dup hx hb dX5_addFour_36 rfl ?_
  refine va_get (D := G) (ci := 5) (v := .int 13) (C := RX5) (T := TX5) (N := 2) hx hb hts iX5 hown hK hP 0 rfl rfl 1 (by decide) (hts _ m_172) (fun _ h9 => h9) rfl dX5_addFour_37 ?_
  refine lv_iconst (v := 1) hx hb dX5_addFour_40 (by decide) ?_
  refine lv_iadd hx hb dX5_addFour_41 ?_
  refine gw_topi (y := 14) (by decide) ?_
  refine va_put (D := G) (ci := 5) (v := .int 14) (ty := .int) (C := RX5) (T := TX5) (N := 2) hx hb hts iX5 tyX5 tyX5_ok nmX5 hown hK hP hD hS 0 rfl rfl 1 (by decide) (hts _ m_172) (fun _ h9 => h9) rfl (tyX5_ok 1 (by decide)) rfl rfl (Nat.le_of_ble_eq_true rfl) dX5_addFour_42 (fun H locs hP hD hS => ?_)
  have hP : va_P G vwCl [((q 9), .inr (5, [.ref (q 10), .int 14])), ((q 10), .inl (cI, 300, .inl (upd (upd f 12 ((p1 >>> (24 &&& 31)) &&& 255)) 13 ((p1 >>> (16 &&& 31)) &&& 255))))] H := hP
  have hD : va_D A [((q 9), .inr (5, [.ref (q 10), .int 14])), ((q 10), .inl (cI, 300, .inl (upd (upd f 12 ((p1 >>> (24 &&& 31)) &&& 255)) 13 ((p1 >>> (16 &&& 31)) &&& 255))))] := hD
  refine lv_iinc (v := 8) (lv' := [(2, .int 8), (0, .ref (q 9)), (1, .int p1)]) hx hb dX5_addFour_45 hl (k := 0) rfl (by decide) (by decide) rfl (fun ls hl => ?_)
  refine lv_goto (tgt := 3) hx hb dX5_addFour_48 (by decide) ?_
  refine lv_iload_n hx hb dX5_addFour_3 rfl (lv_at hl 0 rfl) ?_
  refine lv_if_lt (tgt := 51) hx hb dX5_addFour_4 (by decide) (fun c => absurd c (by decide)) (fun _ => ?_)
  refine lv_aload_n hx hb dX5_addFour_7 rfl (lv_at hl 1 rfl) ?_
  refine va_get (D := G) (ci := 5) (v := .int 14) (C := RX5) (T := TX5) (N := 2) hx hb hts iX5 hown hK hP 0 rfl rfl 1 (by decide) (hts _ m_172) (fun _ h9 => h9) rfl dX5_addFour_8 ?_
  refine lv_aload_n hx hb dX5_addFour_11 rfl (lv_at hl 1 rfl) ?_
  refine va_get (D := G) (ci := 5) (v := .ref (q 10)) (C := RX5) (T := TX5) (N := 2) hx hb hts iX5 hown hK hP 0 rfl rfl 0 (by decide) (hts _ m_173) (fun _ h9 => h9) rfl dX5_addFour_12 ?_
  refine va_alen (D := G) hx hb hK hP 1 0 rfl rfl (v := 300) rfl dX5_addFour_15 ?_
  refine lv_icmp_ge (tgt := 45) hx hb dX5_addFour_16 (by decide) (fun c => absurd c (by decide)) (fun _ => ?_)
  refine lv_aload_n hx hb dX5_addFour_19 rfl (lv_at hl 1 rfl) ?_
  refine va_get (D := G) (ci := 5) (v := .ref (q 10)) (C := RX5) (T := TX5) (N := 2) hx hb hts iX5 hown hK hP 0 rfl rfl 0 (by decide) (hts _ m_173) (fun _ h9 => h9) rfl dX5_addFour_20 ?_
  refine lv_aload_n hx hb dX5_addFour_23 rfl (lv_at hl 1 rfl) ?_
  refine va_get (D := G) (ci := 5) (v := .int 14) (C := RX5) (T := TX5) (N := 2) hx hb hts iX5 hown hK hP 0 rfl rfl 1 (by decide) (hts _ m_172) (fun _ h9 => h9) rfl dX5_addFour_24 ?_
  refine lv_iload_n hx hb dX5_addFour_27 rfl (lv_at hl 2 rfl) ?_
  refine lv_iload_n hx hb dX5_addFour_28 rfl (lv_at hl 0 rfl) ?_
  refine lv_ishr hx hb dX5_addFour_29 ?_
  refine lv_sipush (v := 255) hx hb dX5_addFour_30 (by decide) ?_
  refine lv_iand hx hb dX5_addFour_33 ?_
  refine gw_iast hx hb hK hP hD hS 1 0 14 rfl rfl rfl (by decide) (by decide) dX5_addFour_34 (fun H locs hP hD hS => ?_)
  have hP : va_P G vwCl [((q 9), .inr (5, [.ref (q 10), .int 14])), ((q 10), .inl (cI, 300, .inl (upd (upd (upd f 12 ((p1 >>> (24 &&& 31)) &&& 255)) 13 ((p1 >>> (16 &&& 31)) &&& 255)) 14 ((p1 >>> (8 &&& 31)) &&& 255))))] H := hP
  have hD : va_D A [((q 9), .inr (5, [.ref (q 10), .int 14])), ((q 10), .inl (cI, 300, .inl (upd (upd (upd f 12 ((p1 >>> (24 &&& 31)) &&& 255)) 13 ((p1 >>> (16 &&& 31)) &&& 255)) 14 ((p1 >>> (8 &&& 31)) &&& 255))))] := hD
  refine lv_aload_n hx hb dX5_addFour_35 rfl (lv_at hl 1 rfl) ?_
  refine lv_dup hx hb dX5_addFour_36 rfl ?_
  refine va_get (D := G) (ci := 5) (v := .int 14) (C := RX5) (T := TX5) (N := 2) hx hb hts iX5 hown hK hP 0 rfl rfl 1 (by decide) (hts _ m_172) (fun _ h9 => h9) rfl dX5_addFour_37 ?_
  refine lv_iconst (v := 1) hx hb dX5_addFour_40 (by decide) ?_
  refine lv_iadd hx hb dX5_addFour_41 ?_
  refine gw_topi (y := 15) (by decide) ?_
  refine va_put (D := G) (ci := 5) (v := .int 15) (ty := .int) (C := RX5) (T := TX5) (N := 2) hx hb hts iX5 tyX5 tyX5_ok nmX5 hown hK hP hD hS 0 rfl rfl 1 (by decide) (hts _ m_172) (fun _ h9 => h9) rfl (tyX5_ok 1 (by decide)) rfl rfl (Nat.le_of_ble_eq_true rfl) dX5_addFour_42 (fun H locs hP hD hS => ?_)
  have hP : va_P G vwCl [((q 9), .inr (5, [.ref (q 10), .int 15])), ((q 10), .inl (cI, 300, .inl (upd (upd (upd f 12 ((p1 >>> (24 &&& 31)) &&& 255)) 13 ((p1 >>> (16 &&& 31)) &&& 255)) 14 ((p1 >>> (8 &&& 31)) &&& 255))))] H := hP
  have hD : va_D A [((q 9), .inr (5, [.ref (q 10), .int 15])), ((q 10), .inl (cI, 300, .inl (upd (upd (upd f 12 ((p1 >>> (24 &&& 31)) &&& 255)) 13 ((p1 >>> (16 &&& 31)) &&& 255)) 14 ((p1 >>> (8 &&& 31)) &&& 255))))] := hD
  refine lv_iinc (v := 0) (lv' := [(2, .int 0), (0, .ref (q 9)), (1, .int p1)]) hx hb dX5_addFour_45 hl (k := 0) rfl (by decide) (by decide) rfl (fun ls hl => ?_)
  refine lv_goto (tgt := 3) hx hb dX5_addFour_48 (by decide) ?_
  refine lv_iload_n hx hb dX5_addFour_3 rfl (lv_at hl 0 rfl) ?_
  refine lv_if_lt (tgt := 51) hx hb dX5_addFour_4 (by decide) (fun c => absurd c (by decide)) (fun _ => ?_)
  refine lv_aload_n hx hb dX5_addFour_7 rfl (lv_at hl 1 rfl) ?_
  refine va_get (D := G) (ci := 5) (v := .int 15) (C := RX5) (T := TX5) (N := 2) hx hb hts iX5 hown hK hP 0 rfl rfl 1 (by decide) (hts _ m_172) (fun _ h9 => h9) rfl dX5_addFour_8 ?_
  refine lv_aload_n hx hb dX5_addFour_11 rfl (lv_at hl 1 rfl) ?_
  refine va_get (D := G) (ci := 5) (v := .ref (q 10)) (C := RX5) (T := TX5) (N := 2) hx hb hts iX5 hown hK hP 0 rfl rfl 0 (by decide) (hts _ m_173) (fun _ h9 => h9) rfl dX5_addFour_12 ?_
  refine va_alen (D := G) hx hb hK hP 1 0 rfl rfl (v := 300) rfl dX5_addFour_15 ?_
  refine lv_icmp_ge (tgt := 45) hx hb dX5_addFour_16 (by decide) (fun c => absurd c (by decide)) (fun _ => ?_)
  refine lv_aload_n hx hb dX5_addFour_19 rfl (lv_at hl 1 rfl) ?_
  refine va_get (D := G) (ci := 5) (v := .ref (q 10)) (C := RX5) (T := TX5) (N := 2) hx hb hts iX5 hown hK hP 0 rfl rfl 0 (by decide) (hts _ m_173) (fun _ h9 => h9) rfl dX5_addFour_20 ?_
  refine lv_aload_n hx hb dX5_addFour_23 rfl (lv_at hl 1 rfl) ?_
  refine va_get (D := G) (ci := 5) (v := .int 15) (C := RX5) (T := TX5) (N := 2) hx hb hts iX5 hown hK hP 0 rfl rfl 1 (by decide) (hts _ m_172) (fun _ h9 => h9) rfl dX5_addFour_24 ?_
  refine lv_iload_n hx hb dX5_addFour_27 rfl (lv_at hl 2 rfl) ?_
  refine lv_iload_n hx hb dX5_addFour_28 rfl (lv_at hl 0 rfl) ?_
  refine lv_ishr hx hb dX5_addFour_29 ?_
  refine lv_sipush (v := 255) hx hb dX5_addFour_30 (by decide) ?_
  refine lv_iand hx hb dX5_addFour_33 ?_
  refine gw_iast hx hb hK hP hD hS 1 0 15 rfl rfl rfl (by decide) (by decide) dX5_addFour_34 (fun H locs hP hD hS => ?_)
  have hP : va_P G vwCl [((q 9), .inr (5, [.ref (q 10), .int 15])), ((q 10), .inl (cI, 300, .inl (upd (upd (upd (upd f 12 ((p1 >>> (24 &&& 31)) &&& 255)) 13 ((p1 >>> (16 &&& 31)) &&& 255)) 14 ((p1 >>> (8 &&& 31)) &&& 255)) 15 ((p1 >>> (0 &&& 31)) &&& 255))))] H := hP
  have hD : va_D A [((q 9), .inr (5, [.ref (q 10), .int 15])), ((q 10), .inl (cI, 300, .inl (upd (upd (upd (upd f 12 ((p1 >>> (24 &&& 31)) &&& 255)) 13 ((p1 >>> (16 &&& 31)) &&& 255)) 14 ((p1 >>> (8 &&& 31)) &&& 255)) 15 ((p1 >>> (0 &&& 31)) &&& 255))))] := hD
  refine lv_aload_n hx hb dX5_addFour_35 rfl (lv_at hl 1 rfl) ?_
  refine lv_dup hx hb dX5_addFour_36 rfl ?_
  refine va_get (D := G) (ci := 5) (v := .int 15) (C := RX5) (T := TX5) (N := 2) hx hb hts iX5 hown hK hP 0 rfl rfl 1 (by decide) (hts _ m_172) (fun _ h9 => h9) rfl dX5_addFour_37 ?_
  refine lv_iconst (v := 1) hx hb dX5_addFour_40 (by decide) ?_
  refine lv_iadd hx hb dX5_addFour_41 ?_
  refine gw_topi (y := 16) (by decide) ?_
  refine va_put (D := G) (ci := 5) (v := .int 16) (ty := .int) (C := RX5) (T := TX5) (N := 2) hx hb hts iX5 tyX5 tyX5_ok nmX5 hown hK hP hD hS 0 rfl rfl 1 (by decide) (hts _ m_172) (fun _ h9 => h9) rfl (tyX5_ok 1 (by decide)) rfl rfl (Nat.le_of_ble_eq_true rfl) dX5_addFour_42 (fun H locs hP hD hS => ?_)
  have hP : va_P G vwCl [((q 9), .inr (5, [.ref (q 10), .int 16])), ((q 10), .inl (cI, 300, .inl (upd (upd (upd (upd f 12 ((p1 >>> (24 &&& 31)) &&& 255)) 13 ((p1 >>> (16 &&& 31)) &&& 255)) 14 ((p1 >>> (8 &&& 31)) &&& 255)) 15 ((p1 >>> (0 &&& 31)) &&& 255))))] H := hP
  have hD : va_D A [((q 9), .inr (5, [.ref (q 10), .int 16])), ((q 10), .inl (cI, 300, .inl (upd (upd (upd (upd f 12 ((p1 >>> (24 &&& 31)) &&& 255)) 13 ((p1 >>> (16 &&& 31)) &&& 255)) 14 ((p1 >>> (8 &&& 31)) &&& 255)) 15 ((p1 >>> (0 &&& 31)) &&& 255))))] := hD
  refine lv_iinc (v := (-8)) (lv' := [(2, .int (-8)), (0, .ref (q 9)), (1, .int p1)]) hx hb dX5_addFour_45 hl (k := 0) rfl (by decide) (by decide) rfl (fun ls hl => ?_)
  refine lv_goto (tgt := 3) hx hb dX5_addFour_48 (by decide) ?_
  refine lv_iload_n hx hb dX5_addFour_3 rfl (lv_at hl 0 rfl) ?_
  refine lv_if_lt (tgt := 51) hx hb dX5_addFour_4 (by decide) (fun _ => ?_) (fun c => absurd (by decide) c)
  exact gw_vret (upd (upd (upd (upd f 12 ((p1 >>> (24 &&& 31)) &&& 255)) 13 ((p1 >>> (16 &&& 31)) &&& 255)) 14 ((p1 >>> (8 &&& 31)) &&& 255)) 15 ((p1 >>> (0 &&& 31)) &&& 255)) hx hb hr hlocks hP hD hS trivial dX5_addFour_51
set_option maxHeartbeats 4000000 in
set_option maxRecDepth 100000 in
theorem c_addFour16 (l : Launch) (G : va_G) (cI cJ cZ cB cT : ClassId) (q : Nat → Nat) (f : Nat → Int32) (p1 : Int32)  : gMv l yX5_addFour (gws yX5_addFour cX5_addFour 3 none) 1 G (gT cI cJ cZ cB cT) [.ref (q 9), .int p1] [((q 9), .inr (5, [.ref (q 10), .int 16])), ((q 10), .inl (cI, 300, .inl f))] (fun (_ : Nat → Int32) => True) (fun (u : Nat → Int32) => ([((q 9), .inr (5, [.ref (q 10), .int 20])), ((q 10), .inl (cI, 300, .inl u))] : va_W)) := by
  intro sz
  refine gM_start (y := yX5_addFour) (av := [.ref (q 9), .int p1]) (ws := [((q 9), .inr (5, [.ref (q 10), .int 16])), ((q 10), .inl (cI, 300, .inl f))]) (Qf := fun A => va_Qv (fun (_ : Nat → Int32) => True) (gB G (fun (u : Nat → Int32) => ([((q 9), .inr (5, [.ref (q 10), .int 20])), ((q 10), .inl (cI, 300, .inl u))] : va_W)) A) A) (cc := cX5_addFour) (maxL := 3) (ret := none) (by decide) (Nat.le_of_ble_eq_true rfl) ?_
  intro p e s m args below meth c A ls H hx hb hr hts hown hin hlocks hml hP hK hD hA hS hl
  have hl : lv_has ls 3 [(0, .ref (q 9)), (1, .int p1)] := hl
  refine lv_bipush (v := 24) hx hb dX5_addFour_0 (by decide) ?_
  refine lv_istore_n (lv' := [(2, .int 24), (0, .ref (q 9)), (1, .int p1)]) hx hb dX5_addFour_2 rfl hl (by decide) rfl (fun ls hl => ?_)
  refine lv_iload_n hx hb dX5_addFour_3 rfl (lv_at hl 0 rfl) ?_
  refine lv_if_lt (tgt := 51) hx hb dX5_addFour_4 (by decide) (fun c => absurd c (by decide)) (fun _ => ?_)
  refine lv_aload_n hx hb dX5_addFour_7 rfl (lv_at hl 1 rfl) ?_
  refine va_get (D := G) (ci := 5) (v := .int 16) (C := RX5) (T := TX5) (N := 2) hx hb hts iX5 hown hK hP 0 rfl rfl 1 (by decide) (hts _ m_172) (fun _ h9 => h9) rfl dX5_addFour_8 ?_
  refine lv_aload_n hx hb dX5_addFour_11 rfl (lv_at hl 1 rfl) ?_
  refine va_get (D := G) (ci := 5) (v := .ref (q 10)) (C := RX5) (T := TX5) (N := 2) hx hb hts iX5 hown hK hP 0 rfl rfl 0 (by decide) (hts _ m_173) (fun _ h9 => h9) rfl dX5_addFour_12 ?_
  refine va_alen (D := G) hx hb hK hP 1 0 rfl rfl (v := 300) rfl dX5_addFour_15 ?_
  refine lv_icmp_ge (tgt := 45) hx hb dX5_addFour_16 (by decide) (fun c => absurd c (by decide)) (fun _ => ?_)
  refine lv_aload_n hx hb dX5_addFour_19 rfl (lv_at hl 1 rfl) ?_
  refine va_get (D := G) (ci := 5) (v := .ref (q 10)) (C := RX5) (T := TX5) (N := 2) hx hb hts iX5 hown hK hP 0 rfl rfl 0 (by decide) (hts _ m_173) (fun _ h9 => h9) rfl dX5_addFour_20 ?_
  refine lv_aload_n hx hb dX5_addFour_23 rfl (lv_at hl 1 rfl) ?_
  refine va_get (D := G) (ci := 5) (v := .int 16) (C := RX5) (T := TX5) (N := 2) hx hb hts iX5 hown hK hP 0 rfl rfl 1 (by decide) (hts _ m_172) (fun _ h9 => h9) rfl dX5_addFour_24 ?_
  refine lv_iload_n hx hb dX5_addFour_27 rfl (lv_at hl 2 rfl) ?_
  refine lv_iload_n hx hb dX5_addFour_28 rfl (lv_at hl 0 rfl) ?_
  refine lv_ishr hx hb dX5_addFour_29 ?_
  refine lv_sipush (v := 255) hx hb dX5_addFour_30 (by decide) ?_
  refine lv_iand hx hb dX5_addFour_33 ?_
  refine gw_iast hx hb hK hP hD hS 1 0 16 rfl rfl rfl (by decide) (by decide) dX5_addFour_34 (fun H locs hP hD hS => ?_)
  have hP : va_P G vwCl [((q 9), .inr (5, [.ref (q 10), .int 16])), ((q 10), .inl (cI, 300, .inl (upd f 16 ((p1 >>> (24 &&& 31)) &&& 255))))] H := hP
  have hD : va_D A [((q 9), .inr (5, [.ref (q 10), .int 16])), ((q 10), .inl (cI, 300, .inl (upd f 16 ((p1 >>> (24 &&& 31)) &&& 255))))] := hD
  refine lv_aload_n hx hb dX5_addFour_35 rfl (lv_at hl 1 rfl) ?_
  refine lv_dup hx hb dX5_addFour_36 rfl ?_
  refine va_get (D := G) (ci := 5) (v := .int 16) (C := RX5) (T := TX5) (N := 2) hx hb hts iX5 hown hK hP 0 rfl rfl 1 (by decide) (hts _ m_172) (fun _ h9 => h9) rfl dX5_addFour_37 ?_
  refine lv_iconst (v := 1) hx hb dX5_addFour_40 (by decide) ?_
  refine lv_iadd hx hb dX5_addFour_41 ?_
  refine gw_topi (y := 17) (by decide) ?_
  refine va_put (D := G) (ci := 5) (v := .int 17) (ty := .int) (C := RX5) (T := TX5) (N := 2) hx hb hts iX5 tyX5 tyX5_ok nmX5 hown hK hP hD hS 0 rfl rfl 1 (by decide) (hts _ m_172) (fun _ h9 => h9) rfl (tyX5_ok 1 (by decide)) rfl rfl (Nat.le_of_ble_eq_true rfl) dX5_addFour_42 (fun H locs hP hD hS => ?_)
  have hP : va_P G vwCl [((q 9), .inr (5, [.ref (q 10), .int 17])), ((q 10), .inl (cI, 300, .inl (upd f 16 ((p1 >>> (24 &&& 31)) &&& 255))))] H := hP
  have hD : va_D A [((q 9), .inr (5, [.ref (q 10), .int 17])), ((q 10), .inl (cI, 300, .inl (upd f 16 ((p1 >>> (24 &&& 31)) &&& 255))))] := hD
  refine lv_iinc (v := 16) (lv' := [(2, .int 16), (0, .ref (q 9)), (1, .int p1)]) hx hb dX5_addFour_45 hl (k := 0) rfl (by decide) (by decide) rfl (fun ls hl => ?_)
  refine lv_goto (tgt := 3) hx hb dX5_addFour_48 (by decide) ?_
  refine lv_iload_n hx hb dX5_addFour_3 rfl (lv_at hl 0 rfl) ?_
  refine lv_if_lt (tgt := 51) hx hb dX5_addFour_4 (by decide) (fun c => absurd c (by decide)) (fun _ => ?_)
  refine lv_aload_n hx hb dX5_addFour_7 rfl (lv_at hl 1 rfl) ?_
  refine va_get (D := G) (ci := 5) (v := .int 17) (C := RX5) (T := TX5) (N := 2) hx hb hts iX5 hown hK hP 0 rfl rfl 1 (by decide) (hts _ m_172) (fun _ h9 => h9) rfl dX5_addFour_8 ?_
  refine lv_aload_n hx hb dX5_addFour_11 rfl (lv_at hl 1 rfl) ?_
  refine va_get (D := G) (ci := 5) (v := .ref (q 10)) (C := RX5) (T := TX5) (N := 2) hx hb hts iX5 hown hK hP 0 rfl rfl 0 (by decide) (hts _ m_173) (fun _ h9 => h9) rfl dX5_addFour_12 ?_
  refine va_alen (D := G) hx hb hK hP 1 0 rfl rfl (v := 300) rfl dX5_addFour_15 ?_
  refine lv_icmp_ge (tgt := 45) hx hb dX5_addFour_16 (by decide) (fun c => absurd c (by decide)) (fun _ => ?_)
  refine lv_aload_n hx hb dX5_addFour_19 rfl (lv_at hl 1 rfl) ?_
  refine va_get (D := G) (ci := 5) (v := .ref (q 10)) (C := RX5) (T := TX5) (N := 2) hx hb hts iX5 hown hK hP 0 rfl rfl 0 (by decide) (hts _ m_173) (fun _ h9 => h9) rfl dX5_addFour_20 ?_
  refine lv_aload_n hx hb dX5_addFour_23 rfl (lv_at hl 1 rfl) ?_
  refine va_get (D := G) (ci := 5) (v := .int 17) (C := RX5) (T := TX5) (N := 2) hx hb hts iX5 hown hK hP 0 rfl rfl 1 (by decide) (hts _ m_172) (fun _ h9 => h9) rfl dX5_addFour_24 ?_
  refine lv_iload_n hx hb dX5_addFour_27 rfl (lv_at hl 2 rfl) ?_
  refine lv_iload_n hx hb dX5_addFour_28 rfl (lv_at hl 0 rfl) ?_
  refine lv_ishr hx hb dX5_addFour_29 ?_
  refine lv_sipush (v := 255) hx hb dX5_addFour_30 (by decide) ?_
  refine lv_iand hx hb dX5_addFour_33 ?_
  refine gw_iast hx hb hK hP hD hS 1 0 17 rfl rfl rfl (by decide) (by decide) dX5_addFour_34 (fun H locs hP hD hS => ?_)
  have hP : va_P G vwCl [((q 9), .inr (5, [.ref (q 10), .int 17])), ((q 10), .inl (cI, 300, .inl (upd (upd f 16 ((p1 >>> (24 &&& 31)) &&& 255)) 17 ((p1 >>> (16 &&& 31)) &&& 255))))] H := hP
  have hD : va_D A [((q 9), .inr (5, [.ref (q 10), .int 17])), ((q 10), .inl (cI, 300, .inl (upd (upd f 16 ((p1 >>> (24 &&& 31)) &&& 255)) 17 ((p1 >>> (16 &&& 31)) &&& 255))))] := hD
  refine lv_aload_n hx hb dX5_addFour_35 rfl (lv_at hl 1 rfl) ?_
  refine lv_dup hx hb dX5_addFour_36 rfl ?_
  refine va_get (D := G) (ci := 5) (v := .int 17) (C := RX5) (T := TX5) (N := 2) hx hb hts iX5 hown hK hP 0 rfl rfl 1 (by decide) (hts _ m_172) (fun _ h9 => h9) rfl dX5_addFour_37 ?_
  refine lv_iconst (v := 1) hx hb dX5_addFour_40 (by decide) ?_
  refine lv_iadd hx hb dX5_addFour_41 ?_
  refine gw_topi (y := 18) (by decide) ?_
  refine va_put (D := G) (ci := 5) (v := .int 18) (ty := .int) (C := RX5) (T := TX5) (N := 2) hx hb hts iX5 tyX5 tyX5_ok nmX5 hown hK hP hD hS 0 rfl rfl 1 (by decide) (hts _ m_172) (fun _ h9 => h9) rfl (tyX5_ok 1 (by decide)) rfl rfl (Nat.le_of_ble_eq_true rfl) dX5_addFour_42 (fun H locs hP hD hS => ?_)
  have hP : va_P G vwCl [((q 9), .inr (5, [.ref (q 10), .int 18])), ((q 10), .inl (cI, 300, .inl (upd (upd f 16 ((p1 >>> (24 &&& 31)) &&& 255)) 17 ((p1 >>> (16 &&& 31)) &&& 255))))] H := hP
  have hD : va_D A [((q 9), .inr (5, [.ref (q 10), .int 18])), ((q 10), .inl (cI, 300, .inl (upd (upd f 16 ((p1 >>> (24 &&& 31)) &&& 255)) 17 ((p1 >>> (16 &&& 31)) &&& 255))))] := hD
  refine lv_iinc (v := 8) (lv' := [(2, .int 8), (0, .ref (q 9)), (1, .int p1)]) hx hb dX5_addFour_45 hl (k := 0) rfl (by decide) (by decide) rfl (fun ls hl => ?_)
  refine lv_goto (tgt := 3) hx hb dX5_addFour_48 (by decide) ?_
  refine lv_iload_n hx hb dX5_addFour_3 rfl (lv_at hl 0 rfl) ?_
  refine lv_if_lt (tgt := 51) hx hb dX5_addFour_4 (by decide) (fun c => absurd c (by decide)) (fun _ => ?_)
  refine lv_aload_n hx hb dX5_addFour_7 rfl (lv_at hl 1 rfl) ?_
  refine va_get (D := G) (ci := 5) (v := .int 18) (C := RX5) (T := TX5) (N := 2) hx hb hts iX5 hown hK hP 0 rfl rfl 1 (by decide) (hts _ m_172) (fun _ h9 => h9) rfl dX5_addFour_8 ?_
  refine lv_aload_n hx hb dX5_addFour_11 rfl (lv_at hl 1 rfl) ?_
  refine va_get (D := G) (ci := 5) (v := .ref (q 10)) (C := RX5) (T := TX5) (N := 2) hx hb hts iX5 hown hK hP 0 rfl rfl 0 (by decide) (hts _ m_173) (fun _ h9 => h9) rfl dX5_addFour_12 ?_
  refine va_alen (D := G) hx hb hK hP 1 0 rfl rfl (v := 300) rfl dX5_addFour_15 ?_
  refine lv_icmp_ge (tgt := 45) hx hb dX5_addFour_16 (by decide) (fun c => absurd c (by decide)) (fun _ => ?_)
  refine lv_aload_n hx hb dX5_addFour_19 rfl (lv_at hl 1 rfl) ?_
  refine va_get (D := G) (ci := 5) (v := .ref (q 10)) (C := RX5) (T := TX5) (N := 2) hx hb hts iX5 hown hK hP 0 rfl rfl 0 (by decide) (hts _ m_173) (fun _ h9 => h9) rfl dX5_addFour_20 ?_
  refine lv_aload_n hx hb dX5_addFour_23 rfl (lv_at hl 1 rfl) ?_
  refine va_get (D := G) (ci := 5) (v := .int 18) (C := RX5) (T := TX5) (N := 2) hx hb hts iX5 hown hK hP 0 rfl rfl 1 (by decide) (hts _ m_172) (fun _ h9 => h9) rfl dX5_addFour_24 ?_
  refine lv_iload_n hx hb dX5_addFour_27 rfl (lv_at hl 2 rfl) ?_
  refine lv_iload_n hx hb dX5_addFour_28 rfl (lv_at hl 0 rfl) ?_
  refine lv_ishr hx hb dX5_addFour_29 ?_
  refine lv_sipush (v := 255) hx hb dX5_addFour_30 (by decide) ?_
  refine lv_iand hx hb dX5_addFour_33 ?_
  refine gw_iast hx hb hK hP hD hS 1 0 18 rfl rfl rfl (by decide) (by decide) dX5_addFour_34 (fun H locs hP hD hS => ?_)
  have hP : va_P G vwCl [((q 9), .inr (5, [.ref (q 10), .int 18])), ((q 10), .inl (cI, 300, .inl (upd (upd (upd f 16 ((p1 >>> (24 &&& 31)) &&& 255)) 17 ((p1 >>> (16 &&& 31)) &&& 255)) 18 ((p1 >>> (8 &&& 31)) &&& 255))))] H := hP
  have hD : va_D A [((q 9), .inr (5, [.ref (q 10), .int 18])), ((q 10), .inl (cI, 300, .inl (upd (upd (upd f 16 ((p1 >>> (24 &&& 31)) &&& 255)) 17 ((p1 >>> (16 &&& 31)) &&& 255)) 18 ((p1 >>> (8 &&& 31)) &&& 255))))] := hD
  refine lv_aload_n hx hb dX5_addFour_35 rfl (lv_at hl 1 rfl) ?_
  refine lv_dup hx hb dX5_addFour_36 rfl ?_
  refine va_get (D := G) (ci := 5) (v := .int 18) (C := RX5) (T := TX5) (N := 2) hx hb hts iX5 hown hK hP 0 rfl rfl 1 (by decide) (hts _ m_172) (fun _ h9 => h9) rfl dX5_addFour_37 ?_
  refine lv_iconst (v := 1) hx hb dX5_addFour_40 (by decide) ?_
  refine lv_iadd hx hb dX5_addFour_41 ?_
  refine gw_topi (y := 19) (by decide) ?_
  refine va_put (D := G) (ci := 5) (v := .int 19) (ty := .int) (C := RX5) (T := TX5) (N := 2) hx hb hts iX5 tyX5 tyX5_ok nmX5 hown hK hP hD hS 0 rfl rfl 1 (by decide) (hts _ m_172) (fun _ h9 => h9) rfl (tyX5_ok 1 (by decide)) rfl rfl (Nat.le_of_ble_eq_true rfl) dX5_addFour_42 (fun H locs hP hD hS => ?_)
  have hP : va_P G vwCl [((q 9), .inr (5, [.ref (q 10), .int 19])), ((q 10), .inl (cI, 300, .inl (upd (upd (upd f 16 ((p1 >>> (24 &&& 31)) &&& 255)) 17 ((p1 >>> (16 &&& 31)) &&& 255)) 18 ((p1 >>> (8 &&& 31)) &&& 255))))] H := hP
  have hD : va_D A [((q 9), .inr (5, [.ref (q 10), .int 19])), ((q 10), .inl (cI, 300, .inl (upd (upd (upd f 16 ((p1 >>> (24 &&& 31)) &&& 255)) 17 ((p1 >>> (16 &&& 31)) &&& 255)) 18 ((p1 >>> (8 &&& 31)) &&& 255))))] := hD
  refine lv_iinc (v := 0) (lv' := [(2, .int 0), (0, .ref (q 9)), (1, .int p1)]) hx hb dX5_addFour_45 hl (k := 0) rfl (by decide) (by decide) rfl (fun ls hl => ?_)
  refine lv_goto (tgt := 3) hx hb dX5_addFour_48 (by decide) ?_
  refine lv_iload_n hx hb dX5_addFour_3 rfl (lv_at hl 0 rfl) ?_
  refine lv_if_lt (tgt := 51) hx hb dX5_addFour_4 (by decide) (fun c => absurd c (by decide)) (fun _ => ?_)
  refine lv_aload_n hx hb dX5_addFour_7 rfl (lv_at hl 1 rfl) ?_
  refine va_get (D := G) (ci := 5) (v := .int 19) (C := RX5) (T := TX5) (N := 2) hx hb hts iX5 hown hK hP 0 rfl rfl 1 (by decide) (hts _ m_172) (fun _ h9 => h9) rfl dX5_addFour_8 ?_
  refine lv_aload_n hx hb dX5_addFour_11 rfl (lv_at hl 1 rfl) ?_
  refine va_get (D := G) (ci := 5) (v := .ref (q 10)) (C := RX5) (T := TX5) (N := 2) hx hb hts iX5 hown hK hP 0 rfl rfl 0 (by decide) (hts _ m_173) (fun _ h9 => h9) rfl dX5_addFour_12 ?_
  refine va_alen (D := G) hx hb hK hP 1 0 rfl rfl (v := 300) rfl dX5_addFour_15 ?_
  refine lv_icmp_ge (tgt := 45) hx hb dX5_addFour_16 (by decide) (fun c => absurd c (by decide)) (fun _ => ?_)
  refine lv_aload_n hx hb dX5_addFour_19 rfl (lv_at hl 1 rfl) ?_
  refine va_get (D := G) (ci := 5) (v := .ref (q 10)) (C := RX5) (T := TX5) (N := 2) hx hb hts iX5 hown hK hP 0 rfl rfl 0 (by decide) (hts _ m_173) (fun _ h9 => h9) rfl dX5_addFour_20 ?_
  refine lv_aload_n hx hb dX5_addFour_23 rfl (lv_at hl 1 rfl) ?_
  refine va_get (D := G) (ci := 5) (v := .int 19) (C := RX5) (T := TX5) (N := 2) hx hb hts iX5 hown hK hP 0 rfl rfl 1 (by decide) (hts _ m_172) (fun _ h9 => h9) rfl dX5_addFour_24 ?_
  refine lv_iload_n hx hb dX5_addFour_27 rfl (lv_at hl 2 rfl) ?_
  refine lv_iload_n hx hb dX5_addFour_28 rfl (lv_at hl 0 rfl) ?_
  refine lv_ishr hx hb dX5_addFour_29 ?_
  refine lv_sipush (v := 255) hx hb dX5_addFour_30 (by decide) ?_
  refine lv_iand hx hb dX5_addFour_33 ?_
  refine gw_iast hx hb hK hP hD hS 1 0 19 rfl rfl rfl (by decide) (by decide) dX5_addFour_34 (fun H locs hP hD hS => ?_)
  have hP : va_P G vwCl [((q 9), .inr (5, [.ref (q 10), .int 19])), ((q 10), .inl (cI, 300, .inl (upd (upd (upd (upd f 16 ((p1 >>> (24 &&& 31)) &&& 255)) 17 ((p1 >>> (16 &&& 31)) &&& 255)) 18 ((p1 >>> (8 &&& 31)) &&& 255)) 19 ((p1 >>> (0 &&& 31)) &&& 255))))] H := hP
  have hD : va_D A [((q 9), .inr (5, [.ref (q 10), .int 19])), ((q 10), .inl (cI, 300, .inl (upd (upd (upd (upd f 16 ((p1 >>> (24 &&& 31)) &&& 255)) 17 ((p1 >>> (16 &&& 31)) &&& 255)) 18 ((p1 >>> (8 &&& 31)) &&& 255)) 19 ((p1 >>> (0 &&& 31)) &&& 255))))] := hD
  refine lv_aload_n hx hb dX5_addFour_35 rfl (lv_at hl 1 rfl) ?_
  refine lv_dup hx hb dX5_addFour_36 rfl ?_
  refine va_get (D := G) (ci := 5) (v := .int 19) (C := RX5) (T := TX5) (N := 2) hx hb hts iX5 hown hK hP 0 rfl rfl 1 (by decide) (hts _ m_172) (fun _ h9 => h9) rfl dX5_addFour_37 ?_
  refine lv_iconst (v := 1) hx hb dX5_addFour_40 (by decide) ?_
  refine lv_iadd hx hb dX5_addFour_41 ?_
  refine gw_topi (y := 20) (by decide) ?_
  refine va_put (D := G) (ci := 5) (v := .int 20) (ty := .int) (C := RX5) (T := TX5) (N := 2) hx hb hts iX5 tyX5 tyX5_ok nmX5 hown hK hP hD hS 0 rfl rfl 1 (by decide) (hts _ m_172) (fun _ h9 => h9) rfl (tyX5_ok 1 (by decide)) rfl rfl (Nat.le_of_ble_eq_true rfl) dX5_addFour_42 (fun H locs hP hD hS => ?_)
  have hP : va_P G vwCl [((q 9), .inr (5, [.ref (q 10), .int 20])), ((q 10), .inl (cI, 300, .inl (upd (upd (upd (upd f 16 ((p1 >>> (24 &&& 31)) &&& 255)) 17 ((p1 >>> (16 &&& 31)) &&& 255)) 18 ((p1 >>> (8 &&& 31)) &&& 255)) 19 ((p1 >>> (0 &&& 31)) &&& 255))))] H := hP
  have hD : va_D A [((q 9), .inr (5, [.ref (q 10), .int 20])), ((q 10), .inl (cI, 300, .inl (upd (upd (upd (upd f 16 ((p1 >>> (24 &&& 31)) &&& 255)) 17 ((p1 >>> (16 &&& 31)) &&& 255)) 18 ((p1 >>> (8 &&& 31)) &&& 255)) 19 ((p1 >>> (0 &&& 31)) &&& 255))))] := hD
  refine lv_iinc (v := (-8)) (lv' := [(2, .int (-8)), (0, .ref (q 9)), (1, .int p1)]) hx hb dX5_addFour_45 hl (k := 0) rfl (by decide) (by decide) rfl (fun ls hl => ?_)
  refine lv_goto (tgt := 3) hx hb dX5_addFour_48 (by decide) ?_
  refine lv_iload_n hx hb dX5_addFour_3 rfl (lv_at hl 0 rfl) ?_
  refine lv_if_lt (tgt := 51) hx hb dX5_addFour_4 (by decide) (fun _ => ?_) (fun c => absurd (by decide) c)
  exact gw_vret (upd (upd (upd (upd f 16 ((p1 >>> (24 &&& 31)) &&& 255)) 17 ((p1 >>> (16 &&& 31)) &&& 255)) 18 ((p1 >>> (8 &&& 31)) &&& 255)) 19 ((p1 >>> (0 &&& 31)) &&& 255)) hx hb hr hlocks hP hD hS trivial dX5_addFour_51
theorem e_X5_addFour : yX5_addFour.cls = RX5 ∧ yX5_addFour.cls ≠ "java/lang/invoke/MethodHandle" ∧ yX5_addFour.cls ≠ "java/lang/invoke/VarHandle" ∧ (parseMethodDescriptor yX5_addFour.desc).map (fun d => d.parameters.length) = some 1 := by decide +kernel
set_option maxHeartbeats 4000000 in
set_option maxRecDepth 100000 in
theorem c_X8_feed (l : Launch) (G : va_G) (cI cJ cZ cB cT : ClassId) (q : Nat → Nat) (p1 : Int32) (p2 : Int32) (p3 : Int32) (p4 : Int32) (p5 : Int32)  : gMi l yX8_feed (gws yX8_feed cX8_feed 6 (some .int)) 2 G (gT cI cJ cZ cB cT) [.ref (q 0), .int p1, .int p2, .int p3, .int p4, .int p5] [((q 0), .inr (8, [.ref (q 1), .ref (q 5), .ref (q 9), .ref (q 11), .ref (q 15), .ref (q 16), .ref (q 20), .ref (q 23)])), ((q 9), .inr (5, [.ref (q 10), .int 0])), ((q 10), .inl (cI, 300, .inl (fun _ => 0)))] (fun r (_ : Unit) => r = 20) (fun (_ : Unit) => ([] : va_W)) := by
  intro sz
  refine gM_start (y := yX8_feed) (av := [.ref (q 0), .int p1, .int p2, .int p3, .int p4, .int p5]) (ws := [((q 0), .inr (8, [.ref (q 1), .ref (q 5), .ref (q 9), .ref (q 11), .ref (q 15), .ref (q 16), .ref (q 20), .ref (q 23)])), ((q 9), .inr (5, [.ref (q 10), .int 0])), ((q 10), .inl (cI, 300, .inl (fun _ => 0)))]) (Qf := fun A => va_Qi (fun r (_ : Unit) => r = 20) (gB G (fun (_ : Unit) => ([] : va_W)) A) A) (cc := cX8_feed) (maxL := 6) (ret := (some .int)) (by decide) (Nat.le_of_ble_eq_true rfl) ?_
  intro p e s m args below meth c A ls H hx hb hr hts hown hin hlocks hml hP hK hD hA hS hl
  have hl : lv_has ls 6 [(0, .ref (q 0)), (1, .int p1), (2, .int p2), (3, .int p3), (4, .int p4), (5, .int p5)] := hl
  refine lv_aload_n hx hb dX8_feed_0 rfl (lv_at hl 0 rfl) ?_
  refine va_get (D := G) (ci := 8) (v := .ref (q 9)) (C := RX8) (T := TX8) (N := 8) hx hb hts iX8 hown hK hP 0 rfl rfl 2 (by decide) (hts _ m_73) (fun _ h9 => h9) rfl dX8_feed_1 ?_
  refine va_get (D := G) (ci := 5) (v := .int 0) (C := RX5) (T := TX5) (N := 2) hx hb hts iX5 hown hK hP 1 rfl rfl 1 (by decide) (hts _ m_74) (fun _ h9 => h9) rfl dX8_feed_4 ?_
  refine lv_bipush (v := 20) hx hb dX8_feed_7 (by decide) ?_
  refine lv_iadd hx hb dX8_feed_9 ?_
  refine gw_topi (y := 20) (by decide) ?_
  refine lv_sipush (v := 300) hx hb dX8_feed_10 (by decide) ?_
  refine lv_icmp_le (tgt := 18) hx hb dX8_feed_13 (by decide) (fun _ => ?_) (fun c => absurd (by decide) c)
  refine lv_aload_n hx hb dX8_feed_18 rfl (lv_at hl 0 rfl) ?_
  refine va_get (D := G) (ci := 8) (v := .ref (q 9)) (C := RX8) (T := TX8) (N := 8) hx hb hts iX8 hown hK hP 0 rfl rfl 2 (by decide) (hts _ m_73) (fun _ h9 => h9) rfl dX8_feed_19 ?_
  refine lv_iload_n hx hb dX8_feed_22 rfl (lv_at hl 1 rfl) ?_
  refine gw_callv (gw_runV (As := [.int p1]) (rest := []) ⟨hx, hb, hml, hown, hts⟩ (c_addFour0 l G cI cJ cZ cB cT q (fun _ => 0) p1  H.size) (gG_V m_175 m_176 m_177 m_178 m_174) rfl e_X5_addFour ⟨Nat.le_of_ble_eq_true rfl, Nat.le_of_ble_eq_true rfl⟩ hK hP hD [1, 2] rfl (by decide) rfl 0 rfl rfl rfl hl.1 rfl (Nat.le_of_ble_eq_true rfl) dX8_feed_23 ⟨Nat.le_of_ble_eq_true rfl, Nat.le_of_ble_eq_true rfl⟩) hP hD hS hA [1, 2] [0] rfl rfl (by decide) (by decide) (fun u_1 H locs hw_1 hP hD hS => ?_)
  have hP : va_P G vwCl [((q 0), .inr (8, [.ref (q 1), .ref (q 5), .ref (q 9), .ref (q 11), .ref (q 15), .ref (q 16), .ref (q 20), .ref (q 23)])), ((q 9), .inr (5, [.ref (q 10), .int 4])), ((q 10), .inl (cI, 300, .inl u_1))] H := hP
  have hD : va_D A [((q 0), .inr (8, [.ref (q 1), .ref (q 5), .ref (q 9), .ref (q 11), .ref (q 15), .ref (q 16), .ref (q 20), .ref (q 23)])), ((q 9), .inr (5, [.ref (q 10), .int 4])), ((q 10), .inl (cI, 300, .inl u_1))] := hD
  refine lv_aload_n hx hb dX8_feed_26 rfl (lv_at hl 0 rfl) ?_
  refine va_get (D := G) (ci := 8) (v := .ref (q 9)) (C := RX8) (T := TX8) (N := 8) hx hb hts iX8 hown hK hP 0 rfl rfl 2 (by decide) (hts _ m_73) (fun _ h9 => h9) rfl dX8_feed_27 ?_
  refine lv_iload_n hx hb dX8_feed_30 rfl (lv_at hl 2 rfl) ?_
  refine gw_callv (gw_runV (As := [.int p2]) (rest := []) ⟨hx, hb, hml, hown, hts⟩ (c_addFour4 l G cI cJ cZ cB cT q u_1 p2  H.size) (gG_V m_175 m_176 m_177 m_178 m_174) rfl e_X5_addFour ⟨Nat.le_of_ble_eq_true rfl, Nat.le_of_ble_eq_true rfl⟩ hK hP hD [1, 2] rfl (by decide) rfl 0 rfl rfl rfl hl.1 rfl (Nat.le_of_ble_eq_true rfl) dX8_feed_31 ⟨Nat.le_of_ble_eq_true rfl, Nat.le_of_ble_eq_true rfl⟩) hP hD hS hA [1, 2] [0] rfl rfl (by decide) (by decide) (fun u_2 H locs hw_2 hP hD hS => ?_)
  have hP : va_P G vwCl [((q 0), .inr (8, [.ref (q 1), .ref (q 5), .ref (q 9), .ref (q 11), .ref (q 15), .ref (q 16), .ref (q 20), .ref (q 23)])), ((q 9), .inr (5, [.ref (q 10), .int 8])), ((q 10), .inl (cI, 300, .inl u_2))] H := hP
  have hD : va_D A [((q 0), .inr (8, [.ref (q 1), .ref (q 5), .ref (q 9), .ref (q 11), .ref (q 15), .ref (q 16), .ref (q 20), .ref (q 23)])), ((q 9), .inr (5, [.ref (q 10), .int 8])), ((q 10), .inl (cI, 300, .inl u_2))] := hD
  refine lv_aload_n hx hb dX8_feed_34 rfl (lv_at hl 0 rfl) ?_
  refine va_get (D := G) (ci := 8) (v := .ref (q 9)) (C := RX8) (T := TX8) (N := 8) hx hb hts iX8 hown hK hP 0 rfl rfl 2 (by decide) (hts _ m_73) (fun _ h9 => h9) rfl dX8_feed_35 ?_
  refine lv_iload_n hx hb dX8_feed_38 rfl (lv_at hl 3 rfl) ?_
  refine gw_callv (gw_runV (As := [.int p3]) (rest := []) ⟨hx, hb, hml, hown, hts⟩ (c_addFour8 l G cI cJ cZ cB cT q u_2 p3  H.size) (gG_V m_175 m_176 m_177 m_178 m_174) rfl e_X5_addFour ⟨Nat.le_of_ble_eq_true rfl, Nat.le_of_ble_eq_true rfl⟩ hK hP hD [1, 2] rfl (by decide) rfl 0 rfl rfl rfl hl.1 rfl (Nat.le_of_ble_eq_true rfl) dX8_feed_39 ⟨Nat.le_of_ble_eq_true rfl, Nat.le_of_ble_eq_true rfl⟩) hP hD hS hA [1, 2] [0] rfl rfl (by decide) (by decide) (fun u_3 H locs hw_3 hP hD hS => ?_)
  have hP : va_P G vwCl [((q 0), .inr (8, [.ref (q 1), .ref (q 5), .ref (q 9), .ref (q 11), .ref (q 15), .ref (q 16), .ref (q 20), .ref (q 23)])), ((q 9), .inr (5, [.ref (q 10), .int 12])), ((q 10), .inl (cI, 300, .inl u_3))] H := hP
  have hD : va_D A [((q 0), .inr (8, [.ref (q 1), .ref (q 5), .ref (q 9), .ref (q 11), .ref (q 15), .ref (q 16), .ref (q 20), .ref (q 23)])), ((q 9), .inr (5, [.ref (q 10), .int 12])), ((q 10), .inl (cI, 300, .inl u_3))] := hD
  refine lv_aload_n hx hb dX8_feed_42 rfl (lv_at hl 0 rfl) ?_
  refine va_get (D := G) (ci := 8) (v := .ref (q 9)) (C := RX8) (T := TX8) (N := 8) hx hb hts iX8 hown hK hP 0 rfl rfl 2 (by decide) (hts _ m_73) (fun _ h9 => h9) rfl dX8_feed_43 ?_
  refine lv_iload hx hb dX8_feed_46 (lv_at hl 4 rfl) ?_
  refine gw_callv (gw_runV (As := [.int p4]) (rest := []) ⟨hx, hb, hml, hown, hts⟩ (c_addFour12 l G cI cJ cZ cB cT q u_3 p4  H.size) (gG_V m_175 m_176 m_177 m_178 m_174) rfl e_X5_addFour ⟨Nat.le_of_ble_eq_true rfl, Nat.le_of_ble_eq_true rfl⟩ hK hP hD [1, 2] rfl (by decide) rfl 0 rfl rfl rfl hl.1 rfl (Nat.le_of_ble_eq_true rfl) dX8_feed_48 ⟨Nat.le_of_ble_eq_true rfl, Nat.le_of_ble_eq_true rfl⟩) hP hD hS hA [1, 2] [0] rfl rfl (by decide) (by decide) (fun u_4 H locs hw_4 hP hD hS => ?_)
  have hP : va_P G vwCl [((q 0), .inr (8, [.ref (q 1), .ref (q 5), .ref (q 9), .ref (q 11), .ref (q 15), .ref (q 16), .ref (q 20), .ref (q 23)])), ((q 9), .inr (5, [.ref (q 10), .int 16])), ((q 10), .inl (cI, 300, .inl u_4))] H := hP
  have hD : va_D A [((q 0), .inr (8, [.ref (q 1), .ref (q 5), .ref (q 9), .ref (q 11), .ref (q 15), .ref (q 16), .ref (q 20), .ref (q 23)])), ((q 9), .inr (5, [.ref (q 10), .int 16])), ((q 10), .inl (cI, 300, .inl u_4))] := hD
  refine lv_aload_n hx hb dX8_feed_51 rfl (lv_at hl 0 rfl) ?_
  refine va_get (D := G) (ci := 8) (v := .ref (q 9)) (C := RX8) (T := TX8) (N := 8) hx hb hts iX8 hown hK hP 0 rfl rfl 2 (by decide) (hts _ m_73) (fun _ h9 => h9) rfl dX8_feed_52 ?_
  refine lv_iload hx hb dX8_feed_55 (lv_at hl 5 rfl) ?_
  refine gw_callv (gw_runV (As := [.int p5]) (rest := []) ⟨hx, hb, hml, hown, hts⟩ (c_addFour16 l G cI cJ cZ cB cT q u_4 p5  H.size) (gG_V m_175 m_176 m_177 m_178 m_174) rfl e_X5_addFour ⟨Nat.le_of_ble_eq_true rfl, Nat.le_of_ble_eq_true rfl⟩ hK hP hD [1, 2] rfl (by decide) rfl 0 rfl rfl rfl hl.1 rfl (Nat.le_of_ble_eq_true rfl) dX8_feed_57 ⟨Nat.le_of_ble_eq_true rfl, Nat.le_of_ble_eq_true rfl⟩) hP hD hS hA [1, 2] [0] rfl rfl (by decide) (by decide) (fun u_5 H locs hw_5 hP hD hS => ?_)
  have hP : va_P G vwCl [((q 0), .inr (8, [.ref (q 1), .ref (q 5), .ref (q 9), .ref (q 11), .ref (q 15), .ref (q 16), .ref (q 20), .ref (q 23)])), ((q 9), .inr (5, [.ref (q 10), .int 20])), ((q 10), .inl (cI, 300, .inl u_5))] H := hP
  have hD : va_D A [((q 0), .inr (8, [.ref (q 1), .ref (q 5), .ref (q 9), .ref (q 11), .ref (q 15), .ref (q 16), .ref (q 20), .ref (q 23)])), ((q 9), .inr (5, [.ref (q 10), .int 20])), ((q 10), .inl (cI, 300, .inl u_5))] := hD
  refine lv_aload_n hx hb dX8_feed_60 rfl (lv_at hl 0 rfl) ?_
  refine va_get (D := G) (ci := 8) (v := .ref (q 9)) (C := RX8) (T := TX8) (N := 8) hx hb hts iX8 hown hK hP 0 rfl rfl 2 (by decide) (hts _ m_73) (fun _ h9 => h9) rfl dX8_feed_61 ?_
  refine va_get (D := G) (ci := 5) (v := .int 20) (C := RX5) (T := TX5) (N := 2) hx hb hts iX5 hown hK hP 1 rfl rfl 1 (by decide) (hts _ m_74) (fun _ h9 => h9) rfl dX8_feed_64 ?_
  exact gw_iret () hx hb hr hlocks (hP.sub [] rfl) (hD.sub [] (by decide) rfl) hS rfl dX8_feed_67
set_option maxHeartbeats 4000000 in
set_option maxRecDepth 100000 in
theorem c_add0 (l : Launch) (G : va_G) (cI cJ cZ cB cT : ClassId) (q : Nat → Nat)  : gMv l yX7_add (gws yX7_add cX7_add 4 none) 1 G (gT cI cJ cZ cB cT) [.ref (q 11), .int 0, .int 0, .int 0] [((q 11), .inr (7, [.ref (q 12), .ref (q 13), .ref (q 14), .int 0, .int 0])), ((q 12), .inl (cI, 301, .inl (fun _ => 0))), ((q 13), .inl (cI, 301, .inl (fun _ => 0))), ((q 14), .inl (cI, 301, .inl (fun _ => 0)))] (fun (_ : Unit) => True) (fun (_ : Unit) => ([((q 11), .inr (7, [.ref (q 12), .ref (q 13), .ref (q 14), .int 1, .int 0])), ((q 12), .inl (cI, 301, .inl (upd (fun _ => 0) 0 0))), ((q 13), .inl (cI, 301, .inl (upd (fun _ => 0) 0 0))), ((q 14), .inl (cI, 301, .inl (upd (fun _ => 0) 0 0)))] : va_W)) := by
  intro sz
  refine gM_start (y := yX7_add) (av := [.ref (q 11), .int 0, .int 0, .int 0]) (ws := [((q 11), .inr (7, [.ref (q 12), .ref (q 13), .ref (q 14), .int 0, .int 0])), ((q 12), .inl (cI, 301, .inl (fun _ => 0))), ((q 13), .inl (cI, 301, .inl (fun _ => 0))), ((q 14), .inl (cI, 301, .inl (fun _ => 0)))]) (Qf := fun A => va_Qv (fun (_ : Unit) => True) (gB G (fun (_ : Unit) => ([((q 11), .inr (7, [.ref (q 12), .ref (q 13), .ref (q 14), .int 1, .int 0])), ((q 12), .inl (cI, 301, .inl (upd (fun _ => 0) 0 0))), ((q 13), .inl (cI, 301, .inl (upd (fun _ => 0) 0 0))), ((q 14), .inl (cI, 301, .inl (upd (fun _ => 0) 0 0)))] : va_W)) A) A) (cc := cX7_add) (maxL := 4) (ret := none) (by decide) (Nat.le_of_ble_eq_true rfl) ?_
  intro p e s m args below meth c A ls H hx hb hr hts hown hin hlocks hml hP hK hD hA hS hl
  have hl : lv_has ls 4 [(0, .ref (q 11)), (1, .int 0), (2, .int 0), (3, .int 0)] := hl
  refine lv_aload_n hx hb dX7_add_0 rfl (lv_at hl 0 rfl) ?_
  refine va_get (D := G) (ci := 7) (v := .int 0) (C := RX7) (T := TX7) (N := 5) hx hb hts iX7 hown hK hP 0 rfl rfl 3 (by decide) (hts _ m_179) (fun _ h9 => h9) rfl dX7_add_1 ?_
  refine lv_aload_n hx hb dX7_add_4 rfl (lv_at hl 0 rfl) ?_
  refine va_get (D := G) (ci := 7) (v := .ref (q 12)) (C := RX7) (T := TX7) (N := 5) hx hb hts iX7 hown hK hP 0 rfl rfl 0 (by decide) (hts _ m_180) (fun _ h9 => h9) rfl dX7_add_5 ?_
  refine va_alen (D := G) hx hb hK hP 1 0 rfl rfl (v := 301) rfl dX7_add_8 ?_
  refine lv_icmp_ge (tgt := 76) hx hb dX7_add_9 (by decide) (fun c => absurd c (by decide)) (fun _ => ?_)
  refine lv_aload_n hx hb dX7_add_12 rfl (lv_at hl 0 rfl) ?_
  refine va_get (D := G) (ci := 7) (v := .int 0) (C := RX7) (T := TX7) (N := 5) hx hb hts iX7 hown hK hP 0 rfl rfl 3 (by decide) (hts _ m_179) (fun _ h9 => h9) rfl dX7_add_13 ?_
  refine lv_aload_n hx hb dX7_add_16 rfl (lv_at hl 0 rfl) ?_
  refine va_get (D := G) (ci := 7) (v := .ref (q 13)) (C := RX7) (T := TX7) (N := 5) hx hb hts iX7 hown hK hP 0 rfl rfl 1 (by decide) (hts _ m_181) (fun _ h9 => h9) rfl dX7_add_17 ?_
  refine va_alen (D := G) hx hb hK hP 2 0 rfl rfl (v := 301) rfl dX7_add_20 ?_
  refine lv_icmp_ge (tgt := 76) hx hb dX7_add_21 (by decide) (fun c => absurd c (by decide)) (fun _ => ?_)
  refine lv_aload_n hx hb dX7_add_24 rfl (lv_at hl 0 rfl) ?_
  refine va_get (D := G) (ci := 7) (v := .int 0) (C := RX7) (T := TX7) (N := 5) hx hb hts iX7 hown hK hP 0 rfl rfl 3 (by decide) (hts _ m_179) (fun _ h9 => h9) rfl dX7_add_25 ?_
  refine lv_aload_n hx hb dX7_add_28 rfl (lv_at hl 0 rfl) ?_
  refine va_get (D := G) (ci := 7) (v := .ref (q 14)) (C := RX7) (T := TX7) (N := 5) hx hb hts iX7 hown hK hP 0 rfl rfl 2 (by decide) (hts _ m_182) (fun _ h9 => h9) rfl dX7_add_29 ?_
  refine va_alen (D := G) hx hb hK hP 3 0 rfl rfl (v := 301) rfl dX7_add_32 ?_
  refine lv_icmp_ge (tgt := 76) hx hb dX7_add_33 (by decide) (fun c => absurd c (by decide)) (fun _ => ?_)
  refine lv_aload_n hx hb dX7_add_36 rfl (lv_at hl 0 rfl) ?_
  refine va_get (D := G) (ci := 7) (v := .ref (q 12)) (C := RX7) (T := TX7) (N := 5) hx hb hts iX7 hown hK hP 0 rfl rfl 0 (by decide) (hts _ m_180) (fun _ h9 => h9) rfl dX7_add_37 ?_
  refine lv_aload_n hx hb dX7_add_40 rfl (lv_at hl 0 rfl) ?_
  refine va_get (D := G) (ci := 7) (v := .int 0) (C := RX7) (T := TX7) (N := 5) hx hb hts iX7 hown hK hP 0 rfl rfl 3 (by decide) (hts _ m_179) (fun _ h9 => h9) rfl dX7_add_41 ?_
  refine lv_iload_n hx hb dX7_add_44 rfl (lv_at hl 1 rfl) ?_
  refine gw_iast hx hb hK hP hD hS 1 0 0 rfl rfl rfl (by decide) (by decide) dX7_add_45 (fun H locs hP hD hS => ?_)
  have hP : va_P G vwCl [((q 11), .inr (7, [.ref (q 12), .ref (q 13), .ref (q 14), .int 0, .int 0])), ((q 12), .inl (cI, 301, .inl (upd (fun _ => 0) 0 0))), ((q 13), .inl (cI, 301, .inl (fun _ => 0))), ((q 14), .inl (cI, 301, .inl (fun _ => 0)))] H := hP
  have hD : va_D A [((q 11), .inr (7, [.ref (q 12), .ref (q 13), .ref (q 14), .int 0, .int 0])), ((q 12), .inl (cI, 301, .inl (upd (fun _ => 0) 0 0))), ((q 13), .inl (cI, 301, .inl (fun _ => 0))), ((q 14), .inl (cI, 301, .inl (fun _ => 0)))] := hD
  refine lv_aload_n hx hb dX7_add_46 rfl (lv_at hl 0 rfl) ?_
  refine va_get (D := G) (ci := 7) (v := .ref (q 13)) (C := RX7) (T := TX7) (N := 5) hx hb hts iX7 hown hK hP 0 rfl rfl 1 (by decide) (hts _ m_181) (fun _ h9 => h9) rfl dX7_add_47 ?_
  refine lv_aload_n hx hb dX7_add_50 rfl (lv_at hl 0 rfl) ?_
  refine va_get (D := G) (ci := 7) (v := .int 0) (C := RX7) (T := TX7) (N := 5) hx hb hts iX7 hown hK hP 0 rfl rfl 3 (by decide) (hts _ m_179) (fun _ h9 => h9) rfl dX7_add_51 ?_
  refine lv_iload_n hx hb dX7_add_54 rfl (lv_at hl 2 rfl) ?_
  refine gw_iast hx hb hK hP hD hS 2 0 0 rfl rfl rfl (by decide) (by decide) dX7_add_55 (fun H locs hP hD hS => ?_)
  have hP : va_P G vwCl [((q 11), .inr (7, [.ref (q 12), .ref (q 13), .ref (q 14), .int 0, .int 0])), ((q 12), .inl (cI, 301, .inl (upd (fun _ => 0) 0 0))), ((q 13), .inl (cI, 301, .inl (upd (fun _ => 0) 0 0))), ((q 14), .inl (cI, 301, .inl (fun _ => 0)))] H := hP
  have hD : va_D A [((q 11), .inr (7, [.ref (q 12), .ref (q 13), .ref (q 14), .int 0, .int 0])), ((q 12), .inl (cI, 301, .inl (upd (fun _ => 0) 0 0))), ((q 13), .inl (cI, 301, .inl (upd (fun _ => 0) 0 0))), ((q 14), .inl (cI, 301, .inl (fun _ => 0)))] := hD
  refine lv_aload_n hx hb dX7_add_56 rfl (lv_at hl 0 rfl) ?_
  refine va_get (D := G) (ci := 7) (v := .ref (q 14)) (C := RX7) (T := TX7) (N := 5) hx hb hts iX7 hown hK hP 0 rfl rfl 2 (by decide) (hts _ m_182) (fun _ h9 => h9) rfl dX7_add_57 ?_
  refine lv_aload_n hx hb dX7_add_60 rfl (lv_at hl 0 rfl) ?_
  refine va_get (D := G) (ci := 7) (v := .int 0) (C := RX7) (T := TX7) (N := 5) hx hb hts iX7 hown hK hP 0 rfl rfl 3 (by decide) (hts _ m_179) (fun _ h9 => h9) rfl dX7_add_61 ?_
  refine lv_iload_n hx hb dX7_add_64 rfl (lv_at hl 3 rfl) ?_
  refine gw_iast hx hb hK hP hD hS 3 0 0 rfl rfl rfl (by decide) (by decide) dX7_add_65 (fun H locs hP hD hS => ?_)
  have hP : va_P G vwCl [((q 11), .inr (7, [.ref (q 12), .ref (q 13), .ref (q 14), .int 0, .int 0])), ((q 12), .inl (cI, 301, .inl (upd (fun _ => 0) 0 0))), ((q 13), .inl (cI, 301, .inl (upd (fun _ => 0) 0 0))), ((q 14), .inl (cI, 301, .inl (upd (fun _ => 0) 0 0)))] H := hP
  have hD : va_D A [((q 11), .inr (7, [.ref (q 12), .ref (q 13), .ref (q 14), .int 0, .int 0])), ((q 12), .inl (cI, 301, .inl (upd (fun _ => 0) 0 0))), ((q 13), .inl (cI, 301, .inl (upd (fun _ => 0) 0 0))), ((q 14), .inl (cI, 301, .inl (upd (fun _ => 0) 0 0)))] := hD
  refine lv_aload_n hx hb dX7_add_66 rfl (lv_at hl 0 rfl) ?_
  refine lv_dup hx hb dX7_add_67 rfl ?_
  refine va_get (D := G) (ci := 7) (v := .int 0) (C := RX7) (T := TX7) (N := 5) hx hb hts iX7 hown hK hP 0 rfl rfl 3 (by decide) (hts _ m_179) (fun _ h9 => h9) rfl dX7_add_68 ?_
  refine lv_iconst (v := 1) hx hb dX7_add_71 (by decide) ?_
  refine lv_iadd hx hb dX7_add_72 ?_
  refine gw_topi (y := 1) (by decide) ?_
  refine va_put (D := G) (ci := 7) (v := .int 1) (ty := .int) (C := RX7) (T := TX7) (N := 5) hx hb hts iX7 tyX7 tyX7_ok nmX7 hown hK hP hD hS 0 rfl rfl 3 (by decide) (hts _ m_179) (fun _ h9 => h9) rfl (tyX7_ok 3 (by decide)) rfl rfl (Nat.le_of_ble_eq_true rfl) dX7_add_73 (fun H locs hP hD hS => ?_)
  have hP : va_P G vwCl [((q 11), .inr (7, [.ref (q 12), .ref (q 13), .ref (q 14), .int 1, .int 0])), ((q 12), .inl (cI, 301, .inl (upd (fun _ => 0) 0 0))), ((q 13), .inl (cI, 301, .inl (upd (fun _ => 0) 0 0))), ((q 14), .inl (cI, 301, .inl (upd (fun _ => 0) 0 0)))] H := hP
  have hD : va_D A [((q 11), .inr (7, [.ref (q 12), .ref (q 13), .ref (q 14), .int 1, .int 0])), ((q 12), .inl (cI, 301, .inl (upd (fun _ => 0) 0 0))), ((q 13), .inl (cI, 301, .inl (upd (fun _ => 0) 0 0))), ((q 14), .inl (cI, 301, .inl (upd (fun _ => 0) 0 0)))] := hD
  exact gw_vret () hx hb hr hlocks hP hD hS trivial dX7_add_76
theorem e_X7_add : yX7_add.cls = RX7 ∧ yX7_add.cls ≠ "java/lang/invoke/MethodHandle" ∧ yX7_add.cls ≠ "java/lang/invoke/VarHandle" ∧ (parseMethodDescriptor yX7_add.desc).map (fun d => d.parameters.length) = some 3 := by decide +kernel
set_option maxHeartbeats 4000000 in
set_option maxRecDepth 100000 in
theorem c_split0 (l : Launch) (G : va_G) (cI cJ cZ cB cT : ClassId) (q : Nat → Nat)  : gMv l yX7_split (gws yX7_split cX7_split 5 none) 2 G (gT cI cJ cZ cB cT) [.ref (q 11), .ref (q 9)] [((q 11), .inr (7, [.ref (q 12), .ref (q 13), .ref (q 14), .int 0, .int 0])), ((q 12), .inl (cI, 301, .inl (fun _ => 0))), ((q 13), .inl (cI, 301, .inl (fun _ => 0))), ((q 14), .inl (cI, 301, .inl (fun _ => 0))), ((q 9), .inr (5, [.ref (q 10), .int 0])), ((q 10), .inl (cI, 300, .inl (fun _ => 0)))] (fun (_ : Unit) => True) (fun (_ : Unit) => ([((q 11), .inr (7, [.ref (q 12), .ref (q 13), .ref (q 14), .int 1, .int 0])), ((q 12), .inl (cI, 301, .inl (upd (fun _ => 0) 0 0))), ((q 13), .inl (cI, 301, .inl (upd (fun _ => 0) 0 0))), ((q 14), .inl (cI, 301, .inl (upd (fun _ => 0) 0 0))), ((q 9), .inr (5, [.ref (q 10), .int 0])), ((q 10), .inl (cI, 300, .inl (fun _ => 0)))] : va_W)) := by
  intro sz
  refine gM_start (y := yX7_split) (av := [.ref (q 11), .ref (q 9)]) (ws := [((q 11), .inr (7, [.ref (q 12), .ref (q 13), .ref (q 14), .int 0, .int 0])), ((q 12), .inl (cI, 301, .inl (fun _ => 0))), ((q 13), .inl (cI, 301, .inl (fun _ => 0))), ((q 14), .inl (cI, 301, .inl (fun _ => 0))), ((q 9), .inr (5, [.ref (q 10), .int 0])), ((q 10), .inl (cI, 300, .inl (fun _ => 0)))]) (Qf := fun A => va_Qv (fun (_ : Unit) => True) (gB G (fun (_ : Unit) => ([((q 11), .inr (7, [.ref (q 12), .ref (q 13), .ref (q 14), .int 1, .int 0])), ((q 12), .inl (cI, 301, .inl (upd (fun _ => 0) 0 0))), ((q 13), .inl (cI, 301, .inl (upd (fun _ => 0) 0 0))), ((q 14), .inl (cI, 301, .inl (upd (fun _ => 0) 0 0))), ((q 9), .inr (5, [.ref (q 10), .int 0])), ((q 10), .inl (cI, 300, .inl (fun _ => 0)))] : va_W)) A) A) (cc := cX7_split) (maxL := 5) (ret := none) (by decide) (Nat.le_of_ble_eq_true rfl) ?_
  intro p e s m args below meth c A ls H hx hb hr hts hown hin hlocks hml hP hK hD hA hS hl
  have hl : lv_has ls 5 [(0, .ref (q 11)), (1, .ref (q 9))] := hl
  refine lv_aload_n hx hb dX7_split_0 rfl (lv_at hl 0 rfl) ?_
  refine lv_iconst (v := 0) hx hb dX7_split_1 (by decide) ?_
  refine va_put (D := G) (ci := 7) (v := .int 0) (ty := .int) (C := RX7) (T := TX7) (N := 5) hx hb hts iX7 tyX7 tyX7_ok nmX7 hown hK hP hD hS 0 rfl rfl 4 (by decide) (hts _ m_183) (fun _ h9 => h9) rfl (tyX7_ok 4 (by decide)) rfl rfl (Nat.le_of_ble_eq_true rfl) dX7_split_2 (fun H locs hP hD hS => ?_)
  have hP : va_P G vwCl [((q 11), .inr (7, [.ref (q 12), .ref (q 13), .ref (q 14), .int 0, .int 0])), ((q 12), .inl (cI, 301, .inl (fun _ => 0))), ((q 13), .inl (cI, 301, .inl (fun _ => 0))), ((q 14), .inl (cI, 301, .inl (fun _ => 0))), ((q 9), .inr (5, [.ref (q 10), .int 0])), ((q 10), .inl (cI, 300, .inl (fun _ => 0)))] H := hP
  have hD : va_D A [((q 11), .inr (7, [.ref (q 12), .ref (q 13), .ref (q 14), .int 0, .int 0])), ((q 12), .inl (cI, 301, .inl (fun _ => 0))), ((q 13), .inl (cI, 301, .inl (fun _ => 0))), ((q 14), .inl (cI, 301, .inl (fun _ => 0))), ((q 9), .inr (5, [.ref (q 10), .int 0])), ((q 10), .inl (cI, 300, .inl (fun _ => 0)))] := hD
  refine lv_aload_n hx hb dX7_split_5 rfl (lv_at hl 0 rfl) ?_
  refine lv_iconst (v := 0) hx hb dX7_split_6 (by decide) ?_
  refine va_put (D := G) (ci := 7) (v := .int 0) (ty := .int) (C := RX7) (T := TX7) (N := 5) hx hb hts iX7 tyX7 tyX7_ok nmX7 hown hK hP hD hS 0 rfl rfl 3 (by decide) (hts _ m_179) (fun _ h9 => h9) rfl (tyX7_ok 3 (by decide)) rfl rfl (Nat.le_of_ble_eq_true rfl) dX7_split_7 (fun H locs hP hD hS => ?_)
  have hP : va_P G vwCl [((q 11), .inr (7, [.ref (q 12), .ref (q 13), .ref (q 14), .int 0, .int 0])), ((q 12), .inl (cI, 301, .inl (fun _ => 0))), ((q 13), .inl (cI, 301, .inl (fun _ => 0))), ((q 14), .inl (cI, 301, .inl (fun _ => 0))), ((q 9), .inr (5, [.ref (q 10), .int 0])), ((q 10), .inl (cI, 300, .inl (fun _ => 0)))] H := hP
  have hD : va_D A [((q 11), .inr (7, [.ref (q 12), .ref (q 13), .ref (q 14), .int 0, .int 0])), ((q 12), .inl (cI, 301, .inl (fun _ => 0))), ((q 13), .inl (cI, 301, .inl (fun _ => 0))), ((q 14), .inl (cI, 301, .inl (fun _ => 0))), ((q 9), .inr (5, [.ref (q 10), .int 0])), ((q 10), .inl (cI, 300, .inl (fun _ => 0)))] := hD
  refine lv_iconst (v := 0) hx hb dX7_split_10 (by decide) ?_
  refine lv_istore_n (lv' := [(2, .int 0), (0, .ref (q 11)), (1, .ref (q 9))]) hx hb dX7_split_11 rfl hl (by decide) rfl (fun ls hl => ?_)
  refine lv_iconst (v := 0) hx hb dX7_split_12 (by decide) ?_
  refine lv_istore_n (lv' := [(3, .int 0), (2, .int 0), (0, .ref (q 11)), (1, .ref (q 9))]) hx hb dX7_split_13 rfl hl (by decide) rfl (fun ls hl => ?_)
  refine lv_iload_n hx hb dX7_split_14 rfl (lv_at hl 0 rfl) ?_
  refine lv_sipush (v := 300) hx hb dX7_split_15 (by decide) ?_
  refine lv_icmp_ge (tgt := 99) hx hb dX7_split_18 (by decide) (fun c => absurd c (by decide)) (fun _ => ?_)
  refine lv_iload_n hx hb dX7_split_21 rfl (lv_at hl 1 rfl) ?_
  refine lv_aload_n hx hb dX7_split_22 rfl (lv_at hl 3 rfl) ?_
  refine va_get (D := G) (ci := 5) (v := .int 0) (C := RX5) (T := TX5) (N := 2) hx hb hts iX5 hown hK hP 4 rfl rfl 1 (by decide) (hts _ m_184) (fun _ h9 => h9) rfl dX7_split_23 ?_
  refine lv_icmp_ge (tgt := 99) hx hb dX7_split_26 (by decide) (fun _ => ?_) (fun c => absurd (by decide) c)
  refine lv_aload_n hx hb dX7_split_99 rfl (lv_at hl 2 rfl) ?_
  refine lv_iconst (v := 0) hx hb dX7_split_100 (by decide) ?_
  refine lv_aload_n hx hb dX7_split_101 rfl (lv_at hl 3 rfl) ?_
  refine va_get (D := G) (ci := 5) (v := .int 0) (C := RX5) (T := TX5) (N := 2) hx hb hts iX5 hown hK hP 4 rfl rfl 1 (by decide) (hts _ m_184) (fun _ h9 => h9) rfl dX7_split_102 ?_
  refine lv_iconst (v := 0) hx hb dX7_split_105 (by decide) ?_
  refine gw_callv (gw_runV (As := [.int 0, .int 0, .int 0]) (rest := []) ⟨hx, hb, hml, hown, hts⟩ (c_add0 l G cI cJ cZ cB cT q  H.size) (gG_V m_186 m_187 m_188 m_189 m_185) rfl e_X7_add ⟨Nat.le_of_ble_eq_true rfl, Nat.le_of_ble_eq_true rfl⟩ hK hP hD [0, 1, 2, 3] rfl (by decide) rfl 0 rfl rfl rfl hl.1 rfl (Nat.le_of_ble_eq_true rfl) dX7_split_106 ⟨Nat.le_of_ble_eq_true rfl, Nat.le_of_ble_eq_true rfl⟩) hP hD hS hA [0, 1, 2, 3] [4, 5] rfl rfl (by decide) (by decide) (fun u_1 H locs hw_1 hP hD hS => ?_)
  have hP : va_P G vwCl [((q 9), .inr (5, [.ref (q 10), .int 0])), ((q 10), .inl (cI, 300, .inl (fun _ => 0))), ((q 11), .inr (7, [.ref (q 12), .ref (q 13), .ref (q 14), .int 1, .int 0])), ((q 12), .inl (cI, 301, .inl (upd (fun _ => 0) 0 0))), ((q 13), .inl (cI, 301, .inl (upd (fun _ => 0) 0 0))), ((q 14), .inl (cI, 301, .inl (upd (fun _ => 0) 0 0)))] H := hP
  have hD : va_D A [((q 9), .inr (5, [.ref (q 10), .int 0])), ((q 10), .inl (cI, 300, .inl (fun _ => 0))), ((q 11), .inr (7, [.ref (q 12), .ref (q 13), .ref (q 14), .int 1, .int 0])), ((q 12), .inl (cI, 301, .inl (upd (fun _ => 0) 0 0))), ((q 13), .inl (cI, 301, .inl (upd (fun _ => 0) 0 0))), ((q 14), .inl (cI, 301, .inl (upd (fun _ => 0) 0 0)))] := hD
  exact gw_vret () hx hb hr hlocks (hP.sub [2, 3, 4, 5, 0, 1] rfl) (hD.sub [2, 3, 4, 5, 0, 1] (by decide) rfl) hS trivial dX7_split_109
set_option maxHeartbeats 4000000 in
set_option maxRecDepth 100000 in
theorem c_kind0 (l : Launch) (G : va_G) (cI cJ cZ cB cT : ClassId) (q : Nat → Nat)  : gMi l yX7_kind (gws yX7_kind cX7_kind 1 (some .int)) 1 G (gT cI cJ cZ cB cT) [.ref (q 11)] [((q 11), .inr (7, [.ref (q 12), .ref (q 13), .ref (q 14), .int 1, .int 0])), ((q 12), .inl (cI, 301, .inl (upd (fun _ => 0) 0 0))), ((q 13), .inl (cI, 301, .inl (upd (fun _ => 0) 0 0))), ((q 14), .inl (cI, 301, .inl (upd (fun _ => 0) 0 0)))] (fun r (_ : Unit) => r = 0) (fun (_ : Unit) => ([((q 11), .inr (7, [.ref (q 12), .ref (q 13), .ref (q 14), .int 1, .int 0])), ((q 12), .inl (cI, 301, .inl (upd (fun _ => 0) 0 0))), ((q 13), .inl (cI, 301, .inl (upd (fun _ => 0) 0 0))), ((q 14), .inl (cI, 301, .inl (upd (fun _ => 0) 0 0)))] : va_W)) := by
  intro sz
  refine gM_start (y := yX7_kind) (av := [.ref (q 11)]) (ws := [((q 11), .inr (7, [.ref (q 12), .ref (q 13), .ref (q 14), .int 1, .int 0])), ((q 12), .inl (cI, 301, .inl (upd (fun _ => 0) 0 0))), ((q 13), .inl (cI, 301, .inl (upd (fun _ => 0) 0 0))), ((q 14), .inl (cI, 301, .inl (upd (fun _ => 0) 0 0)))]) (Qf := fun A => va_Qi (fun r (_ : Unit) => r = 0) (gB G (fun (_ : Unit) => ([((q 11), .inr (7, [.ref (q 12), .ref (q 13), .ref (q 14), .int 1, .int 0])), ((q 12), .inl (cI, 301, .inl (upd (fun _ => 0) 0 0))), ((q 13), .inl (cI, 301, .inl (upd (fun _ => 0) 0 0))), ((q 14), .inl (cI, 301, .inl (upd (fun _ => 0) 0 0)))] : va_W)) A) A) (cc := cX7_kind) (maxL := 1) (ret := (some .int)) (by decide) (Nat.le_of_ble_eq_true rfl) ?_
  intro p e s m args below meth c A ls H hx hb hr hts hown hin hlocks hml hP hK hD hA hS hl
  have hl : lv_has ls 1 [(0, .ref (q 11))] := hl
  refine lv_aload_n hx hb dX7_kind_0 rfl (lv_at hl 0 rfl) ?_
  refine va_get (D := G) (ci := 7) (v := .int 0) (C := RX7) (T := TX7) (N := 5) hx hb hts iX7 hown hK hP 0 rfl rfl 4 (by decide) (hts _ m_183) (fun _ h9 => h9) rfl dX7_kind_1 ?_
  refine lv_aload_n hx hb dX7_kind_4 rfl (lv_at hl 0 rfl) ?_
  refine va_get (D := G) (ci := 7) (v := .int 1) (C := RX7) (T := TX7) (N := 5) hx hb hts iX7 hown hK hP 0 rfl rfl 3 (by decide) (hts _ m_179) (fun _ h9 => h9) rfl dX7_kind_5 ?_
  refine lv_icmp_ge (tgt := 35) hx hb dX7_kind_8 (by decide) (fun c => absurd c (by decide)) (fun _ => ?_)
  refine lv_aload_n hx hb dX7_kind_11 rfl (lv_at hl 0 rfl) ?_
  refine va_get (D := G) (ci := 7) (v := .int 0) (C := RX7) (T := TX7) (N := 5) hx hb hts iX7 hown hK hP 0 rfl rfl 4 (by decide) (hts _ m_183) (fun _ h9 => h9) rfl dX7_kind_12 ?_
  refine lv_aload_n hx hb dX7_kind_15 rfl (lv_at hl 0 rfl) ?_
  refine va_get (D := G) (ci := 7) (v := .ref (q 12)) (C := RX7) (T := TX7) (N := 5) hx hb hts iX7 hown hK hP 0 rfl rfl 0 (by decide) (hts _ m_180) (fun _ h9 => h9) rfl dX7_kind_16 ?_
  refine va_alen (D := G) hx hb hK hP 1 0 rfl rfl (v := 301) rfl dX7_kind_19 ?_
  refine lv_icmp_ge (tgt := 35) hx hb dX7_kind_20 (by decide) (fun c => absurd c (by decide)) (fun _ => ?_)
  refine lv_aload_n hx hb dX7_kind_23 rfl (lv_at hl 0 rfl) ?_
  refine va_get (D := G) (ci := 7) (v := .ref (q 12)) (C := RX7) (T := TX7) (N := 5) hx hb hts iX7 hown hK hP 0 rfl rfl 0 (by decide) (hts _ m_180) (fun _ h9 => h9) rfl dX7_kind_24 ?_
  refine lv_aload_n hx hb dX7_kind_27 rfl (lv_at hl 0 rfl) ?_
  refine va_get (D := G) (ci := 7) (v := .int 0) (C := RX7) (T := TX7) (N := 5) hx hb hts iX7 hown hK hP 0 rfl rfl 4 (by decide) (hts _ m_183) (fun _ h9 => h9) rfl dX7_kind_28 ?_
  refine gw_iald (x := 0) hx hb hK hP 1 0 0 rfl rfl rfl (by decide) (by decide) rfl dX7_kind_31 ?_
  refine lv_goto (tgt := 36) hx hb dX7_kind_32 (by decide) ?_
  exact gw_iret () hx hb hr hlocks hP hD hS rfl dX7_kind_36
set_option maxHeartbeats 4000000 in
set_option maxRecDepth 100000 in
theorem c_clear0 (l : Launch) (G : va_G) (cI cJ cZ cB cT : ClassId) (q : Nat → Nat)  : gMv l yX6_clear (gws yX6_clear cX6_clear 2 none) 1 G (gT cI cJ cZ cB cT) [.ref (q 32)] [((q 32), .inr (6, [.ref (q 33), .int 0, .ref (q 34), .ref (q 35), .ref (q 36), .int 0])), ((q 35), .inl (cI, 4, .inl (fun _ => 0))), ((q 36), .inl (cI, 4, .inl (fun _ => 0)))] (fun (_ : Unit) => True) (fun (_ : Unit) => ([((q 32), .inr (6, [.ref (q 33), .int 0, .ref (q 34), .ref (q 35), .ref (q 36), .int 0])), ((q 35), .inl (cI, 4, .inl (upd (upd (upd (upd (fun _ => 0) 0 (-1)) 1 (-1)) 2 (-1)) 3 (-1)))), ((q 36), .inl (cI, 4, .inl (upd (upd (upd (upd (fun _ => 0) 0 (-1)) 1 (-1)) 2 (-1)) 3 (-1))))] : va_W)) := by
  intro sz
  refine gM_start (y := yX6_clear) (av := [.ref (q 32)]) (ws := [((q 32), .inr (6, [.ref (q 33), .int 0, .ref (q 34), .ref (q 35), .ref (q 36), .int 0])), ((q 35), .inl (cI, 4, .inl (fun _ => 0))), ((q 36), .inl (cI, 4, .inl (fun _ => 0)))]) (Qf := fun A => va_Qv (fun (_ : Unit) => True) (gB G (fun (_ : Unit) => ([((q 32), .inr (6, [.ref (q 33), .int 0, .ref (q 34), .ref (q 35), .ref (q 36), .int 0])), ((q 35), .inl (cI, 4, .inl (upd (upd (upd (upd (fun _ => 0) 0 (-1)) 1 (-1)) 2 (-1)) 3 (-1)))), ((q 36), .inl (cI, 4, .inl (upd (upd (upd (upd (fun _ => 0) 0 (-1)) 1 (-1)) 2 (-1)) 3 (-1))))] : va_W)) A) A) (cc := cX6_clear) (maxL := 2) (ret := none) (by decide) (Nat.le_of_ble_eq_true rfl) ?_
  intro p e s m args below meth c A ls H hx hb hr hts hown hin hlocks hml hP hK hD hA hS hl
  have hl : lv_has ls 2 [(0, .ref (q 32))] := hl
  refine lv_aload_n hx hb dX6_clear_0 rfl (lv_at hl 0 rfl) ?_
  refine lv_iconst (v := 0) hx hb dX6_clear_1 (by decide) ?_
  refine va_put (D := G) (ci := 6) (v := .int 0) (ty := .int) (C := RX6) (T := TX6) (N := 6) hx hb hts iX6 tyX6 tyX6_ok nmX6 hown hK hP hD hS 0 rfl rfl 1 (by decide) (hts _ m_190) (fun _ h9 => h9) rfl (tyX6_ok 1 (by decide)) rfl rfl (Nat.le_of_ble_eq_true rfl) dX6_clear_2 (fun H locs hP hD hS => ?_)
  have hP : va_P G vwCl [((q 32), .inr (6, [.ref (q 33), .int 0, .ref (q 34), .ref (q 35), .ref (q 36), .int 0])), ((q 35), .inl (cI, 4, .inl (fun _ => 0))), ((q 36), .inl (cI, 4, .inl (fun _ => 0)))] H := hP
  have hD : va_D A [((q 32), .inr (6, [.ref (q 33), .int 0, .ref (q 34), .ref (q 35), .ref (q 36), .int 0])), ((q 35), .inl (cI, 4, .inl (fun _ => 0))), ((q 36), .inl (cI, 4, .inl (fun _ => 0)))] := hD
  refine lv_aload_n hx hb dX6_clear_5 rfl (lv_at hl 0 rfl) ?_
  refine lv_iconst (v := 0) hx hb dX6_clear_6 (by decide) ?_
  refine va_put (D := G) (ci := 6) (v := .int 0) (ty := .int) (C := RX6) (T := TX6) (N := 6) hx hb hts iX6 tyX6 tyX6_ok nmX6 hown hK hP hD hS 0 rfl rfl 5 (by decide) (hts _ m_191) (fun _ h9 => h9) rfl (tyX6_ok 5 (by decide)) rfl rfl (Nat.le_of_ble_eq_true rfl) dX6_clear_7 (fun H locs hP hD hS => ?_)
  have hP : va_P G vwCl [((q 32), .inr (6, [.ref (q 33), .int 0, .ref (q 34), .ref (q 35), .ref (q 36), .int 0])), ((q 35), .inl (cI, 4, .inl (fun _ => 0))), ((q 36), .inl (cI, 4, .inl (fun _ => 0)))] H := hP
  have hD : va_D A [((q 32), .inr (6, [.ref (q 33), .int 0, .ref (q 34), .ref (q 35), .ref (q 36), .int 0])), ((q 35), .inl (cI, 4, .inl (fun _ => 0))), ((q 36), .inl (cI, 4, .inl (fun _ => 0)))] := hD
  refine lv_iconst (v := 0) hx hb dX6_clear_10 (by decide) ?_
  refine lv_istore_n (lv' := [(1, .int 0), (0, .ref (q 32))]) hx hb dX6_clear_11 rfl hl (by decide) rfl (fun ls hl => ?_)
  refine lv_iload_n hx hb dX6_clear_12 rfl (lv_at hl 0 rfl) ?_
  refine lv_iconst (v := 4) hx hb dX6_clear_13 (by decide) ?_
  refine lv_icmp_ge (tgt := 37) hx hb dX6_clear_14 (by decide) (fun c => absurd c (by decide)) (fun _ => ?_)
  refine lv_aload_n hx hb dX6_clear_17 rfl (lv_at hl 1 rfl) ?_
  refine va_get (D := G) (ci := 6) (v := .ref (q 35)) (C := RX6) (T := TX6) (N := 6) hx hb hts iX6 hown hK hP 0 rfl rfl 3 (by decide) (hts _ m_192) (fun _ h9 => h9) rfl dX6_clear_18 ?_
  refine lv_iload_n hx hb dX6_clear_21 rfl (lv_at hl 0 rfl) ?_
  refine lv_iconst (v := (-1)) hx hb dX6_clear_22 (by decide) ?_
  refine gw_iast hx hb hK hP hD hS 1 0 0 rfl rfl rfl (by decide) (by decide) dX6_clear_23 (fun H locs hP hD hS => ?_)
  have hP : va_P G vwCl [((q 32), .inr (6, [.ref (q 33), .int 0, .ref (q 34), .ref (q 35), .ref (q 36), .int 0])), ((q 35), .inl (cI, 4, .inl (upd (fun _ => 0) 0 (-1)))), ((q 36), .inl (cI, 4, .inl (fun _ => 0)))] H := hP
  have hD : va_D A [((q 32), .inr (6, [.ref (q 33), .int 0, .ref (q 34), .ref (q 35), .ref (q 36), .int 0])), ((q 35), .inl (cI, 4, .inl (upd (fun _ => 0) 0 (-1)))), ((q 36), .inl (cI, 4, .inl (fun _ => 0)))] := hD
  refine lv_aload_n hx hb dX6_clear_24 rfl (lv_at hl 1 rfl) ?_
  refine va_get (D := G) (ci := 6) (v := .ref (q 36)) (C := RX6) (T := TX6) (N := 6) hx hb hts iX6 hown hK hP 0 rfl rfl 4 (by decide) (hts _ m_193) (fun _ h9 => h9) rfl dX6_clear_25 ?_
  refine lv_iload_n hx hb dX6_clear_28 rfl (lv_at hl 0 rfl) ?_
  refine lv_iconst (v := (-1)) hx hb dX6_clear_29 (by decide) ?_
  refine gw_iast hx hb hK hP hD hS 2 0 0 rfl rfl rfl (by decide) (by decide) dX6_clear_30 (fun H locs hP hD hS => ?_)
  have hP : va_P G vwCl [((q 32), .inr (6, [.ref (q 33), .int 0, .ref (q 34), .ref (q 35), .ref (q 36), .int 0])), ((q 35), .inl (cI, 4, .inl (upd (fun _ => 0) 0 (-1)))), ((q 36), .inl (cI, 4, .inl (upd (fun _ => 0) 0 (-1))))] H := hP
  have hD : va_D A [((q 32), .inr (6, [.ref (q 33), .int 0, .ref (q 34), .ref (q 35), .ref (q 36), .int 0])), ((q 35), .inl (cI, 4, .inl (upd (fun _ => 0) 0 (-1)))), ((q 36), .inl (cI, 4, .inl (upd (fun _ => 0) 0 (-1))))] := hD
  refine lv_iinc (v := 1) (lv' := [(1, .int 1), (0, .ref (q 32))]) hx hb dX6_clear_31 hl (k := 0) rfl (by decide) (by decide) rfl (fun ls hl => ?_)
  refine lv_goto (tgt := 12) hx hb dX6_clear_34 (by decide) ?_
  refine lv_iload_n hx hb dX6_clear_12 rfl (lv_at hl 0 rfl) ?_
  refine lv_iconst (v := 4) hx hb dX6_clear_13 (by decide) ?_
  refine lv_icmp_ge (tgt := 37) hx hb dX6_clear_14 (by decide) (fun c => absurd c (by decide)) (fun _ => ?_)
  refine lv_aload_n hx hb dX6_clear_17 rfl (lv_at hl 1 rfl) ?_
  refine va_get (D := G) (ci := 6) (v := .ref (q 35)) (C := RX6) (T := TX6) (N := 6) hx hb hts iX6 hown hK hP 0 rfl rfl 3 (by decide) (hts _ m_192) (fun _ h9 => h9) rfl dX6_clear_18 ?_
  refine lv_iload_n hx hb dX6_clear_21 rfl (lv_at hl 0 rfl) ?_
  refine lv_iconst (v := (-1)) hx hb dX6_clear_22 (by decide) ?_
  refine gw_iast hx hb hK hP hD hS 1 0 1 rfl rfl rfl (by decide) (by decide) dX6_clear_23 (fun H locs hP hD hS => ?_)
  have hP : va_P G vwCl [((q 32), .inr (6, [.ref (q 33), .int 0, .ref (q 34), .ref (q 35), .ref (q 36), .int 0])), ((q 35), .inl (cI, 4, .inl (upd (upd (fun _ => 0) 0 (-1)) 1 (-1)))), ((q 36), .inl (cI, 4, .inl (upd (fun _ => 0) 0 (-1))))] H := hP
  have hD : va_D A [((q 32), .inr (6, [.ref (q 33), .int 0, .ref (q 34), .ref (q 35), .ref (q 36), .int 0])), ((q 35), .inl (cI, 4, .inl (upd (upd (fun _ => 0) 0 (-1)) 1 (-1)))), ((q 36), .inl (cI, 4, .inl (upd (fun _ => 0) 0 (-1))))] := hD
  refine lv_aload_n hx hb dX6_clear_24 rfl (lv_at hl 1 rfl) ?_
  refine va_get (D := G) (ci := 6) (v := .ref (q 36)) (C := RX6) (T := TX6) (N := 6) hx hb hts iX6 hown hK hP 0 rfl rfl 4 (by decide) (hts _ m_193) (fun _ h9 => h9) rfl dX6_clear_25 ?_
  refine lv_iload_n hx hb dX6_clear_28 rfl (lv_at hl 0 rfl) ?_
  refine lv_iconst (v := (-1)) hx hb dX6_clear_29 (by decide) ?_
  refine gw_iast hx hb hK hP hD hS 2 0 1 rfl rfl rfl (by decide) (by decide) dX6_clear_30 (fun H locs hP hD hS => ?_)
  have hP : va_P G vwCl [((q 32), .inr (6, [.ref (q 33), .int 0, .ref (q 34), .ref (q 35), .ref (q 36), .int 0])), ((q 35), .inl (cI, 4, .inl (upd (upd (fun _ => 0) 0 (-1)) 1 (-1)))), ((q 36), .inl (cI, 4, .inl (upd (upd (fun _ => 0) 0 (-1)) 1 (-1))))] H := hP
  have hD : va_D A [((q 32), .inr (6, [.ref (q 33), .int 0, .ref (q 34), .ref (q 35), .ref (q 36), .int 0])), ((q 35), .inl (cI, 4, .inl (upd (upd (fun _ => 0) 0 (-1)) 1 (-1)))), ((q 36), .inl (cI, 4, .inl (upd (upd (fun _ => 0) 0 (-1)) 1 (-1))))] := hD
  refine lv_iinc (v := 2) (lv' := [(1, .int 2), (0, .ref (q 32))]) hx hb dX6_clear_31 hl (k := 0) rfl (by decide) (by decide) rfl (fun ls hl => ?_)
  refine lv_goto (tgt := 12) hx hb dX6_clear_34 (by decide) ?_
  refine lv_iload_n hx hb dX6_clear_12 rfl (lv_at hl 0 rfl) ?_
  refine lv_iconst (v := 4) hx hb dX6_clear_13 (by decide) ?_
  refine lv_icmp_ge (tgt := 37) hx hb dX6_clear_14 (by decide) (fun c => absurd c (by decide)) (fun _ => ?_)
  refine lv_aload_n hx hb dX6_clear_17 rfl (lv_at hl 1 rfl) ?_
  refine va_get (D := G) (ci := 6) (v := .ref (q 35)) (C := RX6) (T := TX6) (N := 6) hx hb hts iX6 hown hK hP 0 rfl rfl 3 (by decide) (hts _ m_192) (fun _ h9 => h9) rfl dX6_clear_18 ?_
  refine lv_iload_n hx hb dX6_clear_21 rfl (lv_at hl 0 rfl) ?_
  refine lv_iconst (v := (-1)) hx hb dX6_clear_22 (by decide) ?_
  refine gw_iast hx hb hK hP hD hS 1 0 2 rfl rfl rfl (by decide) (by decide) dX6_clear_23 (fun H locs hP hD hS => ?_)
  have hP : va_P G vwCl [((q 32), .inr (6, [.ref (q 33), .int 0, .ref (q 34), .ref (q 35), .ref (q 36), .int 0])), ((q 35), .inl (cI, 4, .inl (upd (upd (upd (fun _ => 0) 0 (-1)) 1 (-1)) 2 (-1)))), ((q 36), .inl (cI, 4, .inl (upd (upd (fun _ => 0) 0 (-1)) 1 (-1))))] H := hP
  have hD : va_D A [((q 32), .inr (6, [.ref (q 33), .int 0, .ref (q 34), .ref (q 35), .ref (q 36), .int 0])), ((q 35), .inl (cI, 4, .inl (upd (upd (upd (fun _ => 0) 0 (-1)) 1 (-1)) 2 (-1)))), ((q 36), .inl (cI, 4, .inl (upd (upd (fun _ => 0) 0 (-1)) 1 (-1))))] := hD
  refine lv_aload_n hx hb dX6_clear_24 rfl (lv_at hl 1 rfl) ?_
  refine va_get (D := G) (ci := 6) (v := .ref (q 36)) (C := RX6) (T := TX6) (N := 6) hx hb hts iX6 hown hK hP 0 rfl rfl 4 (by decide) (hts _ m_193) (fun _ h9 => h9) rfl dX6_clear_25 ?_
  refine lv_iload_n hx hb dX6_clear_28 rfl (lv_at hl 0 rfl) ?_
  refine lv_iconst (v := (-1)) hx hb dX6_clear_29 (by decide) ?_
  refine gw_iast hx hb hK hP hD hS 2 0 2 rfl rfl rfl (by decide) (by decide) dX6_clear_30 (fun H locs hP hD hS => ?_)
  have hP : va_P G vwCl [((q 32), .inr (6, [.ref (q 33), .int 0, .ref (q 34), .ref (q 35), .ref (q 36), .int 0])), ((q 35), .inl (cI, 4, .inl (upd (upd (upd (fun _ => 0) 0 (-1)) 1 (-1)) 2 (-1)))), ((q 36), .inl (cI, 4, .inl (upd (upd (upd (fun _ => 0) 0 (-1)) 1 (-1)) 2 (-1))))] H := hP
  have hD : va_D A [((q 32), .inr (6, [.ref (q 33), .int 0, .ref (q 34), .ref (q 35), .ref (q 36), .int 0])), ((q 35), .inl (cI, 4, .inl (upd (upd (upd (fun _ => 0) 0 (-1)) 1 (-1)) 2 (-1)))), ((q 36), .inl (cI, 4, .inl (upd (upd (upd (fun _ => 0) 0 (-1)) 1 (-1)) 2 (-1))))] := hD
  refine lv_iinc (v := 3) (lv' := [(1, .int 3), (0, .ref (q 32))]) hx hb dX6_clear_31 hl (k := 0) rfl (by decide) (by decide) rfl (fun ls hl => ?_)
  refine lv_goto (tgt := 12) hx hb dX6_clear_34 (by decide) ?_
  refine lv_iload_n hx hb dX6_clear_12 rfl (lv_at hl 0 rfl) ?_
  refine lv_iconst (v := 4) hx hb dX6_clear_13 (by decide) ?_
  refine lv_icmp_ge (tgt := 37) hx hb dX6_clear_14 (by decide) (fun c => absurd c (by decide)) (fun _ => ?_)
  refine lv_aload_n hx hb dX6_clear_17 rfl (lv_at hl 1 rfl) ?_
  refine va_get (D := G) (ci := 6) (v := .ref (q 35)) (C := RX6) (T := TX6) (N := 6) hx hb hts iX6 hown hK hP 0 rfl rfl 3 (by decide) (hts _ m_192) (fun _ h9 => h9) rfl dX6_clear_18 ?_
  refine lv_iload_n hx hb dX6_clear_21 rfl (lv_at hl 0 rfl) ?_
  refine lv_iconst (v := (-1)) hx hb dX6_clear_22 (by decide) ?_
  refine gw_iast hx hb hK hP hD hS 1 0 3 rfl rfl rfl (by decide) (by decide) dX6_clear_23 (fun H locs hP hD hS => ?_)
  have hP : va_P G vwCl [((q 32), .inr (6, [.ref (q 33), .int 0, .ref (q 34), .ref (q 35), .ref (q 36), .int 0])), ((q 35), .inl (cI, 4, .inl (upd (upd (upd (upd (fun _ => 0) 0 (-1)) 1 (-1)) 2 (-1)) 3 (-1)))), ((q 36), .inl (cI, 4, .inl (upd (upd (upd (fun _ => 0) 0 (-1)) 1 (-1)) 2 (-1))))] H := hP
  have hD : va_D A [((q 32), .inr (6, [.ref (q 33), .int 0, .ref (q 34), .ref (q 35), .ref (q 36), .int 0])), ((q 35), .inl (cI, 4, .inl (upd (upd (upd (upd (fun _ => 0) 0 (-1)) 1 (-1)) 2 (-1)) 3 (-1)))), ((q 36), .inl (cI, 4, .inl (upd (upd (upd (fun _ => 0) 0 (-1)) 1 (-1)) 2 (-1))))] := hD
  refine lv_aload_n hx hb dX6_clear_24 rfl (lv_at hl 1 rfl) ?_
  refine va_get (D := G) (ci := 6) (v := .ref (q 36)) (C := RX6) (T := TX6) (N := 6) hx hb hts iX6 hown hK hP 0 rfl rfl 4 (by decide) (hts _ m_193) (fun _ h9 => h9) rfl dX6_clear_25 ?_
  refine lv_iload_n hx hb dX6_clear_28 rfl (lv_at hl 0 rfl) ?_
  refine lv_iconst (v := (-1)) hx hb dX6_clear_29 (by decide) ?_
  refine gw_iast hx hb hK hP hD hS 2 0 3 rfl rfl rfl (by decide) (by decide) dX6_clear_30 (fun H locs hP hD hS => ?_)
  have hP : va_P G vwCl [((q 32), .inr (6, [.ref (q 33), .int 0, .ref (q 34), .ref (q 35), .ref (q 36), .int 0])), ((q 35), .inl (cI, 4, .inl (upd (upd (upd (upd (fun _ => 0) 0 (-1)) 1 (-1)) 2 (-1)) 3 (-1)))), ((q 36), .inl (cI, 4, .inl (upd (upd (upd (upd (fun _ => 0) 0 (-1)) 1 (-1)) 2 (-1)) 3 (-1))))] H := hP
  have hD : va_D A [((q 32), .inr (6, [.ref (q 33), .int 0, .ref (q 34), .ref (q 35), .ref (q 36), .int 0])), ((q 35), .inl (cI, 4, .inl (upd (upd (upd (upd (fun _ => 0) 0 (-1)) 1 (-1)) 2 (-1)) 3 (-1)))), ((q 36), .inl (cI, 4, .inl (upd (upd (upd (upd (fun _ => 0) 0 (-1)) 1 (-1)) 2 (-1)) 3 (-1))))] := hD
  refine lv_iinc (v := 4) (lv' := [(1, .int 4), (0, .ref (q 32))]) hx hb dX6_clear_31 hl (k := 0) rfl (by decide) (by decide) rfl (fun ls hl => ?_)
  refine lv_goto (tgt := 12) hx hb dX6_clear_34 (by decide) ?_
  refine lv_iload_n hx hb dX6_clear_12 rfl (lv_at hl 0 rfl) ?_
  refine lv_iconst (v := 4) hx hb dX6_clear_13 (by decide) ?_
  refine lv_icmp_ge (tgt := 37) hx hb dX6_clear_14 (by decide) (fun _ => ?_) (fun c => absurd (by decide) c)
  exact gw_vret () hx hb hr hlocks hP hD hS trivial dX6_clear_37
theorem e_X6_clear : yX6_clear.cls = RX6 ∧ yX6_clear.cls ≠ "java/lang/invoke/MethodHandle" ∧ yX6_clear.cls ≠ "java/lang/invoke/VarHandle" ∧ (parseMethodDescriptor yX6_clear.desc).map (fun d => d.parameters.length) = some 0 := by decide +kernel
theorem e_X7_kind : yX7_kind.cls = RX7 ∧ yX7_kind.cls ≠ "java/lang/invoke/MethodHandle" ∧ yX7_kind.cls ≠ "java/lang/invoke/VarHandle" ∧ (parseMethodDescriptor yX7_kind.desc).map (fun d => d.parameters.length) = some 0 := by decide +kernel
set_option maxHeartbeats 4000000 in
set_option maxRecDepth 100000 in
theorem c_parse0 (l : Launch) (G : va_G) (cI cJ cZ cB cT : ClassId) (q : Nat → Nat)  : gMv l yX2_parse (gws yX2_parse cX2_parse 4 none) 2 G (gT cI cJ cZ cB cT) [.ref (q 15), .ref (q 11), .ref (q 32)] [((q 15), .inr (2, [.int (-1), .int (-1), .int (-1)])), ((q 11), .inr (7, [.ref (q 12), .ref (q 13), .ref (q 14), .int 1, .int 0])), ((q 12), .inl (cI, 301, .inl (upd (fun _ => 0) 0 0))), ((q 13), .inl (cI, 301, .inl (upd (fun _ => 0) 0 0))), ((q 14), .inl (cI, 301, .inl (upd (fun _ => 0) 0 0))), ((q 32), .inr (6, [.ref (q 33), .int 0, .ref (q 34), .ref (q 35), .ref (q 36), .int 0])), ((q 35), .inl (cI, 4, .inl (fun _ => 0))), ((q 36), .inl (cI, 4, .inl (fun _ => 0)))] (fun (_ : Unit) => True) (fun (_ : Unit) => ([((q 15), .inr (2, [.int 0, .int (-1), .int (-1)])), ((q 11), .inr (7, [.ref (q 12), .ref (q 13), .ref (q 14), .int 1, .int 0])), ((q 12), .inl (cI, 301, .inl (upd (fun _ => 0) 0 0))), ((q 13), .inl (cI, 301, .inl (upd (fun _ => 0) 0 0))), ((q 14), .inl (cI, 301, .inl (upd (fun _ => 0) 0 0))), ((q 32), .inr (6, [.ref (q 33), .int 0, .ref (q 34), .ref (q 35), .ref (q 36), .int 0])), ((q 35), .inl (cI, 4, .inl (upd (upd (upd (upd (fun _ => 0) 0 (-1)) 1 (-1)) 2 (-1)) 3 (-1)))), ((q 36), .inl (cI, 4, .inl (upd (upd (upd (upd (fun _ => 0) 0 (-1)) 1 (-1)) 2 (-1)) 3 (-1))))] : va_W)) := by
  intro sz
  refine gM_start (y := yX2_parse) (av := [.ref (q 15), .ref (q 11), .ref (q 32)]) (ws := [((q 15), .inr (2, [.int (-1), .int (-1), .int (-1)])), ((q 11), .inr (7, [.ref (q 12), .ref (q 13), .ref (q 14), .int 1, .int 0])), ((q 12), .inl (cI, 301, .inl (upd (fun _ => 0) 0 0))), ((q 13), .inl (cI, 301, .inl (upd (fun _ => 0) 0 0))), ((q 14), .inl (cI, 301, .inl (upd (fun _ => 0) 0 0))), ((q 32), .inr (6, [.ref (q 33), .int 0, .ref (q 34), .ref (q 35), .ref (q 36), .int 0])), ((q 35), .inl (cI, 4, .inl (fun _ => 0))), ((q 36), .inl (cI, 4, .inl (fun _ => 0)))]) (Qf := fun A => va_Qv (fun (_ : Unit) => True) (gB G (fun (_ : Unit) => ([((q 15), .inr (2, [.int 0, .int (-1), .int (-1)])), ((q 11), .inr (7, [.ref (q 12), .ref (q 13), .ref (q 14), .int 1, .int 0])), ((q 12), .inl (cI, 301, .inl (upd (fun _ => 0) 0 0))), ((q 13), .inl (cI, 301, .inl (upd (fun _ => 0) 0 0))), ((q 14), .inl (cI, 301, .inl (upd (fun _ => 0) 0 0))), ((q 32), .inr (6, [.ref (q 33), .int 0, .ref (q 34), .ref (q 35), .ref (q 36), .int 0])), ((q 35), .inl (cI, 4, .inl (upd (upd (upd (upd (fun _ => 0) 0 (-1)) 1 (-1)) 2 (-1)) 3 (-1)))), ((q 36), .inl (cI, 4, .inl (upd (upd (upd (upd (fun _ => 0) 0 (-1)) 1 (-1)) 2 (-1)) 3 (-1))))] : va_W)) A) A) (cc := cX2_parse) (maxL := 4) (ret := none) (by decide) (Nat.le_of_ble_eq_true rfl) ?_
  intro p e s m args below meth c A ls H hx hb hr hts hown hin hlocks hml hP hK hD hA hS hl
  have hl : lv_has ls 4 [(0, .ref (q 15)), (1, .ref (q 11)), (2, .ref (q 32))] := hl
  refine lv_aload_n hx hb dX2_parse_0 rfl (lv_at hl 0 rfl) ?_
  refine lv_iconst (v := 0) hx hb dX2_parse_1 (by decide) ?_
  refine va_put (D := G) (ci := 2) (v := .int 0) (ty := .int) (C := RX2) (T := TX2) (N := 3) hx hb hts iX2 tyX2 tyX2_ok nmX2 hown hK hP hD hS 0 rfl rfl 0 (by decide) (hts _ m_194) (fun _ h9 => h9) rfl (tyX2_ok 0 (by decide)) rfl rfl (Nat.le_of_ble_eq_true rfl) dX2_parse_2 (fun H locs hP hD hS => ?_)
  have hP : va_P G vwCl [((q 15), .inr (2, [.int 0, .int (-1), .int (-1)])), ((q 11), .inr (7, [.ref (q 12), .ref (q 13), .ref (q 14), .int 1, .int 0])), ((q 12), .inl (cI, 301, .inl (upd (fun _ => 0) 0 0))), ((q 13), .inl (cI, 301, .inl (upd (fun _ => 0) 0 0))), ((q 14), .inl (cI, 301, .inl (upd (fun _ => 0) 0 0))), ((q 32), .inr (6, [.ref (q 33), .int 0, .ref (q 34), .ref (q 35), .ref (q 36), .int 0])), ((q 35), .inl (cI, 4, .inl (fun _ => 0))), ((q 36), .inl (cI, 4, .inl (fun _ => 0)))] H := hP
  have hD : va_D A [((q 15), .inr (2, [.int 0, .int (-1), .int (-1)])), ((q 11), .inr (7, [.ref (q 12), .ref (q 13), .ref (q 14), .int 1, .int 0])), ((q 12), .inl (cI, 301, .inl (upd (fun _ => 0) 0 0))), ((q 13), .inl (cI, 301, .inl (upd (fun _ => 0) 0 0))), ((q 14), .inl (cI, 301, .inl (upd (fun _ => 0) 0 0))), ((q 32), .inr (6, [.ref (q 33), .int 0, .ref (q 34), .ref (q 35), .ref (q 36), .int 0])), ((q 35), .inl (cI, 4, .inl (fun _ => 0))), ((q 36), .inl (cI, 4, .inl (fun _ => 0)))] := hD
  refine lv_aload_n hx hb dX2_parse_5 rfl (lv_at hl 0 rfl) ?_
  refine lv_iconst (v := (-1)) hx hb dX2_parse_6 (by decide) ?_
  refine va_put (D := G) (ci := 2) (v := .int (-1)) (ty := .int) (C := RX2) (T := TX2) (N := 3) hx hb hts iX2 tyX2 tyX2_ok nmX2 hown hK hP hD hS 0 rfl rfl 1 (by decide) (hts _ m_195) (fun _ h9 => h9) rfl (tyX2_ok 1 (by decide)) rfl rfl (Nat.le_of_ble_eq_true rfl) dX2_parse_7 (fun H locs hP hD hS => ?_)
  have hP : va_P G vwCl [((q 15), .inr (2, [.int 0, .int (-1), .int (-1)])), ((q 11), .inr (7, [.ref (q 12), .ref (q 13), .ref (q 14), .int 1, .int 0])), ((q 12), .inl (cI, 301, .inl (upd (fun _ => 0) 0 0))), ((q 13), .inl (cI, 301, .inl (upd (fun _ => 0) 0 0))), ((q 14), .inl (cI, 301, .inl (upd (fun _ => 0) 0 0))), ((q 32), .inr (6, [.ref (q 33), .int 0, .ref (q 34), .ref (q 35), .ref (q 36), .int 0])), ((q 35), .inl (cI, 4, .inl (fun _ => 0))), ((q 36), .inl (cI, 4, .inl (fun _ => 0)))] H := hP
  have hD : va_D A [((q 15), .inr (2, [.int 0, .int (-1), .int (-1)])), ((q 11), .inr (7, [.ref (q 12), .ref (q 13), .ref (q 14), .int 1, .int 0])), ((q 12), .inl (cI, 301, .inl (upd (fun _ => 0) 0 0))), ((q 13), .inl (cI, 301, .inl (upd (fun _ => 0) 0 0))), ((q 14), .inl (cI, 301, .inl (upd (fun _ => 0) 0 0))), ((q 32), .inr (6, [.ref (q 33), .int 0, .ref (q 34), .ref (q 35), .ref (q 36), .int 0])), ((q 35), .inl (cI, 4, .inl (fun _ => 0))), ((q 36), .inl (cI, 4, .inl (fun _ => 0)))] := hD
  refine lv_aload_n hx hb dX2_parse_10 rfl (lv_at hl 2 rfl) ?_
  refine gw_callv (gw_runV (As := []) (rest := []) ⟨hx, hb, hml, hown, hts⟩ (c_clear0 l G cI cJ cZ cB cT q  H.size) (gG_V m_197 m_198 m_199 m_200 m_196) rfl e_X6_clear ⟨Nat.le_of_ble_eq_true rfl, Nat.le_of_ble_eq_true rfl⟩ hK hP hD [5, 6, 7] rfl (by decide) rfl 0 rfl rfl rfl hl.1 rfl (Nat.le_of_ble_eq_true rfl) dX2_parse_11 ⟨Nat.le_of_ble_eq_true rfl, Nat.le_of_ble_eq_true rfl⟩) hP hD hS hA [5, 6, 7] [0, 1, 2, 3, 4] rfl rfl (by decide) (by decide) (fun u_1 H locs hw_1 hP hD hS => ?_)
  have hP : va_P G vwCl [((q 15), .inr (2, [.int 0, .int (-1), .int (-1)])), ((q 11), .inr (7, [.ref (q 12), .ref (q 13), .ref (q 14), .int 1, .int 0])), ((q 12), .inl (cI, 301, .inl (upd (fun _ => 0) 0 0))), ((q 13), .inl (cI, 301, .inl (upd (fun _ => 0) 0 0))), ((q 14), .inl (cI, 301, .inl (upd (fun _ => 0) 0 0))), ((q 32), .inr (6, [.ref (q 33), .int 0, .ref (q 34), .ref (q 35), .ref (q 36), .int 0])), ((q 35), .inl (cI, 4, .inl (upd (upd (upd (upd (fun _ => 0) 0 (-1)) 1 (-1)) 2 (-1)) 3 (-1)))), ((q 36), .inl (cI, 4, .inl (upd (upd (upd (upd (fun _ => 0) 0 (-1)) 1 (-1)) 2 (-1)) 3 (-1))))] H := hP
  have hD : va_D A [((q 15), .inr (2, [.int 0, .int (-1), .int (-1)])), ((q 11), .inr (7, [.ref (q 12), .ref (q 13), .ref (q 14), .int 1, .int 0])), ((q 12), .inl (cI, 301, .inl (upd (fun _ => 0) 0 0))), ((q 13), .inl (cI, 301, .inl (upd (fun _ => 0) 0 0))), ((q 14), .inl (cI, 301, .inl (upd (fun _ => 0) 0 0))), ((q 32), .inr (6, [.ref (q 33), .int 0, .ref (q 34), .ref (q 35), .ref (q 36), .int 0])), ((q 35), .inl (cI, 4, .inl (upd (upd (upd (upd (fun _ => 0) 0 (-1)) 1 (-1)) 2 (-1)) 3 (-1)))), ((q 36), .inl (cI, 4, .inl (upd (upd (upd (upd (fun _ => 0) 0 (-1)) 1 (-1)) 2 (-1)) 3 (-1))))] := hD
  refine lv_iconst (v := 0) hx hb dX2_parse_14 (by decide) ?_
  refine lv_istore_n (lv' := [(3, .int 0), (0, .ref (q 15)), (1, .ref (q 11)), (2, .ref (q 32))]) hx hb dX2_parse_15 rfl hl (by decide) rfl (fun ls hl => ?_)
  refine lv_iload_n hx hb dX2_parse_16 rfl (lv_at hl 0 rfl) ?_
  refine lv_bipush (v := 24) hx hb dX2_parse_17 (by decide) ?_
  refine lv_icmp_gt (tgt := 48) hx hb dX2_parse_19 (by decide) (fun c => absurd c (by decide)) (fun _ => ?_)
  refine lv_aload_n hx hb dX2_parse_22 rfl (lv_at hl 1 rfl) ?_
  refine va_get (D := G) (ci := 2) (v := .int 0) (C := RX2) (T := TX2) (N := 3) hx hb hts iX2 hown hK hP 0 rfl rfl 0 (by decide) (hts _ m_194) (fun _ h9 => h9) rfl dX2_parse_23 ?_
  refine lv_if_ne (tgt := 48) hx hb dX2_parse_26 (by decide) (fun c => absurd (by decide) c) (fun _ => ?_)
  refine lv_aload_n hx hb dX2_parse_29 rfl (lv_at hl 2 rfl) ?_
  refine gw_calli (gw_runV (As := []) (rest := []) ⟨hx, hb, hml, hown, hts⟩ (c_kind0 l G cI cJ cZ cB cT q  H.size) (gG_V m_202 m_203 m_204 m_189 m_201) rfl e_X7_kind ⟨Nat.le_of_ble_eq_true rfl, Nat.le_of_ble_eq_true rfl⟩ hK hP hD [1, 2, 3, 4] rfl (by decide) rfl 0 rfl rfl rfl hl.1 rfl (Nat.le_of_ble_eq_true rfl) dX2_parse_30 ⟨Nat.le_of_ble_eq_true rfl, Nat.le_of_ble_eq_true rfl⟩) hP hD hS hA [1, 2, 3, 4] [0, 5, 6, 7] rfl rfl (by decide) (by decide) (fun r_2 u_2 H locs hw_2 hP hD hS => ?_)
  subst hw_2
  have hP : va_P G vwCl [((q 15), .inr (2, [.int 0, .int (-1), .int (-1)])), ((q 32), .inr (6, [.ref (q 33), .int 0, .ref (q 34), .ref (q 35), .ref (q 36), .int 0])), ((q 35), .inl (cI, 4, .inl (upd (upd (upd (upd (fun _ => 0) 0 (-1)) 1 (-1)) 2 (-1)) 3 (-1)))), ((q 36), .inl (cI, 4, .inl (upd (upd (upd (upd (fun _ => 0) 0 (-1)) 1 (-1)) 2 (-1)) 3 (-1)))), ((q 11), .inr (7, [.ref (q 12), .ref (q 13), .ref (q 14), .int 1, .int 0])), ((q 12), .inl (cI, 301, .inl (upd (fun _ => 0) 0 0))), ((q 13), .inl (cI, 301, .inl (upd (fun _ => 0) 0 0))), ((q 14), .inl (cI, 301, .inl (upd (fun _ => 0) 0 0)))] H := hP
  have hD : va_D A [((q 15), .inr (2, [.int 0, .int (-1), .int (-1)])), ((q 32), .inr (6, [.ref (q 33), .int 0, .ref (q 34), .ref (q 35), .ref (q 36), .int 0])), ((q 35), .inl (cI, 4, .inl (upd (upd (upd (upd (fun _ => 0) 0 (-1)) 1 (-1)) 2 (-1)) 3 (-1)))), ((q 36), .inl (cI, 4, .inl (upd (upd (upd (upd (fun _ => 0) 0 (-1)) 1 (-1)) 2 (-1)) 3 (-1)))), ((q 11), .inr (7, [.ref (q 12), .ref (q 13), .ref (q 14), .int 1, .int 0])), ((q 12), .inl (cI, 301, .inl (upd (fun _ => 0) 0 0))), ((q 13), .inl (cI, 301, .inl (upd (fun _ => 0) 0 0))), ((q 14), .inl (cI, 301, .inl (upd (fun _ => 0) 0 0)))] := hD
  refine lv_if_eq (tgt := 48) hx hb dX2_parse_33 (by decide) (fun _ => ?_) (fun c => absurd (by decide) c)
  exact gw_vret () hx hb hr hlocks (hP.sub [0, 4, 5, 6, 7, 1, 2, 3] rfl) (hD.sub [0, 4, 5, 6, 7, 1, 2, 3] (by decide) rfl) hS trivial dX2_parse_48
theorem e_X2_parse : yX2_parse.cls = RX2 ∧ yX2_parse.cls ≠ "java/lang/invoke/MethodHandle" ∧ yX2_parse.cls ≠ "java/lang/invoke/VarHandle" ∧ (parseMethodDescriptor yX2_parse.desc).map (fun d => d.parameters.length) = some 2 := by decide +kernel
theorem e_X7_split : yX7_split.cls = RX7 ∧ yX7_split.cls ≠ "java/lang/invoke/MethodHandle" ∧ yX7_split.cls ≠ "java/lang/invoke/VarHandle" ∧ (parseMethodDescriptor yX7_split.desc).map (fun d => d.parameters.length) = some 1 := by decide +kernel
set_option maxHeartbeats 4000000 in
set_option maxRecDepth 100000 in
theorem c_X8_text (l : Launch) (G : va_G) (cI cJ cZ cB cT : ClassId) (q : Nat → Nat)  : gMi l yX8_text (gws yX8_text cX8_text 2 (some .int)) 3 G (gT cI cJ cZ cB cT) [.ref (q 0)] [((q 0), .inr (8, [.ref (q 1), .ref (q 5), .ref (q 9), .ref (q 11), .ref (q 15), .ref (q 16), .ref (q 20), .ref (q 23)])), ((q 1), .inr (4, [.ref (q 2), .ref (q 3), .ref (q 4), .int 0, .int 0, .int 0, .int 0, .int 0, .int 9, .int 0, .int (-1), .int 0, .int 0])), ((q 2), .inl (cI, 90, .inl (fun _ => 0))), ((q 3), .inl (cI, 12, .inl (fun _ => 0))), ((q 4), .inl (cI, 1880, .inl (fun _ => 0))), ((q 9), .inr (5, [.ref (q 10), .int 0])), ((q 10), .inl (cI, 300, .inl (fun _ => 0))), ((q 11), .inr (7, [.ref (q 12), .ref (q 13), .ref (q 14), .int 0, .int 0])), ((q 12), .inl (cI, 301, .inl (fun _ => 0))), ((q 13), .inl (cI, 301, .inl (fun _ => 0))), ((q 14), .inl (cI, 301, .inl (fun _ => 0))), ((q 15), .inr (2, [.int (-1), .int (-1), .int (-1)])), ((q 16), .inr (1, [.ref (q 17), .ref (q 18), .ref (q 19), .int 0])), ((q 17), .inl (cT, 4, .inr (.inr (.inr (.inr (va_up (va_up (va_up (va_up (fun _ => none) 0 (some (q 32))) 1 (some (q 37))) 2 (some (q 42))) 3 (some (q 47)))))))), ((q 32), .inr (6, [.ref (q 33), .int 0, .ref (q 34), .ref (q 35), .ref (q 36), .int 0])), ((q 35), .inl (cI, 4, .inl (fun _ => 0))), ((q 36), .inl (cI, 4, .inl (fun _ => 0)))] (fun r (_ : Unit) => r = 0) (fun (_ : Unit) => ([] : va_W)) := by
  intro sz
  refine gM_start (y := yX8_text) (av := [.ref (q 0)]) (ws := [((q 0), .inr (8, [.ref (q 1), .ref (q 5), .ref (q 9), .ref (q 11), .ref (q 15), .ref (q 16), .ref (q 20), .ref (q 23)])), ((q 1), .inr (4, [.ref (q 2), .ref (q 3), .ref (q 4), .int 0, .int 0, .int 0, .int 0, .int 0, .int 9, .int 0, .int (-1), .int 0, .int 0])), ((q 2), .inl (cI, 90, .inl (fun _ => 0))), ((q 3), .inl (cI, 12, .inl (fun _ => 0))), ((q 4), .inl (cI, 1880, .inl (fun _ => 0))), ((q 9), .inr (5, [.ref (q 10), .int 0])), ((q 10), .inl (cI, 300, .inl (fun _ => 0))), ((q 11), .inr (7, [.ref (q 12), .ref (q 13), .ref (q 14), .int 0, .int 0])), ((q 12), .inl (cI, 301, .inl (fun _ => 0))), ((q 13), .inl (cI, 301, .inl (fun _ => 0))), ((q 14), .inl (cI, 301, .inl (fun _ => 0))), ((q 15), .inr (2, [.int (-1), .int (-1), .int (-1)])), ((q 16), .inr (1, [.ref (q 17), .ref (q 18), .ref (q 19), .int 0])), ((q 17), .inl (cT, 4, .inr (.inr (.inr (.inr (va_up (va_up (va_up (va_up (fun _ => none) 0 (some (q 32))) 1 (some (q 37))) 2 (some (q 42))) 3 (some (q 47)))))))), ((q 32), .inr (6, [.ref (q 33), .int 0, .ref (q 34), .ref (q 35), .ref (q 36), .int 0])), ((q 35), .inl (cI, 4, .inl (fun _ => 0))), ((q 36), .inl (cI, 4, .inl (fun _ => 0)))]) (Qf := fun A => va_Qi (fun r (_ : Unit) => r = 0) (gB G (fun (_ : Unit) => ([] : va_W)) A) A) (cc := cX8_text) (maxL := 2) (ret := (some .int)) (by decide) (Nat.le_of_ble_eq_true rfl) ?_
  intro p e s m args below meth c A ls H hx hb hr hts hown hin hlocks hml hP hK hD hA hS hl
  have hl : lv_has ls 2 [(0, .ref (q 0))] := hl
  refine lv_aload_n hx hb dX8_text_0 rfl (lv_at hl 0 rfl) ?_
  refine va_get (D := G) (ci := 8) (v := .ref (q 16)) (C := RX8) (T := TX8) (N := 8) hx hb hts iX8 hown hK hP 0 rfl rfl 5 (by decide) (hts _ m_154) (fun _ h9 => h9) rfl dX8_text_1 ?_
  refine lv_aload_n hx hb dX8_text_4 rfl (lv_at hl 0 rfl) ?_
  refine va_get (D := G) (ci := 8) (v := .ref (q 1)) (C := RX8) (T := TX8) (N := 8) hx hb hts iX8 hown hK hP 0 rfl rfl 0 (by decide) (hts _ m_49) (fun _ h9 => h9) rfl dX8_text_5 ?_
  refine va_get (D := G) (ci := 4) (v := .int 0) (C := RX4) (T := TX4) (N := 13) hx hb hts iX4 hown hK hP 1 rfl rfl 9 (by decide) (hts _ m_75) (fun _ h9 => h9) rfl dX8_text_8 ?_
  refine gw_callq (gw_runV (As := [.int 0]) (rest := []) ⟨hx, hb, hml, hown, hts⟩ (c_textOf_0 l G cI cJ cZ cB cT q  H.size) (gG_V m_156 m_157 m_158 m_159 m_155) rfl e_X1_textOf ⟨Nat.le_of_ble_eq_true rfl, Nat.le_of_ble_eq_true rfl⟩ hK hP hD [12, 13] rfl (by decide) rfl 0 rfl rfl rfl hl.1 rfl (Nat.le_of_ble_eq_true rfl) dX8_text_11 ⟨Nat.le_of_ble_eq_true rfl, Nat.le_of_ble_eq_true rfl⟩) hP hD hS hA [12, 13] [0, 1, 2, 3, 4, 5, 6, 7, 8, 9, 10, 11, 14, 15, 16] rfl rfl (by decide) (by decide) (fun r_1 u_1 H locs hw_1 hP hD hS => ?_)
  subst hw_1
  have hP : va_P G vwCl [((q 0), .inr (8, [.ref (q 1), .ref (q 5), .ref (q 9), .ref (q 11), .ref (q 15), .ref (q 16), .ref (q 20), .ref (q 23)])), ((q 1), .inr (4, [.ref (q 2), .ref (q 3), .ref (q 4), .int 0, .int 0, .int 0, .int 0, .int 0, .int 9, .int 0, .int (-1), .int 0, .int 0])), ((q 2), .inl (cI, 90, .inl (fun _ => 0))), ((q 3), .inl (cI, 12, .inl (fun _ => 0))), ((q 4), .inl (cI, 1880, .inl (fun _ => 0))), ((q 9), .inr (5, [.ref (q 10), .int 0])), ((q 10), .inl (cI, 300, .inl (fun _ => 0))), ((q 11), .inr (7, [.ref (q 12), .ref (q 13), .ref (q 14), .int 0, .int 0])), ((q 12), .inl (cI, 301, .inl (fun _ => 0))), ((q 13), .inl (cI, 301, .inl (fun _ => 0))), ((q 14), .inl (cI, 301, .inl (fun _ => 0))), ((q 15), .inr (2, [.int (-1), .int (-1), .int (-1)])), ((q 32), .inr (6, [.ref (q 33), .int 0, .ref (q 34), .ref (q 35), .ref (q 36), .int 0])), ((q 35), .inl (cI, 4, .inl (fun _ => 0))), ((q 36), .inl (cI, 4, .inl (fun _ => 0))), ((q 16), .inr (1, [.ref (q 17), .ref (q 18), .ref (q 19), .int 0])), ((q 17), .inl (cT, 4, .inr (.inr (.inr (.inr (va_up (va_up (va_up (va_up (fun _ => none) 0 (some (q 32))) 1 (some (q 37))) 2 (some (q 42))) 3 (some (q 47))))))))] H := hP
  have hD : va_D A [((q 0), .inr (8, [.ref (q 1), .ref (q 5), .ref (q 9), .ref (q 11), .ref (q 15), .ref (q 16), .ref (q 20), .ref (q 23)])), ((q 1), .inr (4, [.ref (q 2), .ref (q 3), .ref (q 4), .int 0, .int 0, .int 0, .int 0, .int 0, .int 9, .int 0, .int (-1), .int 0, .int 0])), ((q 2), .inl (cI, 90, .inl (fun _ => 0))), ((q 3), .inl (cI, 12, .inl (fun _ => 0))), ((q 4), .inl (cI, 1880, .inl (fun _ => 0))), ((q 9), .inr (5, [.ref (q 10), .int 0])), ((q 10), .inl (cI, 300, .inl (fun _ => 0))), ((q 11), .inr (7, [.ref (q 12), .ref (q 13), .ref (q 14), .int 0, .int 0])), ((q 12), .inl (cI, 301, .inl (fun _ => 0))), ((q 13), .inl (cI, 301, .inl (fun _ => 0))), ((q 14), .inl (cI, 301, .inl (fun _ => 0))), ((q 15), .inr (2, [.int (-1), .int (-1), .int (-1)])), ((q 32), .inr (6, [.ref (q 33), .int 0, .ref (q 34), .ref (q 35), .ref (q 36), .int 0])), ((q 35), .inl (cI, 4, .inl (fun _ => 0))), ((q 36), .inl (cI, 4, .inl (fun _ => 0))), ((q 16), .inr (1, [.ref (q 17), .ref (q 18), .ref (q 19), .int 0])), ((q 17), .inl (cT, 4, .inr (.inr (.inr (.inr (va_up (va_up (va_up (va_up (fun _ => none) 0 (some (q 32))) 1 (some (q 37))) 2 (some (q 42))) 3 (some (q 47))))))))] := hD
  refine W.eq (g2 := F0 m 14 ls [.ref (q 32)]) rfl ?_
  refine lv_astore_n (lv' := [(1, .ref (q 32)), (0, .ref (q 0))]) hx hb dX8_text_14 rfl hl (by decide) rfl (fun ls hl => ?_)
  refine lv_aload_n hx hb dX8_text_15 rfl (lv_at hl 0 rfl) ?_
  refine lv_ifnonnull (tgt := 21) hx hb dX8_text_16 (by decide) ?_
  refine lv_aload_n hx hb dX8_text_21 rfl (lv_at hl 1 rfl) ?_
  refine va_get (D := G) (ci := 8) (v := .ref (q 11)) (C := RX8) (T := TX8) (N := 8) hx hb hts iX8 hown hK hP 0 rfl rfl 3 (by decide) (hts _ m_205) (fun _ h9 => h9) rfl dX8_text_22 ?_
  refine lv_aload_n hx hb dX8_text_25 rfl (lv_at hl 1 rfl) ?_
  refine va_get (D := G) (ci := 8) (v := .ref (q 9)) (C := RX8) (T := TX8) (N := 8) hx hb hts iX8 hown hK hP 0 rfl rfl 2 (by decide) (hts _ m_73) (fun _ h9 => h9) rfl dX8_text_26 ?_
  refine gw_callv (gw_runV (As := [.ref (q 9)]) (rest := []) ⟨hx, hb, hml, hown, hts⟩ (c_split0 l G cI cJ cZ cB cT q  H.size) (gG_V m_207 m_208 m_209 m_189 m_206) rfl e_X7_split ⟨Nat.le_of_ble_eq_true rfl, Nat.le_of_ble_eq_true rfl⟩ hK hP hD [7, 8, 9, 10, 5, 6] rfl (by decide) rfl 0 rfl rfl rfl hl.1 rfl (Nat.le_of_ble_eq_true rfl) dX8_text_29 ⟨Nat.le_of_ble_eq_true rfl, Nat.le_of_ble_eq_true rfl⟩) hP hD hS hA [7, 8, 9, 10, 5, 6] [0, 1, 2, 3, 4, 11, 12, 13, 14, 15, 16] rfl rfl (by decide) (by decide) (fun u_2 H locs hw_2 hP hD hS => ?_)
  have hP : va_P G vwCl [((q 0), .inr (8, [.ref (q 1), .ref (q 5), .ref (q 9), .ref (q 11), .ref (q 15), .ref (q 16), .ref (q 20), .ref (q 23)])), ((q 1), .inr (4, [.ref (q 2), .ref (q 3), .ref (q 4), .int 0, .int 0, .int 0, .int 0, .int 0, .int 9, .int 0, .int (-1), .int 0, .int 0])), ((q 2), .inl (cI, 90, .inl (fun _ => 0))), ((q 3), .inl (cI, 12, .inl (fun _ => 0))), ((q 4), .inl (cI, 1880, .inl (fun _ => 0))), ((q 15), .inr (2, [.int (-1), .int (-1), .int (-1)])), ((q 32), .inr (6, [.ref (q 33), .int 0, .ref (q 34), .ref (q 35), .ref (q 36), .int 0])), ((q 35), .inl (cI, 4, .inl (fun _ => 0))), ((q 36), .inl (cI, 4, .inl (fun _ => 0))), ((q 16), .inr (1, [.ref (q 17), .ref (q 18), .ref (q 19), .int 0])), ((q 17), .inl (cT, 4, .inr (.inr (.inr (.inr (va_up (va_up (va_up (va_up (fun _ => none) 0 (some (q 32))) 1 (some (q 37))) 2 (some (q 42))) 3 (some (q 47)))))))), ((q 11), .inr (7, [.ref (q 12), .ref (q 13), .ref (q 14), .int 1, .int 0])), ((q 12), .inl (cI, 301, .inl (upd (fun _ => 0) 0 0))), ((q 13), .inl (cI, 301, .inl (upd (fun _ => 0) 0 0))), ((q 14), .inl (cI, 301, .inl (upd (fun _ => 0) 0 0))), ((q 9), .inr (5, [.ref (q 10), .int 0])), ((q 10), .inl (cI, 300, .inl (fun _ => 0)))] H := hP
  have hD : va_D A [((q 0), .inr (8, [.ref (q 1), .ref (q 5), .ref (q 9), .ref (q 11), .ref (q 15), .ref (q 16), .ref (q 20), .ref (q 23)])), ((q 1), .inr (4, [.ref (q 2), .ref (q 3), .ref (q 4), .int 0, .int 0, .int 0, .int 0, .int 0, .int 9, .int 0, .int (-1), .int 0, .int 0])), ((q 2), .inl (cI, 90, .inl (fun _ => 0))), ((q 3), .inl (cI, 12, .inl (fun _ => 0))), ((q 4), .inl (cI, 1880, .inl (fun _ => 0))), ((q 15), .inr (2, [.int (-1), .int (-1), .int (-1)])), ((q 32), .inr (6, [.ref (q 33), .int 0, .ref (q 34), .ref (q 35), .ref (q 36), .int 0])), ((q 35), .inl (cI, 4, .inl (fun _ => 0))), ((q 36), .inl (cI, 4, .inl (fun _ => 0))), ((q 16), .inr (1, [.ref (q 17), .ref (q 18), .ref (q 19), .int 0])), ((q 17), .inl (cT, 4, .inr (.inr (.inr (.inr (va_up (va_up (va_up (va_up (fun _ => none) 0 (some (q 32))) 1 (some (q 37))) 2 (some (q 42))) 3 (some (q 47)))))))), ((q 11), .inr (7, [.ref (q 12), .ref (q 13), .ref (q 14), .int 1, .int 0])), ((q 12), .inl (cI, 301, .inl (upd (fun _ => 0) 0 0))), ((q 13), .inl (cI, 301, .inl (upd (fun _ => 0) 0 0))), ((q 14), .inl (cI, 301, .inl (upd (fun _ => 0) 0 0))), ((q 9), .inr (5, [.ref (q 10), .int 0])), ((q 10), .inl (cI, 300, .inl (fun _ => 0)))] := hD
  refine lv_aload_n hx hb dX8_text_32 rfl (lv_at hl 1 rfl) ?_
  refine va_get (D := G) (ci := 8) (v := .ref (q 15)) (C := RX8) (T := TX8) (N := 8) hx hb hts iX8 hown hK hP 0 rfl rfl 4 (by decide) (hts _ m_150) (fun _ h9 => h9) rfl dX8_text_33 ?_
  refine lv_aload_n hx hb dX8_text_36 rfl (lv_at hl 1 rfl) ?_
  refine va_get (D := G) (ci := 8) (v := .ref (q 11)) (C := RX8) (T := TX8) (N := 8) hx hb hts iX8 hown hK hP 0 rfl rfl 3 (by decide) (hts _ m_205) (fun _ h9 => h9) rfl dX8_text_37 ?_
  refine lv_aload_n hx hb dX8_text_40 rfl (lv_at hl 0 rfl) ?_
  refine gw_callv (gw_runV (As := [.ref (q 11), .ref (q 32)]) (rest := []) ⟨hx, hb, hml, hown, hts⟩ (c_parse0 l G cI cJ cZ cB cT q  H.size) (gG_V m_211 m_212 m_213 m_214 m_210) rfl e_X2_parse ⟨Nat.le_of_ble_eq_true rfl, Nat.le_of_ble_eq_true rfl⟩ hK hP hD [5, 11, 12, 13, 14, 6, 7, 8] rfl (by decide) rfl 0 rfl rfl rfl hl.1 rfl (Nat.le_of_ble_eq_true rfl) dX8_text_41 ⟨Nat.le_of_ble_eq_true rfl, Nat.le_of_ble_eq_true rfl⟩) hP hD hS hA [5, 11, 12, 13, 14, 6, 7, 8] [0, 1, 2, 3, 4, 9, 10, 15, 16] rfl rfl (by decide) (by decide) (fun u_3 H locs hw_3 hP hD hS => ?_)
  have hP : va_P G vwCl [((q 0), .inr (8, [.ref (q 1), .ref (q 5), .ref (q 9), .ref (q 11), .ref (q 15), .ref (q 16), .ref (q 20), .ref (q 23)])), ((q 1), .inr (4, [.ref (q 2), .ref (q 3), .ref (q 4), .int 0, .int 0, .int 0, .int 0, .int 0, .int 9, .int 0, .int (-1), .int 0, .int 0])), ((q 2), .inl (cI, 90, .inl (fun _ => 0))), ((q 3), .inl (cI, 12, .inl (fun _ => 0))), ((q 4), .inl (cI, 1880, .inl (fun _ => 0))), ((q 16), .inr (1, [.ref (q 17), .ref (q 18), .ref (q 19), .int 0])), ((q 17), .inl (cT, 4, .inr (.inr (.inr (.inr (va_up (va_up (va_up (va_up (fun _ => none) 0 (some (q 32))) 1 (some (q 37))) 2 (some (q 42))) 3 (some (q 47)))))))), ((q 9), .inr (5, [.ref (q 10), .int 0])), ((q 10), .inl (cI, 300, .inl (fun _ => 0))), ((q 15), .inr (2, [.int 0, .int (-1), .int (-1)])), ((q 11), .inr (7, [.ref (q 12), .ref (q 13), .ref (q 14), .int 1, .int 0])), ((q 12), .inl (cI, 301, .inl (upd (fun _ => 0) 0 0))), ((q 13), .inl (cI, 301, .inl (upd (fun _ => 0) 0 0))), ((q 14), .inl (cI, 301, .inl (upd (fun _ => 0) 0 0))), ((q 32), .inr (6, [.ref (q 33), .int 0, .ref (q 34), .ref (q 35), .ref (q 36), .int 0])), ((q 35), .inl (cI, 4, .inl (upd (upd (upd (upd (fun _ => 0) 0 (-1)) 1 (-1)) 2 (-1)) 3 (-1)))), ((q 36), .inl (cI, 4, .inl (upd (upd (upd (upd (fun _ => 0) 0 (-1)) 1 (-1)) 2 (-1)) 3 (-1))))] H := hP
  have hD : va_D A [((q 0), .inr (8, [.ref (q 1), .ref (q 5), .ref (q 9), .ref (q 11), .ref (q 15), .ref (q 16), .ref (q 20), .ref (q 23)])), ((q 1), .inr (4, [.ref (q 2), .ref (q 3), .ref (q 4), .int 0, .int 0, .int 0, .int 0, .int 0, .int 9, .int 0, .int (-1), .int 0, .int 0])), ((q 2), .inl (cI, 90, .inl (fun _ => 0))), ((q 3), .inl (cI, 12, .inl (fun _ => 0))), ((q 4), .inl (cI, 1880, .inl (fun _ => 0))), ((q 16), .inr (1, [.ref (q 17), .ref (q 18), .ref (q 19), .int 0])), ((q 17), .inl (cT, 4, .inr (.inr (.inr (.inr (va_up (va_up (va_up (va_up (fun _ => none) 0 (some (q 32))) 1 (some (q 37))) 2 (some (q 42))) 3 (some (q 47)))))))), ((q 9), .inr (5, [.ref (q 10), .int 0])), ((q 10), .inl (cI, 300, .inl (fun _ => 0))), ((q 15), .inr (2, [.int 0, .int (-1), .int (-1)])), ((q 11), .inr (7, [.ref (q 12), .ref (q 13), .ref (q 14), .int 1, .int 0])), ((q 12), .inl (cI, 301, .inl (upd (fun _ => 0) 0 0))), ((q 13), .inl (cI, 301, .inl (upd (fun _ => 0) 0 0))), ((q 14), .inl (cI, 301, .inl (upd (fun _ => 0) 0 0))), ((q 32), .inr (6, [.ref (q 33), .int 0, .ref (q 34), .ref (q 35), .ref (q 36), .int 0])), ((q 35), .inl (cI, 4, .inl (upd (upd (upd (upd (fun _ => 0) 0 (-1)) 1 (-1)) 2 (-1)) 3 (-1)))), ((q 36), .inl (cI, 4, .inl (upd (upd (upd (upd (fun _ => 0) 0 (-1)) 1 (-1)) 2 (-1)) 3 (-1))))] := hD
  refine lv_aload_n hx hb dX8_text_44 rfl (lv_at hl 1 rfl) ?_
  refine va_get (D := G) (ci := 8) (v := .ref (q 9)) (C := RX8) (T := TX8) (N := 8) hx hb hts iX8 hown hK hP 0 rfl rfl 2 (by decide) (hts _ m_73) (fun _ h9 => h9) rfl dX8_text_45 ?_
  refine lv_iconst (v := 0) hx hb dX8_text_48 (by decide) ?_
  refine va_put (D := G) (ci := 5) (v := .int 0) (ty := .int) (C := RX5) (T := TX5) (N := 2) hx hb hts iX5 tyX5 tyX5_ok nmX5 hown hK hP hD hS 7 rfl rfl 1 (by decide) (hts _ m_74) (fun _ h9 => h9) rfl (tyX5_ok 1 (by decide)) rfl rfl (Nat.le_of_ble_eq_true rfl) dX8_text_49 (fun H locs hP hD hS => ?_)
  have hP : va_P G vwCl [((q 0), .inr (8, [.ref (q 1), .ref (q 5), .ref (q 9), .ref (q 11), .ref (q 15), .ref (q 16), .ref (q 20), .ref (q 23)])), ((q 1), .inr (4, [.ref (q 2), .ref (q 3), .ref (q 4), .int 0, .int 0, .int 0, .int 0, .int 0, .int 9, .int 0, .int (-1), .int 0, .int 0])), ((q 2), .inl (cI, 90, .inl (fun _ => 0))), ((q 3), .inl (cI, 12, .inl (fun _ => 0))), ((q 4), .inl (cI, 1880, .inl (fun _ => 0))), ((q 16), .inr (1, [.ref (q 17), .ref (q 18), .ref (q 19), .int 0])), ((q 17), .inl (cT, 4, .inr (.inr (.inr (.inr (va_up (va_up (va_up (va_up (fun _ => none) 0 (some (q 32))) 1 (some (q 37))) 2 (some (q 42))) 3 (some (q 47)))))))), ((q 9), .inr (5, [.ref (q 10), .int 0])), ((q 10), .inl (cI, 300, .inl (fun _ => 0))), ((q 15), .inr (2, [.int 0, .int (-1), .int (-1)])), ((q 11), .inr (7, [.ref (q 12), .ref (q 13), .ref (q 14), .int 1, .int 0])), ((q 12), .inl (cI, 301, .inl (upd (fun _ => 0) 0 0))), ((q 13), .inl (cI, 301, .inl (upd (fun _ => 0) 0 0))), ((q 14), .inl (cI, 301, .inl (upd (fun _ => 0) 0 0))), ((q 32), .inr (6, [.ref (q 33), .int 0, .ref (q 34), .ref (q 35), .ref (q 36), .int 0])), ((q 35), .inl (cI, 4, .inl (upd (upd (upd (upd (fun _ => 0) 0 (-1)) 1 (-1)) 2 (-1)) 3 (-1)))), ((q 36), .inl (cI, 4, .inl (upd (upd (upd (upd (fun _ => 0) 0 (-1)) 1 (-1)) 2 (-1)) 3 (-1))))] H := hP
  have hD : va_D A [((q 0), .inr (8, [.ref (q 1), .ref (q 5), .ref (q 9), .ref (q 11), .ref (q 15), .ref (q 16), .ref (q 20), .ref (q 23)])), ((q 1), .inr (4, [.ref (q 2), .ref (q 3), .ref (q 4), .int 0, .int 0, .int 0, .int 0, .int 0, .int 9, .int 0, .int (-1), .int 0, .int 0])), ((q 2), .inl (cI, 90, .inl (fun _ => 0))), ((q 3), .inl (cI, 12, .inl (fun _ => 0))), ((q 4), .inl (cI, 1880, .inl (fun _ => 0))), ((q 16), .inr (1, [.ref (q 17), .ref (q 18), .ref (q 19), .int 0])), ((q 17), .inl (cT, 4, .inr (.inr (.inr (.inr (va_up (va_up (va_up (va_up (fun _ => none) 0 (some (q 32))) 1 (some (q 37))) 2 (some (q 42))) 3 (some (q 47)))))))), ((q 9), .inr (5, [.ref (q 10), .int 0])), ((q 10), .inl (cI, 300, .inl (fun _ => 0))), ((q 15), .inr (2, [.int 0, .int (-1), .int (-1)])), ((q 11), .inr (7, [.ref (q 12), .ref (q 13), .ref (q 14), .int 1, .int 0])), ((q 12), .inl (cI, 301, .inl (upd (fun _ => 0) 0 0))), ((q 13), .inl (cI, 301, .inl (upd (fun _ => 0) 0 0))), ((q 14), .inl (cI, 301, .inl (upd (fun _ => 0) 0 0))), ((q 32), .inr (6, [.ref (q 33), .int 0, .ref (q 34), .ref (q 35), .ref (q 36), .int 0])), ((q 35), .inl (cI, 4, .inl (upd (upd (upd (upd (fun _ => 0) 0 (-1)) 1 (-1)) 2 (-1)) 3 (-1)))), ((q 36), .inl (cI, 4, .inl (upd (upd (upd (upd (fun _ => 0) 0 (-1)) 1 (-1)) 2 (-1)) 3 (-1))))] := hD
  refine lv_aload_n hx hb dX8_text_52 rfl (lv_at hl 1 rfl) ?_
  refine va_get (D := G) (ci := 8) (v := .ref (q 15)) (C := RX8) (T := TX8) (N := 8) hx hb hts iX8 hown hK hP 0 rfl rfl 4 (by decide) (hts _ m_150) (fun _ h9 => h9) rfl dX8_text_53 ?_
  refine va_get (D := G) (ci := 2) (v := .int 0) (C := RX2) (T := TX2) (N := 3) hx hb hts iX2 hown hK hP 9 rfl rfl 0 (by decide) (hts _ m_152) (fun _ h9 => h9) rfl dX8_text_56 ?_
  refine lv_if_eq (tgt := 64) hx hb dX8_text_59 (by decide) (fun _ => ?_) (fun c => absurd (by decide) c)
  refine lv_aload_n hx hb dX8_text_64 rfl (lv_at hl 1 rfl) ?_
  refine va_get (D := G) (ci := 8) (v := .ref (q 1)) (C := RX8) (T := TX8) (N := 8) hx hb hts iX8 hown hK hP 0 rfl rfl 0 (by decide) (hts _ m_49) (fun _ h9 => h9) rfl dX8_text_65 ?_
  refine lv_dup hx hb dX8_text_68 rfl ?_
  refine va_get (D := G) (ci := 4) (v := .int 0) (C := RX4) (T := TX4) (N := 13) hx hb hts iX4 hown hK hP 1 rfl rfl 9 (by decide) (hts _ m_75) (fun _ h9 => h9) rfl dX8_text_69 ?_
  refine lv_iconst (v := 1) hx hb dX8_text_72 (by decide) ?_
  refine lv_iadd hx hb dX8_text_73 ?_
  refine gw_topi (y := 1) (by decide) ?_
  refine va_put (D := G) (ci := 4) (v := .int 1) (ty := .int) (C := RX4) (T := TX4) (N := 13) hx hb hts iX4 tyX4 tyX4_ok nmX4 hown hK hP hD hS 1 rfl rfl 9 (by decide) (hts _ m_75) (fun _ h9 => h9) rfl (tyX4_ok 9 (by decide)) rfl rfl (Nat.le_of_ble_eq_true rfl) dX8_text_74 (fun H locs hP hD hS => ?_)
  have hP : va_P G vwCl [((q 0), .inr (8, [.ref (q 1), .ref (q 5), .ref (q 9), .ref (q 11), .ref (q 15), .ref (q 16), .ref (q 20), .ref (q 23)])), ((q 1), .inr (4, [.ref (q 2), .ref (q 3), .ref (q 4), .int 0, .int 0, .int 0, .int 0, .int 0, .int 9, .int 1, .int (-1), .int 0, .int 0])), ((q 2), .inl (cI, 90, .inl (fun _ => 0))), ((q 3), .inl (cI, 12, .inl (fun _ => 0))), ((q 4), .inl (cI, 1880, .inl (fun _ => 0))), ((q 16), .inr (1, [.ref (q 17), .ref (q 18), .ref (q 19), .int 0])), ((q 17), .inl (cT, 4, .inr (.inr (.inr (.inr (va_up (va_up (va_up (va_up (fun _ => none) 0 (some (q 32))) 1 (some (q 37))) 2 (some (q 42))) 3 (some (q 47)))))))), ((q 9), .inr (5, [.ref (q 10), .int 0])), ((q 10), .inl (cI, 300, .inl (fun _ => 0))), ((q 15), .inr (2, [.int 0, .int (-1), .int (-1)])), ((q 11), .inr (7, [.ref (q 12), .ref (q 13), .ref (q 14), .int 1, .int 0])), ((q 12), .inl (cI, 301, .inl (upd (fun _ => 0) 0 0))), ((q 13), .inl (cI, 301, .inl (upd (fun _ => 0) 0 0))), ((q 14), .inl (cI, 301, .inl (upd (fun _ => 0) 0 0))), ((q 32), .inr (6, [.ref (q 33), .int 0, .ref (q 34), .ref (q 35), .ref (q 36), .int 0])), ((q 35), .inl (cI, 4, .inl (upd (upd (upd (upd (fun _ => 0) 0 (-1)) 1 (-1)) 2 (-1)) 3 (-1)))), ((q 36), .inl (cI, 4, .inl (upd (upd (upd (upd (fun _ => 0) 0 (-1)) 1 (-1)) 2 (-1)) 3 (-1))))] H := hP
  have hD : va_D A [((q 0), .inr (8, [.ref (q 1), .ref (q 5), .ref (q 9), .ref (q 11), .ref (q 15), .ref (q 16), .ref (q 20), .ref (q 23)])), ((q 1), .inr (4, [.ref (q 2), .ref (q 3), .ref (q 4), .int 0, .int 0, .int 0, .int 0, .int 0, .int 9, .int 1, .int (-1), .int 0, .int 0])), ((q 2), .inl (cI, 90, .inl (fun _ => 0))), ((q 3), .inl (cI, 12, .inl (fun _ => 0))), ((q 4), .inl (cI, 1880, .inl (fun _ => 0))), ((q 16), .inr (1, [.ref (q 17), .ref (q 18), .ref (q 19), .int 0])), ((q 17), .inl (cT, 4, .inr (.inr (.inr (.inr (va_up (va_up (va_up (va_up (fun _ => none) 0 (some (q 32))) 1 (some (q 37))) 2 (some (q 42))) 3 (some (q 47)))))))), ((q 9), .inr (5, [.ref (q 10), .int 0])), ((q 10), .inl (cI, 300, .inl (fun _ => 0))), ((q 15), .inr (2, [.int 0, .int (-1), .int (-1)])), ((q 11), .inr (7, [.ref (q 12), .ref (q 13), .ref (q 14), .int 1, .int 0])), ((q 12), .inl (cI, 301, .inl (upd (fun _ => 0) 0 0))), ((q 13), .inl (cI, 301, .inl (upd (fun _ => 0) 0 0))), ((q 14), .inl (cI, 301, .inl (upd (fun _ => 0) 0 0))), ((q 32), .inr (6, [.ref (q 33), .int 0, .ref (q 34), .ref (q 35), .ref (q 36), .int 0])), ((q 35), .inl (cI, 4, .inl (upd (upd (upd (upd (fun _ => 0) 0 (-1)) 1 (-1)) 2 (-1)) 3 (-1)))), ((q 36), .inl (cI, 4, .inl (upd (upd (upd (upd (fun _ => 0) 0 (-1)) 1 (-1)) 2 (-1)) 3 (-1))))] := hD
  refine lv_aload_n hx hb dX8_text_77 rfl (lv_at hl 1 rfl) ?_
  refine va_get (D := G) (ci := 8) (v := .ref (q 1)) (C := RX8) (T := TX8) (N := 8) hx hb hts iX8 hown hK hP 0 rfl rfl 0 (by decide) (hts _ m_49) (fun _ h9 => h9) rfl dX8_text_78 ?_
  refine va_get (D := G) (ci := 4) (v := .int 1) (C := RX4) (T := TX4) (N := 13) hx hb hts iX4 hown hK hP 1 rfl rfl 9 (by decide) (hts _ m_75) (fun _ h9 => h9) rfl dX8_text_81 ?_
  refine lv_iconst (v := 1) hx hb dX8_text_84 (by decide) ?_
  refine lv_isub hx hb dX8_text_85 ?_
  refine gw_topi (y := 0) (by decide) ?_
  exact gw_iret () hx hb hr hlocks (hP.sub [] rfl) (hD.sub [] (by decide) rfl) hS rfl dX8_text_86
set_option maxHeartbeats 4000000 in
set_option maxRecDepth 100000 in
theorem c_halvesHad0 (l : Launch) (G : va_G) (cI cJ cZ cB cT : ClassId) (q : Nat → Nat) (p1 : Int32) (p2 : Int32) (p3 : Int32) (p4 : Int32)  : gMi l yX8_halvesHad (gws yX8_halvesHad cX8_halvesHad 8 (some .int)) 1 G (gT cI cJ cZ cB cT) [.ref (q 0), .int p1, .int p2, .int p3, .int p4] [((q 0), .inr (8, [.ref (q 1), .ref (q 5), .ref (q 9), .ref (q 11), .ref (q 15), .ref (q 16), .ref (q 20), .ref (q 23)])), ((q 1), .inr (4, [.ref (q 2), .ref (q 3), .ref (q 4), .int 0, .int 0, .int 0, .int 0, .int 0, .int 9, .int 0, .int (-1), .int 0, .int 0])), ((q 2), .inl (cI, 90, .inl (fun _ => 0))), ((q 3), .inl (cI, 12, .inl (fun _ => 0))), ((q 4), .inl (cI, 1880, .inl (fun _ => 0)))] (fun r (_ : Unit) => r = 0) (fun (_ : Unit) => ([((q 0), .inr (8, [.ref (q 1), .ref (q 5), .ref (q 9), .ref (q 11), .ref (q 15), .ref (q 16), .ref (q 20), .ref (q 23)])), ((q 1), .inr (4, [.ref (q 2), .ref (q 3), .ref (q 4), .int 0, .int 0, .int 0, .int 0, .int 0, .int 9, .int 0, .int (-1), .int 0, .int 0])), ((q 2), .inl (cI, 90, .inl (fun _ => 0))), ((q 3), .inl (cI, 12, .inl (fun _ => 0))), ((q 4), .inl (cI, 1880, .inl (fun _ => 0)))] : va_W)) := by
  intro sz
  refine gM_start (y := yX8_halvesHad) (av := [.ref (q 0), .int p1, .int p2, .int p3, .int p4]) (ws := [((q 0), .inr (8, [.ref (q 1), .ref (q 5), .ref (q 9), .ref (q 11), .ref (q 15), .ref (q 16), .ref (q 20), .ref (q 23)])), ((q 1), .inr (4, [.ref (q 2), .ref (q 3), .ref (q 4), .int 0, .int 0, .int 0, .int 0, .int 0, .int 9, .int 0, .int (-1), .int 0, .int 0])), ((q 2), .inl (cI, 90, .inl (fun _ => 0))), ((q 3), .inl (cI, 12, .inl (fun _ => 0))), ((q 4), .inl (cI, 1880, .inl (fun _ => 0)))]) (Qf := fun A => va_Qi (fun r (_ : Unit) => r = 0) (gB G (fun (_ : Unit) => ([((q 0), .inr (8, [.ref (q 1), .ref (q 5), .ref (q 9), .ref (q 11), .ref (q 15), .ref (q 16), .ref (q 20), .ref (q 23)])), ((q 1), .inr (4, [.ref (q 2), .ref (q 3), .ref (q 4), .int 0, .int 0, .int 0, .int 0, .int 0, .int 9, .int 0, .int (-1), .int 0, .int 0])), ((q 2), .inl (cI, 90, .inl (fun _ => 0))), ((q 3), .inl (cI, 12, .inl (fun _ => 0))), ((q 4), .inl (cI, 1880, .inl (fun _ => 0)))] : va_W)) A) A) (cc := cX8_halvesHad) (maxL := 8) (ret := (some .int)) (by decide) (Nat.le_of_ble_eq_true rfl) ?_
  intro p e s m args below meth c A ls H hx hb hr hts hown hin hlocks hml hP hK hD hA hS hl
  have hl : lv_has ls 8 [(0, .ref (q 0)), (1, .int p1), (2, .int p2), (3, .int p3), (4, .int p4)] := hl
  refine lv_iconst (v := 0) hx hb dX8_halvesHad_0 (by decide) ?_
  refine lv_istore (lv' := [(5, .int 0), (0, .ref (q 0)), (1, .int p1), (2, .int p2), (3, .int p3), (4, .int p4)]) hx hb dX8_halvesHad_1 hl (by decide) rfl (fun ls hl => ?_)
  refine lv_iconst (v := 0) hx hb dX8_halvesHad_3 (by decide) ?_
  refine lv_istore (lv' := [(6, .int 0), (5, .int 0), (0, .ref (q 0)), (1, .int p1), (2, .int p2), (3, .int p3), (4, .int p4)]) hx hb dX8_halvesHad_4 hl (by decide) rfl (fun ls hl => ?_)
  refine lv_iload hx hb dX8_halvesHad_6 (lv_at hl 0 rfl) ?_
  refine lv_aload_n hx hb dX8_halvesHad_8 rfl (lv_at hl 2 rfl) ?_
  refine va_get (D := G) (ci := 8) (v := .ref (q 1)) (C := RX8) (T := TX8) (N := 8) hx hb hts iX8 hown hK hP 0 rfl rfl 0 (by decide) (hts _ m_49) (fun _ h9 => h9) rfl dX8_halvesHad_9 ?_
  refine va_get (D := G) (ci := 4) (v := .int 0) (C := RX4) (T := TX4) (N := 13) hx hb hts iX4 hown hK hP 1 rfl rfl 3 (by decide) (hts _ m_91) (fun _ h9 => h9) rfl dX8_halvesHad_12 ?_
  refine lv_icmp_ge (tgt := 85) hx hb dX8_halvesHad_15 (by decide) (fun _ => ?_) (fun c => absurd (by decide) c)
  refine lv_iload hx hb dX8_halvesHad_85 (lv_at hl 1 rfl) ?_
  exact gw_iret () hx hb hr hlocks hP hD hS rfl dX8_halvesHad_87
def v_X8_known (p1 : Int32) (p2 : Int32) : Int32 := (if (v_X8_isLetter p1) = 0 then (-1) else (if p2 < 0 then (-1) else (if p2 ≤ 999 then 0 else (-1))))
theorem e_X8_halvesHad : yX8_halvesHad.cls = RX8 ∧ yX8_halvesHad.cls ≠ "java/lang/invoke/MethodHandle" ∧ yX8_halvesHad.cls ≠ "java/lang/invoke/VarHandle" ∧ (parseMethodDescriptor yX8_halvesHad.desc).map (fun d => d.parameters.length) = some 4 := by decide +kernel
set_option maxHeartbeats 4000000 in
set_option maxRecDepth 100000 in
theorem c_X8_known (l : Launch) (G : va_G) (cI cJ cZ cB cT : ClassId) (q : Nat → Nat) (p1 : Int32) (p2 : Int32)  : gMi l yX8_known (gws yX8_known cX8_known 5 (some .int)) 2 G (gT cI cJ cZ cB cT) [.ref (q 0), .int p1, .int p2] [((q 0), .inr (8, [.ref (q 1), .ref (q 5), .ref (q 9), .ref (q 11), .ref (q 15), .ref (q 16), .ref (q 20), .ref (q 23)])), ((q 1), .inr (4, [.ref (q 2), .ref (q 3), .ref (q 4), .int 0, .int 0, .int 0, .int 0, .int 0, .int 9, .int 0, .int (-1), .int 0, .int 0])), ((q 2), .inl (cI, 90, .inl (fun _ => 0))), ((q 3), .inl (cI, 12, .inl (fun _ => 0))), ((q 4), .inl (cI, 1880, .inl (fun _ => 0)))] (fun r (_ : Unit) => r = (v_X8_known p1 p2)) (fun (_ : Unit) => ([] : va_W)) := by
  intro sz
  refine gM_start (y := yX8_known) (av := [.ref (q 0), .int p1, .int p2]) (ws := [((q 0), .inr (8, [.ref (q 1), .ref (q 5), .ref (q 9), .ref (q 11), .ref (q 15), .ref (q 16), .ref (q 20), .ref (q 23)])), ((q 1), .inr (4, [.ref (q 2), .ref (q 3), .ref (q 4), .int 0, .int 0, .int 0, .int 0, .int 0, .int 9, .int 0, .int (-1), .int 0, .int 0])), ((q 2), .inl (cI, 90, .inl (fun _ => 0))), ((q 3), .inl (cI, 12, .inl (fun _ => 0))), ((q 4), .inl (cI, 1880, .inl (fun _ => 0)))]) (Qf := fun A => va_Qi (fun r (_ : Unit) => r = (v_X8_known p1 p2)) (gB G (fun (_ : Unit) => ([] : va_W)) A) A) (cc := cX8_known) (maxL := 5) (ret := (some .int)) (by decide) (Nat.le_of_ble_eq_true rfl) ?_
  intro p e s m args below meth c A ls H hx hb hr hts hown hin hlocks hml hP hK hD hA hS hl
  have hl : lv_has ls 5 [(0, .ref (q 0)), (1, .int p1), (2, .int p2)] := hl
  refine lv_iload_n hx hb dX8_known_0 rfl (lv_at hl 1 rfl) ?_
  refine gw_calli (gw_runS (As := [.int p1]) (rest := []) ⟨hx, hb, hml, hown, hts⟩ (c_X8_isLetter l G cI cJ cZ cB cT p1  H.size) (gG_S m_43 m_44 m_45 m_42) rfl e_X8_isLetter ⟨Nat.le_of_ble_eq_true rfl, Nat.le_of_ble_eq_true rfl⟩ hK hP hD [] rfl (by decide) rfl rfl hl.1 rfl (Nat.le_of_ble_eq_true rfl) dX8_known_1 ⟨Nat.le_of_ble_eq_true rfl, Nat.le_of_ble_eq_true rfl⟩) hP hD hS hA [] [0, 1, 2, 3, 4] rfl rfl (by decide) (by decide) (fun r_1 u_1 H locs hw_1 hP hD hS => ?_)
  subst hw_1
  have hP : va_P G vwCl [((q 0), .inr (8, [.ref (q 1), .ref (q 5), .ref (q 9), .ref (q 11), .ref (q 15), .ref (q 16), .ref (q 20), .ref (q 23)])), ((q 1), .inr (4, [.ref (q 2), .ref (q 3), .ref (q 4), .int 0, .int 0, .int 0, .int 0, .int 0, .int 9, .int 0, .int (-1), .int 0, .int 0])), ((q 2), .inl (cI, 90, .inl (fun _ => 0))), ((q 3), .inl (cI, 12, .inl (fun _ => 0))), ((q 4), .inl (cI, 1880, .inl (fun _ => 0)))] H := hP
  have hD : va_D A [((q 0), .inr (8, [.ref (q 1), .ref (q 5), .ref (q 9), .ref (q 11), .ref (q 15), .ref (q 16), .ref (q 20), .ref (q 23)])), ((q 1), .inr (4, [.ref (q 2), .ref (q 3), .ref (q 4), .int 0, .int 0, .int 0, .int 0, .int 0, .int 9, .int 0, .int (-1), .int 0, .int 0])), ((q 2), .inl (cI, 90, .inl (fun _ => 0))), ((q 3), .inl (cI, 12, .inl (fun _ => 0))), ((q 4), .inl (cI, 1880, .inl (fun _ => 0)))] := hD
  refine lv_if_eq (tgt := 18) hx hb dX8_known_4 (by decide) (fun c_2 => ?_) (fun c_2 => ?_)
  · refine lv_iconst (v := (-1)) hx hb dX8_known_18 (by decide) ?_
    exact gw_iret () hx hb hr hlocks (hP.sub [] rfl) (hD.sub [] (by decide) rfl) hS (by rw [v_X8_known, if_pos c_2]) dX8_known_19
  · refine lv_iload_n hx hb dX8_known_7 rfl (lv_at hl 2 rfl) ?_
    refine lv_if_lt (tgt := 18) hx hb dX8_known_8 (by decide) (fun c_3 => ?_) (fun c_3 => ?_)
    · refine lv_iconst (v := (-1)) hx hb dX8_known_18 (by decide) ?_
      exact gw_iret () hx hb hr hlocks (hP.sub [] rfl) (hD.sub [] (by decide) rfl) hS (by rw [v_X8_known, if_neg c_2, if_pos c_3]) dX8_known_19
    · refine lv_iload_n hx hb dX8_known_11 rfl (lv_at hl 2 rfl) ?_
      refine lv_sipush (v := 999) hx hb dX8_known_12 (by decide) ?_
      refine lv_icmp_le (tgt := 20) hx hb dX8_known_15 (by decide) (fun c_4 => ?_) (fun c_4 => ?_)
      · refine lv_aload_n hx hb dX8_known_20 rfl (lv_at hl 0 rfl) ?_
        refine lv_iload_n hx hb dX8_known_21 rfl (lv_at hl 1 rfl) ?_
        refine lv_iconst (v := 0) hx hb dX8_known_22 (by decide) ?_
        refine lv_iload_n hx hb dX8_known_23 rfl (lv_at hl 2 rfl) ?_
        refine lv_bipush (v := 10) hx hb dX8_known_24 (by decide) ?_
        refine gw_calli (gw_runV (As := [.int p1, .int 0, .int p2, .int 10]) (rest := []) ⟨hx, hb, hml, hown, hts⟩ (c_halvesHad0 l G cI cJ cZ cB cT q p1 0 p2 10  H.size) (gG_V m_216 m_217 m_218 m_45 m_215) rfl e_X8_halvesHad ⟨Nat.le_of_ble_eq_true rfl, Nat.le_of_ble_eq_true rfl⟩ hK hP hD [0, 1, 2, 3, 4] rfl (by decide) rfl 0 rfl rfl rfl hl.1 rfl (Nat.le_of_ble_eq_true rfl) dX8_known_26 ⟨Nat.le_of_ble_eq_true rfl, Nat.le_of_ble_eq_true rfl⟩) hP hD hS hA [0, 1, 2, 3, 4] [] rfl rfl (by decide) (by decide) (fun r_5 u_5 H locs hw_5 hP hD hS => ?_)
        subst hw_5
        have hP : va_P G vwCl [((q 0), .inr (8, [.ref (q 1), .ref (q 5), .ref (q 9), .ref (q 11), .ref (q 15), .ref (q 16), .ref (q 20), .ref (q 23)])), ((q 1), .inr (4, [.ref (q 2), .ref (q 3), .ref (q 4), .int 0, .int 0, .int 0, .int 0, .int 0, .int 9, .int 0, .int (-1), .int 0, .int 0])), ((q 2), .inl (cI, 90, .inl (fun _ => 0))), ((q 3), .inl (cI, 12, .inl (fun _ => 0))), ((q 4), .inl (cI, 1880, .inl (fun _ => 0)))] H := hP
        have hD : va_D A [((q 0), .inr (8, [.ref (q 1), .ref (q 5), .ref (q 9), .ref (q 11), .ref (q 15), .ref (q 16), .ref (q 20), .ref (q 23)])), ((q 1), .inr (4, [.ref (q 2), .ref (q 3), .ref (q 4), .int 0, .int 0, .int 0, .int 0, .int 0, .int 9, .int 0, .int (-1), .int 0, .int 0])), ((q 2), .inl (cI, 90, .inl (fun _ => 0))), ((q 3), .inl (cI, 12, .inl (fun _ => 0))), ((q 4), .inl (cI, 1880, .inl (fun _ => 0)))] := hD
        refine lv_iconst (v := 3) hx hb dX8_known_29 (by decide) ?_
        refine lv_icmp_ne (tgt := 37) hx hb dX8_known_30 (by decide) (fun _ => ?_) (fun c => absurd c (by decide))
        refine lv_iconst (v := 0) hx hb dX8_known_37 (by decide) ?_
        refine lv_istore_n (lv' := [(3, .int 0), (0, .ref (q 0)), (1, .int p1), (2, .int p2)]) hx hb dX8_known_38 rfl hl (by decide) rfl (fun ls hl => ?_)
        refine lv_aload_n hx hb dX8_known_39 rfl (lv_at hl 1 rfl) ?_
        refine lv_iload_n hx hb dX8_known_40 rfl (lv_at hl 2 rfl) ?_
        refine lv_iconst (v := 1) hx hb dX8_known_41 (by decide) ?_
        refine lv_iload_n hx hb dX8_known_42 rfl (lv_at hl 3 rfl) ?_
        refine lv_bipush (v := 10) hx hb dX8_known_43 (by decide) ?_
        refine gw_calli (gw_runV (As := [.int p1, .int 1, .int p2, .int 10]) (rest := []) ⟨hx, hb, hml, hown, hts⟩ (c_halvesHad0 l G cI cJ cZ cB cT q p1 1 p2 10  H.size) (gG_V m_216 m_217 m_218 m_45 m_215) rfl e_X8_halvesHad ⟨Nat.le_of_ble_eq_true rfl, Nat.le_of_ble_eq_true rfl⟩ hK hP hD [0, 1, 2, 3, 4] rfl (by decide) rfl 0 rfl rfl rfl hl.1 rfl (Nat.le_of_ble_eq_true rfl) dX8_known_45 ⟨Nat.le_of_ble_eq_true rfl, Nat.le_of_ble_eq_true rfl⟩) hP hD hS hA [0, 1, 2, 3, 4] [] rfl rfl (by decide) (by decide) (fun r_6 u_6 H locs hw_6 hP hD hS => ?_)
        subst hw_6
        have hP : va_P G vwCl [((q 0), .inr (8, [.ref (q 1), .ref (q 5), .ref (q 9), .ref (q 11), .ref (q 15), .ref (q 16), .ref (q 20), .ref (q 23)])), ((q 1), .inr (4, [.ref (q 2), .ref (q 3), .ref (q 4), .int 0, .int 0, .int 0, .int 0, .int 0, .int 9, .int 0, .int (-1), .int 0, .int 0])), ((q 2), .inl (cI, 90, .inl (fun _ => 0))), ((q 3), .inl (cI, 12, .inl (fun _ => 0))), ((q 4), .inl (cI, 1880, .inl (fun _ => 0)))] H := hP
        have hD : va_D A [((q 0), .inr (8, [.ref (q 1), .ref (q 5), .ref (q 9), .ref (q 11), .ref (q 15), .ref (q 16), .ref (q 20), .ref (q 23)])), ((q 1), .inr (4, [.ref (q 2), .ref (q 3), .ref (q 4), .int 0, .int 0, .int 0, .int 0, .int 0, .int 9, .int 0, .int (-1), .int 0, .int 0])), ((q 2), .inl (cI, 90, .inl (fun _ => 0))), ((q 3), .inl (cI, 12, .inl (fun _ => 0))), ((q 4), .inl (cI, 1880, .inl (fun _ => 0)))] := hD
        refine lv_iconst (v := 3) hx hb dX8_known_48 (by decide) ?_
        refine lv_icmp_ne (tgt := 56) hx hb dX8_known_49 (by decide) (fun _ => ?_) (fun c => absurd c (by decide))
        refine lv_iconst (v := 0) hx hb dX8_known_56 (by decide) ?_
        refine lv_istore (lv' := [(4, .int 0), (3, .int 0), (0, .ref (q 0)), (1, .int p1), (2, .int p2)]) hx hb dX8_known_57 hl (by decide) rfl (fun ls hl => ?_)
        refine lv_iload_n hx hb dX8_known_59 rfl (lv_at hl 1 rfl) ?_
        refine lv_iload hx hb dX8_known_60 (lv_at hl 0 rfl) ?_
        refine lv_iadd hx hb dX8_known_62 ?_
        refine gw_topi (y := 0) (by decide) ?_
        exact gw_iret () hx hb hr hlocks (hP.sub [] rfl) (hD.sub [] (by decide) rfl) hS (by rw [v_X8_known, if_neg c_2, if_neg c_3, if_pos c_4]) dX8_known_63
      · refine lv_iconst (v := (-1)) hx hb dX8_known_18 (by decide) ?_
        exact gw_iret () hx hb hr hlocks (hP.sub [] rfl) (hD.sub [] (by decide) rfl) hS (by rw [v_X8_known, if_neg c_2, if_neg c_3, if_neg c_4]) dX8_known_19
set_option maxHeartbeats 4000000 in
set_option maxRecDepth 100000 in
theorem c_X8_led (l : Launch) (G : va_G) (cI cJ cZ cB cT : ClassId) (q : Nat → Nat) (p1 : Int32) (p2 : Int32)  : gMi l yX8_led (gws yX8_led cX8_led 7 (some .int)) 2 G (gT cI cJ cZ cB cT) [.ref (q 0), .int p1, .int p2] [((q 0), .inr (8, [.ref (q 1), .ref (q 5), .ref (q 9), .ref (q 11), .ref (q 15), .ref (q 16), .ref (q 20), .ref (q 23)])), ((q 1), .inr (4, [.ref (q 2), .ref (q 3), .ref (q 4), .int 0, .int 0, .int 0, .int 0, .int 0, .int 9, .int 0, .int (-1), .int 0, .int 0])), ((q 2), .inl (cI, 90, .inl (fun _ => 0))), ((q 3), .inl (cI, 12, .inl (fun _ => 0))), ((q 4), .inl (cI, 1880, .inl (fun _ => 0)))] (fun r (_ : Unit) => r = (-1)) (fun (_ : Unit) => ([((q 0), .inr (8, [.ref (q 1), .ref (q 5), .ref (q 9), .ref (q 11), .ref (q 15), .ref (q 16), .ref (q 20), .ref (q 23)])), ((q 1), .inr (4, [.ref (q 2), .ref (q 3), .ref (q 4), .int 0, .int 0, .int 0, .int 0, .int 0, .int 9, .int 0, .int (-1), .int 0, .int 0])), ((q 2), .inl (cI, 90, .inl (fun _ => 0))), ((q 3), .inl (cI, 12, .inl (fun _ => 0))), ((q 4), .inl (cI, 1880, .inl (fun _ => 0)))] : va_W)) := by
  intro sz
  refine gM_start (y := yX8_led) (av := [.ref (q 0), .int p1, .int p2]) (ws := [((q 0), .inr (8, [.ref (q 1), .ref (q 5), .ref (q 9), .ref (q 11), .ref (q 15), .ref (q 16), .ref (q 20), .ref (q 23)])), ((q 1), .inr (4, [.ref (q 2), .ref (q 3), .ref (q 4), .int 0, .int 0, .int 0, .int 0, .int 0, .int 9, .int 0, .int (-1), .int 0, .int 0])), ((q 2), .inl (cI, 90, .inl (fun _ => 0))), ((q 3), .inl (cI, 12, .inl (fun _ => 0))), ((q 4), .inl (cI, 1880, .inl (fun _ => 0)))]) (Qf := fun A => va_Qi (fun r (_ : Unit) => r = (-1)) (gB G (fun (_ : Unit) => ([((q 0), .inr (8, [.ref (q 1), .ref (q 5), .ref (q 9), .ref (q 11), .ref (q 15), .ref (q 16), .ref (q 20), .ref (q 23)])), ((q 1), .inr (4, [.ref (q 2), .ref (q 3), .ref (q 4), .int 0, .int 0, .int 0, .int 0, .int 0, .int 9, .int 0, .int (-1), .int 0, .int 0])), ((q 2), .inl (cI, 90, .inl (fun _ => 0))), ((q 3), .inl (cI, 12, .inl (fun _ => 0))), ((q 4), .inl (cI, 1880, .inl (fun _ => 0)))] : va_W)) A) A) (cc := cX8_led) (maxL := 7) (ret := (some .int)) (by decide) (Nat.le_of_ble_eq_true rfl) ?_
  intro p e s m args below meth c A ls H hx hb hr hts hown hin hlocks hml hP hK hD hA hS hl
  have hl : lv_has ls 7 [(0, .ref (q 0)), (1, .int p1), (2, .int p2)] := hl
  refine lv_iconst (v := (-1)) hx hb dX8_led_0 (by decide) ?_
  refine lv_istore_n (lv' := [(3, .int (-1)), (0, .ref (q 0)), (1, .int p1), (2, .int p2)]) hx hb dX8_led_1 rfl hl (by decide) rfl (fun ls hl => ?_)
  refine lv_iload_n hx hb dX8_led_2 rfl (lv_at hl 2 rfl) ?_
  refine gw_calli (gw_runS (As := [.int p1]) (rest := []) ⟨hx, hb, hml, hown, hts⟩ (c_X8_isLetter l G cI cJ cZ cB cT p1  H.size) (gG_S m_43 m_44 m_45 m_42) rfl e_X8_isLetter ⟨Nat.le_of_ble_eq_true rfl, Nat.le_of_ble_eq_true rfl⟩ hK hP hD [] rfl (by decide) rfl rfl hl.1 rfl (Nat.le_of_ble_eq_true rfl) dX8_led_3 ⟨Nat.le_of_ble_eq_true rfl, Nat.le_of_ble_eq_true rfl⟩) hP hD hS hA [] [0, 1, 2, 3, 4] rfl rfl (by decide) (by decide) (fun r_1 u_1 H locs hw_1 hP hD hS => ?_)
  subst hw_1
  have hP : va_P G vwCl [((q 0), .inr (8, [.ref (q 1), .ref (q 5), .ref (q 9), .ref (q 11), .ref (q 15), .ref (q 16), .ref (q 20), .ref (q 23)])), ((q 1), .inr (4, [.ref (q 2), .ref (q 3), .ref (q 4), .int 0, .int 0, .int 0, .int 0, .int 0, .int 9, .int 0, .int (-1), .int 0, .int 0])), ((q 2), .inl (cI, 90, .inl (fun _ => 0))), ((q 3), .inl (cI, 12, .inl (fun _ => 0))), ((q 4), .inl (cI, 1880, .inl (fun _ => 0)))] H := hP
  have hD : va_D A [((q 0), .inr (8, [.ref (q 1), .ref (q 5), .ref (q 9), .ref (q 11), .ref (q 15), .ref (q 16), .ref (q 20), .ref (q 23)])), ((q 1), .inr (4, [.ref (q 2), .ref (q 3), .ref (q 4), .int 0, .int 0, .int 0, .int 0, .int 0, .int 9, .int 0, .int (-1), .int 0, .int 0])), ((q 2), .inl (cI, 90, .inl (fun _ => 0))), ((q 3), .inl (cI, 12, .inl (fun _ => 0))), ((q 4), .inl (cI, 1880, .inl (fun _ => 0)))] := hD
  refine lv_if_ne (tgt := 11) hx hb dX8_led_6 (by decide) (fun c_2 => ?_) (fun c_2 => ?_)
  · refine lv_iconst (v := 0) hx hb dX8_led_11 (by decide) ?_
    refine lv_istore (lv' := [(4, .int 0), (3, .int (-1)), (0, .ref (q 0)), (1, .int p1), (2, .int p2)]) hx hb dX8_led_12 hl (by decide) rfl (fun ls hl => ?_)
    refine lv_iload hx hb dX8_led_14 (lv_at hl 0 rfl) ?_
    refine lv_aload_n hx hb dX8_led_16 rfl (lv_at hl 2 rfl) ?_
    refine va_get (D := G) (ci := 8) (v := .ref (q 1)) (C := RX8) (T := TX8) (N := 8) hx hb hts iX8 hown hK hP 0 rfl rfl 0 (by decide) (hts _ m_49) (fun _ h9 => h9) rfl dX8_led_17 ?_
    refine va_get (D := G) (ci := 4) (v := .int 0) (C := RX4) (T := TX4) (N := 13) hx hb hts iX4 hown hK hP 1 rfl rfl 3 (by decide) (hts _ m_91) (fun _ h9 => h9) rfl dX8_led_20 ?_
    refine lv_icmp_ge (tgt := 107) hx hb dX8_led_23 (by decide) (fun _ => ?_) (fun c => absurd (by decide) c)
    refine lv_iload_n hx hb dX8_led_107 rfl (lv_at hl 1 rfl) ?_
    exact gw_iret () hx hb hr hlocks hP hD hS rfl dX8_led_108
  · refine lv_iload_n hx hb dX8_led_9 rfl (lv_at hl 0 rfl) ?_
    exact gw_iret () hx hb hr hlocks hP hD hS rfl dX8_led_10
theorem e_X8_led : yX8_led.cls = RX8 ∧ yX8_led.cls ≠ "java/lang/invoke/MethodHandle" ∧ yX8_led.cls ≠ "java/lang/invoke/VarHandle" ∧ (parseMethodDescriptor yX8_led.desc).map (fun d => d.parameters.length) = some 2 := by decide +kernel
set_option maxHeartbeats 4000000 in
set_option maxRecDepth 100000 in
theorem c_X8_answer (l : Launch) (G : va_G) (cI cJ cZ cB cT : ClassId) (q : Nat → Nat) (p1 : Int32)  : gMi l yX8_answer (gws yX8_answer cX8_answer 3 (some .int)) 3 G (gT cI cJ cZ cB cT) [.ref (q 0), .int p1] [((q 0), .inr (8, [.ref (q 1), .ref (q 5), .ref (q 9), .ref (q 11), .ref (q 15), .ref (q 16), .ref (q 20), .ref (q 23)])), ((q 1), .inr (4, [.ref (q 2), .ref (q 3), .ref (q 4), .int 0, .int 0, .int 0, .int 0, .int 0, .int 9, .int 0, .int (-1), .int 0, .int 0])), ((q 2), .inl (cI, 90, .inl (fun _ => 0))), ((q 3), .inl (cI, 12, .inl (fun _ => 0))), ((q 4), .inl (cI, 1880, .inl (fun _ => 0)))] (fun r (_ : Unit) => r = (-1)) (fun (_ : Unit) => ([] : va_W)) := by
  intro sz
  refine gM_start (y := yX8_answer) (av := [.ref (q 0), .int p1]) (ws := [((q 0), .inr (8, [.ref (q 1), .ref (q 5), .ref (q 9), .ref (q 11), .ref (q 15), .ref (q 16), .ref (q 20), .ref (q 23)])), ((q 1), .inr (4, [.ref (q 2), .ref (q 3), .ref (q 4), .int 0, .int 0, .int 0, .int 0, .int 0, .int 9, .int 0, .int (-1), .int 0, .int 0])), ((q 2), .inl (cI, 90, .inl (fun _ => 0))), ((q 3), .inl (cI, 12, .inl (fun _ => 0))), ((q 4), .inl (cI, 1880, .inl (fun _ => 0)))]) (Qf := fun A => va_Qi (fun r (_ : Unit) => r = (-1)) (gB G (fun (_ : Unit) => ([] : va_W)) A) A) (cc := cX8_answer) (maxL := 3) (ret := (some .int)) (by decide) (Nat.le_of_ble_eq_true rfl) ?_
  intro p e s m args below meth c A ls H hx hb hr hts hown hin hlocks hml hP hK hD hA hS hl
  have hl : lv_has ls 3 [(0, .ref (q 0)), (1, .int p1)] := hl
  refine lv_aload_n hx hb dX8_answer_0 rfl (lv_at hl 0 rfl) ?_
  refine lv_iload_n hx hb dX8_answer_1 rfl (lv_at hl 1 rfl) ?_
  refine lv_iconst (v := 0) hx hb dX8_answer_2 (by decide) ?_
  refine gw_calli (gw_runV (As := [.int p1, .int 0]) (rest := []) ⟨hx, hb, hml, hown, hts⟩ (c_X8_led l G cI cJ cZ cB cT q p1 0  H.size) (gG_V m_220 m_221 m_222 m_45 m_219) rfl e_X8_led ⟨Nat.le_of_ble_eq_true rfl, Nat.le_of_ble_eq_true rfl⟩ hK hP hD [0, 1, 2, 3, 4] rfl (by decide) rfl 0 rfl rfl rfl hl.1 rfl (Nat.le_of_ble_eq_true rfl) dX8_answer_3 ⟨Nat.le_of_ble_eq_true rfl, Nat.le_of_ble_eq_true rfl⟩) hP hD hS hA [0, 1, 2, 3, 4] [] rfl rfl (by decide) (by decide) (fun r_1 u_1 H locs hw_1 hP hD hS => ?_)
  subst hw_1
  have hP : va_P G vwCl [((q 0), .inr (8, [.ref (q 1), .ref (q 5), .ref (q 9), .ref (q 11), .ref (q 15), .ref (q 16), .ref (q 20), .ref (q 23)])), ((q 1), .inr (4, [.ref (q 2), .ref (q 3), .ref (q 4), .int 0, .int 0, .int 0, .int 0, .int 0, .int 9, .int 0, .int (-1), .int 0, .int 0])), ((q 2), .inl (cI, 90, .inl (fun _ => 0))), ((q 3), .inl (cI, 12, .inl (fun _ => 0))), ((q 4), .inl (cI, 1880, .inl (fun _ => 0)))] H := hP
  have hD : va_D A [((q 0), .inr (8, [.ref (q 1), .ref (q 5), .ref (q 9), .ref (q 11), .ref (q 15), .ref (q 16), .ref (q 20), .ref (q 23)])), ((q 1), .inr (4, [.ref (q 2), .ref (q 3), .ref (q 4), .int 0, .int 0, .int 0, .int 0, .int 0, .int 9, .int 0, .int (-1), .int 0, .int 0])), ((q 2), .inl (cI, 90, .inl (fun _ => 0))), ((q 3), .inl (cI, 12, .inl (fun _ => 0))), ((q 4), .inl (cI, 1880, .inl (fun _ => 0)))] := hD
  refine lv_istore_n (lv' := [(2, .int (-1)), (0, .ref (q 0)), (1, .int p1)]) hx hb dX8_answer_6 rfl hl (by decide) rfl (fun ls hl => ?_)
  refine lv_iload_n hx hb dX8_answer_7 rfl (lv_at hl 0 rfl) ?_
  refine lv_iconst (v := (-1)) hx hb dX8_answer_8 (by decide) ?_
  refine lv_icmp_ne (tgt := 14) hx hb dX8_answer_9 (by decide) (fun c => absurd (by decide) c) (fun _ => ?_)
  refine lv_iconst (v := (-1)) hx hb dX8_answer_12 (by decide) ?_
  exact gw_iret () hx hb hr hlocks (hP.sub [] rfl) (hD.sub [] (by decide) rfl) hS rfl dX8_answer_13
set_option maxHeartbeats 4000000 in
set_option maxRecDepth 100000 in
theorem c_X8_plucks (l : Launch) (G : va_G) (cI cJ cZ cB cT : ClassId) (q : Nat → Nat) (p1 : Int32)  : gMi l yX8_plucks (gws yX8_plucks cX8_plucks 4 (some .int)) 2 G (gT cI cJ cZ cB cT) [.ref (q 0), .int p1] [((q 0), .inr (8, [.ref (q 1), .ref (q 5), .ref (q 9), .ref (q 11), .ref (q 15), .ref (q 16), .ref (q 20), .ref (q 23)])), ((q 1), .inr (4, [.ref (q 2), .ref (q 3), .ref (q 4), .int 0, .int 0, .int 0, .int 0, .int 0, .int 9, .int 0, .int (-1), .int 0, .int 0])), ((q 2), .inl (cI, 90, .inl (fun _ => 0))), ((q 3), .inl (cI, 12, .inl (fun _ => 0))), ((q 4), .inl (cI, 1880, .inl (fun _ => 0)))] (fun r (_ : Unit) => r = (-1)) (fun (_ : Unit) => ([] : va_W)) := by
  intro sz
  refine gM_start (y := yX8_plucks) (av := [.ref (q 0), .int p1]) (ws := [((q 0), .inr (8, [.ref (q 1), .ref (q 5), .ref (q 9), .ref (q 11), .ref (q 15), .ref (q 16), .ref (q 20), .ref (q 23)])), ((q 1), .inr (4, [.ref (q 2), .ref (q 3), .ref (q 4), .int 0, .int 0, .int 0, .int 0, .int 0, .int 9, .int 0, .int (-1), .int 0, .int 0])), ((q 2), .inl (cI, 90, .inl (fun _ => 0))), ((q 3), .inl (cI, 12, .inl (fun _ => 0))), ((q 4), .inl (cI, 1880, .inl (fun _ => 0)))]) (Qf := fun A => va_Qi (fun r (_ : Unit) => r = (-1)) (gB G (fun (_ : Unit) => ([] : va_W)) A) A) (cc := cX8_plucks) (maxL := 4) (ret := (some .int)) (by decide) (Nat.le_of_ble_eq_true rfl) ?_
  intro p e s m args below meth c A ls H hx hb hr hts hown hin hlocks hml hP hK hD hA hS hl
  have hl : lv_has ls 4 [(0, .ref (q 0)), (1, .int p1)] := hl
  refine lv_aload_n hx hb dX8_plucks_0 rfl (lv_at hl 0 rfl) ?_
  refine va_get (D := G) (ci := 8) (v := .ref (q 1)) (C := RX8) (T := TX8) (N := 8) hx hb hts iX8 hown hK hP 0 rfl rfl 0 (by decide) (hts _ m_49) (fun _ h9 => h9) rfl dX8_plucks_1 ?_
  refine lv_iload_n hx hb dX8_plucks_4 rfl (lv_at hl 1 rfl) ?_
  refine lv_iconst (v := 1) hx hb dX8_plucks_5 (by decide) ?_
  refine gw_calli (gw_runV (As := [.int p1, .int 1]) (rest := []) ⟨hx, hb, hml, hown, hts⟩ (c_ofGoose0 l G cI cJ cZ cB cT (q 1) (q 2) (q 3) (q 4) 0 0 0 0 9 0 (-1) 0 0 (fun _ => 0) (fun _ => 0) (fun _ => 0) p1 1  H.size) (gG_V m_223 m_4 m_5 m_6 m_2) rfl e_X4_ofGoose ⟨Nat.le_of_ble_eq_true rfl, Nat.le_of_ble_eq_true rfl⟩ hK hP hD [1, 2, 3, 4] rfl (by decide) rfl 0 rfl rfl rfl hl.1 rfl (Nat.le_of_ble_eq_true rfl) dX8_plucks_6 ⟨Nat.le_of_ble_eq_true rfl, Nat.le_of_ble_eq_true rfl⟩) hP hD hS hA [1, 2, 3, 4] [0] rfl rfl (by decide) (by decide) (fun r_1 u_1 H locs hw_1 hP hD hS => ?_)
  subst hw_1
  have hP : va_P G vwCl [((q 0), .inr (8, [.ref (q 1), .ref (q 5), .ref (q 9), .ref (q 11), .ref (q 15), .ref (q 16), .ref (q 20), .ref (q 23)])), ((q 1), .inr (4, [.ref (q 2), .ref (q 3), .ref (q 4), .int 0, .int 0, .int 0, .int 0, .int 0, .int 9, .int 0, .int (-1), .int 0, .int 0])), ((q 2), .inl (cI, 90, .inl (fun _ => 0))), ((q 3), .inl (cI, 12, .inl (fun _ => 0))), ((q 4), .inl (cI, 1880, .inl (fun _ => 0)))] H := hP
  have hD : va_D A [((q 0), .inr (8, [.ref (q 1), .ref (q 5), .ref (q 9), .ref (q 11), .ref (q 15), .ref (q 16), .ref (q 20), .ref (q 23)])), ((q 1), .inr (4, [.ref (q 2), .ref (q 3), .ref (q 4), .int 0, .int 0, .int 0, .int 0, .int 0, .int 9, .int 0, .int (-1), .int 0, .int 0])), ((q 2), .inl (cI, 90, .inl (fun _ => 0))), ((q 3), .inl (cI, 12, .inl (fun _ => 0))), ((q 4), .inl (cI, 1880, .inl (fun _ => 0)))] := hD
  refine lv_istore_n (lv' := [(2, .int (-1)), (0, .ref (q 0)), (1, .int p1)]) hx hb dX8_plucks_9 rfl hl (by decide) rfl (fun ls hl => ?_)
  refine lv_iconst (v := 0) hx hb dX8_plucks_10 (by decide) ?_
  refine lv_istore_n (lv' := [(3, .int 0), (2, .int (-1)), (0, .ref (q 0)), (1, .int p1)]) hx hb dX8_plucks_11 rfl hl (by decide) rfl (fun ls hl => ?_)
  refine lv_iload_n hx hb dX8_plucks_12 rfl (lv_at hl 0 rfl) ?_
  refine lv_iload_n hx hb dX8_plucks_13 rfl (lv_at hl 1 rfl) ?_
  refine lv_icmp_gt (tgt := 43) hx hb dX8_plucks_14 (by decide) (fun _ => ?_) (fun c => absurd (by decide) c)
  refine lv_iconst (v := (-1)) hx hb dX8_plucks_43 (by decide) ?_
  exact gw_iret () hx hb hr hlocks (hP.sub [] rfl) (hD.sub [] (by decide) rfl) hS rfl dX8_plucks_44
