set_option maxHeartbeats 4000000 in
set_option maxRecDepth 100000 in
theorem c_textOf_0 (l : Launch) (G : va_G) (cI cJ cZ cB cT : ClassId) (q : Nat → Nat) (h : HS) : gMq l yX1_textOf (gws yX1_textOf cX1_textOf 2 (some (.object "GooseLetters$Text"))) 1 G (gT cI cJ cZ cB cT) [.ref (q 16), .int 0] (wC q cI cJ cZ cB cT h) (fun x (_ : Unit) => x = some (q 32)) (fun (_ : Unit) => (wC q cI cJ cZ cB cT h)) := by
  intro sz
  refine gM_start (y := yX1_textOf) (av := [.ref (q 16), .int 0]) (ws := (wC q cI cJ cZ cB cT h)) (Qf := fun A => va_Qq (fun x (_ : Unit) => x = some (q 32)) (gB G (fun (_ : Unit) => (wC q cI cJ cZ cB cT h)) A) A) (cc := cX1_textOf) (maxL := 2) (ret := (some (.object "GooseLetters$Text"))) (by decide) (Nat.le_of_ble_eq_true rfl) ?_
  intro p e s m args below meth c A ls H hx hb hr hts hown hin hlocks hml hP hK hD hA hS hl hE
  have hl : lv_has ls 2 [(0, .ref (q 16)), (1, .int 0)] := hl
  refine lv_iload_n hx hb dX1_textOf_0 rfl (lv_at hl 1 rfl) ?_
  refine lv_if_lt (tgt := 18) hx hb dX1_textOf_1 (by decide) (fun c => absurd c (by decide)) (fun _ => ?_)
  refine lv_iload_n hx hb dX1_textOf_4 rfl (lv_at hl 1 rfl) ?_
  refine lv_iconst (v := 4) hx hb dX1_textOf_5 (by decide) ?_
  refine lv_icmp_ge (tgt := 18) hx hb dX1_textOf_6 (by decide) (fun c => absurd c (by decide)) (fun _ => ?_)
  refine lv_aload_n hx hb dX1_textOf_9 rfl (lv_at hl 0 rfl) ?_
  refine va_get (D := G) (ci := 1) (v := .ref (q 17)) (C := RX1) (T := TX1) (N := 4) hx hb hts iX1 hown hK hP 16 wC_at16 rfl 0 (by decide) (hts _ m_553) (fun _ h9 => h9) rfl dX1_textOf_10 ?_
  refine lv_iload_n hx hb dX1_textOf_13 rfl (lv_at hl 1 rfl) ?_
  refine gw_aldq (x := some (q 32)) hx hb hK hP 17 4 0 wC_at17 rfl rfl (by decide) (by decide) rfl dX1_textOf_14 ?_
  refine lv_goto (tgt := 19) hx hb dX1_textOf_15 (by decide) ?_
  exact gw_qret () hx hb hr hlocks hP hD hS rfl dX1_textOf_19
theorem c_textOf_e0 (l : Launch) (G : va_G) (cI cJ cZ cB cT : ClassId) (q : Nat → Nat) (h : HS) (p1 : Int32) (e1 : p1 = 0) : gMq l yX1_textOf (gws yX1_textOf cX1_textOf 2 (some (.object "GooseLetters$Text"))) 1 G (gT cI cJ cZ cB cT) [.ref (q 16), .int p1] (wC q cI cJ cZ cB cT h) (fun x (_ : Unit) => x = some (q 32)) (fun (_ : Unit) => (wC q cI cJ cZ cB cT h)) := by
  subst e1
  exact c_textOf_0 l G cI cJ cZ cB cT q h
set_option maxHeartbeats 4000000 in
set_option maxRecDepth 100000 in
theorem c_textOf_1 (l : Launch) (G : va_G) (cI cJ cZ cB cT : ClassId) (q : Nat → Nat) (h : HS) : gMq l yX1_textOf (gws yX1_textOf cX1_textOf 2 (some (.object "GooseLetters$Text"))) 1 G (gT cI cJ cZ cB cT) [.ref (q 16), .int 1] (wC q cI cJ cZ cB cT h) (fun x (_ : Unit) => x = some (q 37)) (fun (_ : Unit) => (wC q cI cJ cZ cB cT h)) := by
  intro sz
  refine gM_start (y := yX1_textOf) (av := [.ref (q 16), .int 1]) (ws := (wC q cI cJ cZ cB cT h)) (Qf := fun A => va_Qq (fun x (_ : Unit) => x = some (q 37)) (gB G (fun (_ : Unit) => (wC q cI cJ cZ cB cT h)) A) A) (cc := cX1_textOf) (maxL := 2) (ret := (some (.object "GooseLetters$Text"))) (by decide) (Nat.le_of_ble_eq_true rfl) ?_
  intro p e s m args below meth c A ls H hx hb hr hts hown hin hlocks hml hP hK hD hA hS hl hE
  have hl : lv_has ls 2 [(0, .ref (q 16)), (1, .int 1)] := hl
  refine lv_iload_n hx hb dX1_textOf_0 rfl (lv_at hl 1 rfl) ?_
  refine lv_if_lt (tgt := 18) hx hb dX1_textOf_1 (by decide) (fun c => absurd c (by decide)) (fun _ => ?_)
  refine lv_iload_n hx hb dX1_textOf_4 rfl (lv_at hl 1 rfl) ?_
  refine lv_iconst (v := 4) hx hb dX1_textOf_5 (by decide) ?_
  refine lv_icmp_ge (tgt := 18) hx hb dX1_textOf_6 (by decide) (fun c => absurd c (by decide)) (fun _ => ?_)
  refine lv_aload_n hx hb dX1_textOf_9 rfl (lv_at hl 0 rfl) ?_
  refine va_get (D := G) (ci := 1) (v := .ref (q 17)) (C := RX1) (T := TX1) (N := 4) hx hb hts iX1 hown hK hP 16 wC_at16 rfl 0 (by decide) (hts _ m_553) (fun _ h9 => h9) rfl dX1_textOf_10 ?_
  refine lv_iload_n hx hb dX1_textOf_13 rfl (lv_at hl 1 rfl) ?_
  refine gw_aldq (x := some (q 37)) hx hb hK hP 17 4 1 wC_at17 rfl rfl (by decide) (by decide) rfl dX1_textOf_14 ?_
  refine lv_goto (tgt := 19) hx hb dX1_textOf_15 (by decide) ?_
  exact gw_qret () hx hb hr hlocks hP hD hS rfl dX1_textOf_19
theorem c_textOf_e1 (l : Launch) (G : va_G) (cI cJ cZ cB cT : ClassId) (q : Nat → Nat) (h : HS) (p1 : Int32) (e1 : p1 = 1) : gMq l yX1_textOf (gws yX1_textOf cX1_textOf 2 (some (.object "GooseLetters$Text"))) 1 G (gT cI cJ cZ cB cT) [.ref (q 16), .int p1] (wC q cI cJ cZ cB cT h) (fun x (_ : Unit) => x = some (q 37)) (fun (_ : Unit) => (wC q cI cJ cZ cB cT h)) := by
  subst e1
  exact c_textOf_1 l G cI cJ cZ cB cT q h
set_option maxHeartbeats 4000000 in
set_option maxRecDepth 100000 in
theorem c_textOf_2 (l : Launch) (G : va_G) (cI cJ cZ cB cT : ClassId) (q : Nat → Nat) (h : HS) : gMq l yX1_textOf (gws yX1_textOf cX1_textOf 2 (some (.object "GooseLetters$Text"))) 1 G (gT cI cJ cZ cB cT) [.ref (q 16), .int 2] (wC q cI cJ cZ cB cT h) (fun x (_ : Unit) => x = some (q 42)) (fun (_ : Unit) => (wC q cI cJ cZ cB cT h)) := by
  intro sz
  refine gM_start (y := yX1_textOf) (av := [.ref (q 16), .int 2]) (ws := (wC q cI cJ cZ cB cT h)) (Qf := fun A => va_Qq (fun x (_ : Unit) => x = some (q 42)) (gB G (fun (_ : Unit) => (wC q cI cJ cZ cB cT h)) A) A) (cc := cX1_textOf) (maxL := 2) (ret := (some (.object "GooseLetters$Text"))) (by decide) (Nat.le_of_ble_eq_true rfl) ?_
  intro p e s m args below meth c A ls H hx hb hr hts hown hin hlocks hml hP hK hD hA hS hl hE
  have hl : lv_has ls 2 [(0, .ref (q 16)), (1, .int 2)] := hl
  refine lv_iload_n hx hb dX1_textOf_0 rfl (lv_at hl 1 rfl) ?_
  refine lv_if_lt (tgt := 18) hx hb dX1_textOf_1 (by decide) (fun c => absurd c (by decide)) (fun _ => ?_)
  refine lv_iload_n hx hb dX1_textOf_4 rfl (lv_at hl 1 rfl) ?_
  refine lv_iconst (v := 4) hx hb dX1_textOf_5 (by decide) ?_
  refine lv_icmp_ge (tgt := 18) hx hb dX1_textOf_6 (by decide) (fun c => absurd c (by decide)) (fun _ => ?_)
  refine lv_aload_n hx hb dX1_textOf_9 rfl (lv_at hl 0 rfl) ?_
  refine va_get (D := G) (ci := 1) (v := .ref (q 17)) (C := RX1) (T := TX1) (N := 4) hx hb hts iX1 hown hK hP 16 wC_at16 rfl 0 (by decide) (hts _ m_553) (fun _ h9 => h9) rfl dX1_textOf_10 ?_
  refine lv_iload_n hx hb dX1_textOf_13 rfl (lv_at hl 1 rfl) ?_
  refine gw_aldq (x := some (q 42)) hx hb hK hP 17 4 2 wC_at17 rfl rfl (by decide) (by decide) rfl dX1_textOf_14 ?_
  refine lv_goto (tgt := 19) hx hb dX1_textOf_15 (by decide) ?_
  exact gw_qret () hx hb hr hlocks hP hD hS rfl dX1_textOf_19
theorem c_textOf_e2 (l : Launch) (G : va_G) (cI cJ cZ cB cT : ClassId) (q : Nat → Nat) (h : HS) (p1 : Int32) (e1 : p1 = 2) : gMq l yX1_textOf (gws yX1_textOf cX1_textOf 2 (some (.object "GooseLetters$Text"))) 1 G (gT cI cJ cZ cB cT) [.ref (q 16), .int p1] (wC q cI cJ cZ cB cT h) (fun x (_ : Unit) => x = some (q 42)) (fun (_ : Unit) => (wC q cI cJ cZ cB cT h)) := by
  subst e1
  exact c_textOf_2 l G cI cJ cZ cB cT q h
set_option maxHeartbeats 4000000 in
set_option maxRecDepth 100000 in
theorem c_textOf_3 (l : Launch) (G : va_G) (cI cJ cZ cB cT : ClassId) (q : Nat → Nat) (h : HS) : gMq l yX1_textOf (gws yX1_textOf cX1_textOf 2 (some (.object "GooseLetters$Text"))) 1 G (gT cI cJ cZ cB cT) [.ref (q 16), .int 3] (wC q cI cJ cZ cB cT h) (fun x (_ : Unit) => x = some (q 47)) (fun (_ : Unit) => (wC q cI cJ cZ cB cT h)) := by
  intro sz
  refine gM_start (y := yX1_textOf) (av := [.ref (q 16), .int 3]) (ws := (wC q cI cJ cZ cB cT h)) (Qf := fun A => va_Qq (fun x (_ : Unit) => x = some (q 47)) (gB G (fun (_ : Unit) => (wC q cI cJ cZ cB cT h)) A) A) (cc := cX1_textOf) (maxL := 2) (ret := (some (.object "GooseLetters$Text"))) (by decide) (Nat.le_of_ble_eq_true rfl) ?_
  intro p e s m args below meth c A ls H hx hb hr hts hown hin hlocks hml hP hK hD hA hS hl hE
  have hl : lv_has ls 2 [(0, .ref (q 16)), (1, .int 3)] := hl
  refine lv_iload_n hx hb dX1_textOf_0 rfl (lv_at hl 1 rfl) ?_
  refine lv_if_lt (tgt := 18) hx hb dX1_textOf_1 (by decide) (fun c => absurd c (by decide)) (fun _ => ?_)
  refine lv_iload_n hx hb dX1_textOf_4 rfl (lv_at hl 1 rfl) ?_
  refine lv_iconst (v := 4) hx hb dX1_textOf_5 (by decide) ?_
  refine lv_icmp_ge (tgt := 18) hx hb dX1_textOf_6 (by decide) (fun c => absurd c (by decide)) (fun _ => ?_)
  refine lv_aload_n hx hb dX1_textOf_9 rfl (lv_at hl 0 rfl) ?_
  refine va_get (D := G) (ci := 1) (v := .ref (q 17)) (C := RX1) (T := TX1) (N := 4) hx hb hts iX1 hown hK hP 16 wC_at16 rfl 0 (by decide) (hts _ m_553) (fun _ h9 => h9) rfl dX1_textOf_10 ?_
  refine lv_iload_n hx hb dX1_textOf_13 rfl (lv_at hl 1 rfl) ?_
  refine gw_aldq (x := some (q 47)) hx hb hK hP 17 4 3 wC_at17 rfl rfl (by decide) (by decide) rfl dX1_textOf_14 ?_
  refine lv_goto (tgt := 19) hx hb dX1_textOf_15 (by decide) ?_
  exact gw_qret () hx hb hr hlocks hP hD hS rfl dX1_textOf_19
theorem c_textOf_e3 (l : Launch) (G : va_G) (cI cJ cZ cB cT : ClassId) (q : Nat → Nat) (h : HS) (p1 : Int32) (e1 : p1 = 3) : gMq l yX1_textOf (gws yX1_textOf cX1_textOf 2 (some (.object "GooseLetters$Text"))) 1 G (gT cI cJ cZ cB cT) [.ref (q 16), .int p1] (wC q cI cJ cZ cB cT h) (fun x (_ : Unit) => x = some (q 47)) (fun (_ : Unit) => (wC q cI cJ cZ cB cT h)) := by
  subst e1
  exact c_textOf_3 l G cI cJ cZ cB cT q h
set_option maxHeartbeats 4000000 in
set_option maxRecDepth 100000 in
theorem c_textOf_no (l : Launch) (G : va_G) (cI cJ cZ cB cT : ClassId) (q : Nat → Nat) (h : HS) (p1 : Int32) (n0 : ¬ p1 = 0) (n1 : ¬ p1 = 1) (n2 : ¬ p1 = 2) (n3 : ¬ p1 = 3) : gMq l yX1_textOf (gws yX1_textOf cX1_textOf 2 (some (.object "GooseLetters$Text"))) 1 G (gT cI cJ cZ cB cT) [.ref (q 16), .int p1] (wC q cI cJ cZ cB cT h) (fun x (_ : Unit) => x = none) (fun (_ : Unit) => (wC q cI cJ cZ cB cT h)) := by
  intro sz
  refine gM_start (y := yX1_textOf) (av := [.ref (q 16), .int p1]) (ws := (wC q cI cJ cZ cB cT h)) (Qf := fun A => va_Qq (fun x (_ : Unit) => x = none) (gB G (fun (_ : Unit) => (wC q cI cJ cZ cB cT h)) A) A) (cc := cX1_textOf) (maxL := 2) (ret := (some (.object "GooseLetters$Text"))) (by decide) (Nat.le_of_ble_eq_true rfl) ?_
  intro p e s m args below meth c A ls H hx hb hr hts hown hin hlocks hml hP hK hD hA hS hl hE
  have hl : lv_has ls 2 [(0, .ref (q 16)), (1, .int p1)] := hl
  refine lv_iload_n hx hb dX1_textOf_0 rfl (lv_at hl 1 rfl) ?_
  refine lv_if_lt (tgt := 18) hx hb dX1_textOf_1 (by decide) (fun _ => ?_) (fun c1 => ?_)
  · refine lv_null hx hb dX1_textOf_18 ?_
    exact gw_qret (v := none) () hx hb hr hlocks hP hD hS rfl dX1_textOf_19
  · refine lv_iload_n hx hb dX1_textOf_4 rfl (lv_at hl 1 rfl) ?_
    refine lv_iconst (v := 4) hx hb dX1_textOf_5 (by decide) ?_
    have h4 : 4 ≤ p1 := gi_le (by have := gi_of_nlt c1; have := gi_of_ne n0; have := gi_of_ne n1; have := gi_of_ne n2; have := gi_of_ne n3; have : (0 : Int32).toInt = 0 := (by decide); have : (1 : Int32).toInt = 1 := (by decide); have : (2 : Int32).toInt = 2 := (by decide); have : (3 : Int32).toInt = 3 := (by decide); have : (4 : Int32).toInt = 4 := (by decide); omega)
    refine lv_icmp_ge (tgt := 18) hx hb dX1_textOf_6 (by decide) (fun _ => ?_) (fun c => absurd h4 c)
    refine lv_null hx hb dX1_textOf_18 ?_
    exact gw_qret (v := none) () hx hb hr hlocks hP hD hS rfl dX1_textOf_19
