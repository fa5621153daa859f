def v_X9_in (p1 : Int32) (p2 : Int32) (p3 : Int32) : Int32 := (if p1 < p2 then 0 else (if p3 < p1 then 0 else 1))
theorem vz_X9_in (p1 : Int32) (p2 : Int32) (p3 : Int32) : v_X9_in p1 p2 p3 = 0 ∨ v_X9_in p1 p2 p3 = 1 := by
  unfold v_X9_in
  (repeat' split) <;> first | exact Or.inl rfl | exact Or.inr rfl
set_option maxHeartbeats 4000000 in
set_option maxRecDepth 100000 in
theorem c_X9_in (l : Launch) (G : va_G) (cI cJ cZ cB cT : ClassId) (p1 : Int32) (p2 : Int32) (p3 : Int32)  : gMi l yX9_in wsX9_in 1 G (gT cI cJ cZ cB cT) [.int p1, .int p2, .int p3] [] (fun r (_ : Unit) => r = (v_X9_in p1 p2 p3)) (fun (_ : Unit) => ([] : va_W)) := by
  intro sz
  refine gM_start (Qf := fun A => va_Qi (fun r (_ : Unit) => r = (v_X9_in p1 p2 p3)) (gB G (fun (_ : Unit) => ([] : va_W)) A) A) (cc := cX9_in) (maxL := 3) (ret := (some .boolean)) (by decide) rfl (Nat.le_of_ble_eq_true rfl) ?_
  intro p e s m args below meth c A ls H hx hb hr hts hown hin hlocks hml hP hK hD hA hS hl
  have hl : lv_has ls 3 [(0, .int p1), (1, .int p2), (2, .int p3)] := hl
  refine lv_iload_n hx hb dX9_in_0 rfl (lv_at hl 0 rfl) ?_
  refine lv_iload_n hx hb dX9_in_1 rfl (lv_at hl 1 rfl) ?_
  refine lv_icmp_lt (tgt := 14) hx hb dX9_in_2 (by decide) (fun c_1 => ?_) (fun c_1 => ?_)
  · refine lv_iconst (v := 0) hx hb dX9_in_14 (by decide) ?_
    exact gw_zret () hx hb hr hlocks rfl hP hD hS (by rw [v_X9_in, if_pos c_1]) dX9_in_15
  · refine lv_iload_n hx hb dX9_in_5 rfl (lv_at hl 0 rfl) ?_
    refine lv_iload_n hx hb dX9_in_6 rfl (lv_at hl 2 rfl) ?_
    refine lv_icmp_gt (tgt := 14) hx hb dX9_in_7 (by decide) (fun c_2 => ?_) (fun c_2 => ?_)
    · refine lv_iconst (v := 0) hx hb dX9_in_14 (by decide) ?_
      exact gw_zret () hx hb hr hlocks rfl hP hD hS (by rw [v_X9_in, if_neg c_1, if_pos c_2]) dX9_in_15
    · refine lv_iconst (v := 1) hx hb dX9_in_10 (by decide) ?_
      refine lv_goto (tgt := 15) hx hb dX9_in_11 (by decide) ?_
      exact gw_zret () hx hb hr hlocks rfl hP hD hS (by rw [v_X9_in, if_neg c_1, if_neg c_2]) dX9_in_15
set_option maxHeartbeats 4000000 in
set_option maxRecDepth 100000 in
/-- an empty stretch -/
theorem c_in_e (l : Launch) (G : va_G) (cI cJ cZ cB cT : ClassId) (p1 : Int32)  : gMi l yX9_in wsX9_in 1 G (gT cI cJ cZ cB cT) [.int p1, .int 0, .int (-1)] [] (fun r (_ : Unit) => r = 0) (fun (_ : Unit) => ([] : va_W)) := by
  intro sz
  refine gM_start (Qf := fun A => va_Qi (fun r (_ : Unit) => r = 0) (gB G (fun (_ : Unit) => ([] : va_W)) A) A) (cc := cX9_in) (maxL := 3) (ret := (some .boolean)) (by decide) rfl (Nat.le_of_ble_eq_true rfl) ?_
  intro p e s m args below meth c A ls H hx hb hr hts hown hin hlocks hml hP hK hD hA hS hl
  have hl : lv_has ls 3 [(0, .int p1), (1, .int 0), (2, .int (-1))] := hl
  refine lv_iload_n hx hb dX9_in_0 rfl (lv_at hl 0 rfl) ?_
  refine lv_iload_n hx hb dX9_in_1 rfl (lv_at hl 1 rfl) ?_
  refine lv_icmp_lt (tgt := 14) hx hb dX9_in_2 (by decide) (fun c_1 => ?_) (fun c_1 => ?_)
  · refine lv_iconst (v := 0) hx hb dX9_in_14 (by decide) ?_
    exact gw_zret () hx hb hr hlocks rfl hP hD hS rfl dX9_in_15
  · refine lv_iload_n hx hb dX9_in_5 rfl (lv_at hl 0 rfl) ?_
    refine lv_iload_n hx hb dX9_in_6 rfl (lv_at hl 2 rfl) ?_
    refine lv_icmp_gt (tgt := 14) hx hb dX9_in_7 (by decide) (fun _ => ?_) (fun c => absurd (gi_lt (by have := gi_of_nlt c_1; have : ((-1) : Int32).toInt = (-1) := (by decide); have : (0 : Int32).toInt = 0 := (by decide); omega)) c)
    refine lv_iconst (v := 0) hx hb dX9_in_14 (by decide) ?_
    exact gw_zret () hx hb hr hlocks rfl hP hD hS rfl dX9_in_15
theorem e_X9_in : yX9_in.cls = RX9 ∧ yX9_in.cls ≠ "java/lang/invoke/MethodHandle" ∧ yX9_in.cls ≠ "java/lang/invoke/VarHandle" ∧ (parseMethodDescriptor yX9_in.desc).map (fun d => d.parameters.length) = some 3 := by decide +kernel
set_option maxHeartbeats 4000000 in
set_option maxRecDepth 100000 in
theorem c_X9_isLetterNumber (l : Launch) (G : va_G) (cI cJ cZ cB cT : ClassId) (p1 : Int32)  : gMi l yX9_isLetterNumber wsX9_isLetterNumber 2 G (gT cI cJ cZ cB cT) [.int p1] [] (fun r (_ : Unit) => r = (v_X9_in p1 0 5)) (fun (_ : Unit) => ([] : va_W)) := by
  intro sz
  refine gM_start (Qf := fun A => va_Qi (fun r (_ : Unit) => r = (v_X9_in p1 0 5)) (gB G (fun (_ : Unit) => ([] : va_W)) A) A) (cc := cX9_isLetterNumber) (maxL := 1) (ret := (some .boolean)) (by decide) rfl (Nat.le_of_ble_eq_true rfl) ?_
  intro p e s m args below meth c A ls H hx hb hr hts hown hin hlocks hml hP hK hD hA hS hl
  have hl : lv_has ls 1 [(0, .int p1)] := hl
  refine lv_iload_n hx hb dX9_isLetterNumber_0 rfl (lv_at hl 0 rfl) ?_
  refine lv_iconst (v := 0) hx hb dX9_isLetterNumber_1 (by decide) ?_
  refine lv_iconst (v := 5) hx hb dX9_isLetterNumber_2 (by decide) ?_
  refine gw_calli (gw_runS (As := [.int p1, .int 0, .int 5]) (rest := []) ⟨hx, hb, hml, hown, hts⟩ (c_X9_in l G cI cJ cZ cB cT p1 0 5  H.size) gX9_isLetterNumber_X9_in rfl e_X9_in ⟨Nat.le_of_ble_eq_true rfl, Nat.le_of_ble_eq_true rfl⟩ hK hP hD [] rfl (by decide) rfl rfl hl.1 rfl (Nat.le_of_ble_eq_true rfl) dX9_isLetterNumber_3 ⟨Nat.le_of_ble_eq_true rfl, Nat.le_of_ble_eq_true rfl⟩) hP hD hS hA [] [] rfl rfl (by decide) (by decide) (fun r_1 u_1 H locs hw_1 hP hD hS => ?_)
  subst hw_1
  have hP : va_P G vwCl [] H := hP
  have hD : va_D A [] := hD
  exact gw_zret () hx hb hr hlocks (gz (vz_X9_in _ _ _)) hP hD hS rfl dX9_isLetterNumber_6
def v_X9_isQuill (p1 : Int32) (p2 : Int32) : Int32 := (if (v_X9_in p1 0 5) = 0 then 0 else (if (v_X9_in p2 0 2) = 0 then 0 else 1))
theorem vz_X9_isQuill (p1 : Int32) (p2 : Int32) : v_X9_isQuill p1 p2 = 0 ∨ v_X9_isQuill p1 p2 = 1 := by
  unfold v_X9_isQuill
  (repeat' split) <;> first | exact Or.inl rfl | exact Or.inr rfl
set_option maxHeartbeats 4000000 in
set_option maxRecDepth 100000 in
theorem c_X9_isQuill (l : Launch) (G : va_G) (cI cJ cZ cB cT : ClassId) (p1 : Int32) (p2 : Int32)  : gMi l yX9_isQuill wsX9_isQuill 2 G (gT cI cJ cZ cB cT) [.int p1, .int p2] [] (fun r (_ : Unit) => r = (v_X9_isQuill p1 p2)) (fun (_ : Unit) => ([] : va_W)) := by
  intro sz
  refine gM_start (Qf := fun A => va_Qi (fun r (_ : Unit) => r = (v_X9_isQuill p1 p2)) (gB G (fun (_ : Unit) => ([] : va_W)) A) A) (cc := cX9_isQuill) (maxL := 2) (ret := (some .boolean)) (by decide) rfl (Nat.le_of_ble_eq_true rfl) ?_
  intro p e s m args below meth c A ls H hx hb hr hts hown hin hlocks hml hP hK hD hA hS hl
  have hl : lv_has ls 2 [(0, .int p1), (1, .int p2)] := hl
  refine lv_iload_n hx hb dX9_isQuill_0 rfl (lv_at hl 0 rfl) ?_
  refine lv_iconst (v := 0) hx hb dX9_isQuill_1 (by decide) ?_
  refine lv_iconst (v := 5) hx hb dX9_isQuill_2 (by decide) ?_
  refine gw_calli (gw_runS (As := [.int p1, .int 0, .int 5]) (rest := []) ⟨hx, hb, hml, hown, hts⟩ (c_X9_in l G cI cJ cZ cB cT p1 0 5  H.size) gX9_isQuill_X9_in rfl e_X9_in ⟨Nat.le_of_ble_eq_true rfl, Nat.le_of_ble_eq_true rfl⟩ hK hP hD [] rfl (by decide) rfl rfl hl.1 rfl (Nat.le_of_ble_eq_true rfl) dX9_isQuill_3 ⟨Nat.le_of_ble_eq_true rfl, Nat.le_of_ble_eq_true rfl⟩) hP hD hS hA [] [] rfl rfl (by decide) (by decide) (fun r_1 u_1 H locs hw_1 hP hD hS => ?_)
  subst hw_1
  have hP : va_P G vwCl [] H := hP
  have hD : va_D A [] := hD
  refine lv_if_eq (tgt := 22) hx hb dX9_isQuill_6 (by decide) (fun c_2 => ?_) (fun c_2 => ?_)
  · refine lv_iconst (v := 0) hx hb dX9_isQuill_22 (by decide) ?_
    exact gw_zret () hx hb hr hlocks rfl hP hD hS (by rw [v_X9_isQuill, if_pos c_2]) dX9_isQuill_23
  · refine lv_iload_n hx hb dX9_isQuill_9 rfl (lv_at hl 1 rfl) ?_
    refine lv_iconst (v := 0) hx hb dX9_isQuill_10 (by decide) ?_
    refine lv_iconst (v := 2) hx hb dX9_isQuill_11 (by decide) ?_
    refine gw_calli (gw_runS (As := [.int p2, .int 0, .int 2]) (rest := []) ⟨hx, hb, hml, hown, hts⟩ (c_X9_in l G cI cJ cZ cB cT p2 0 2  H.size) gX9_isQuill_X9_in rfl e_X9_in ⟨Nat.le_of_ble_eq_true rfl, Nat.le_of_ble_eq_true rfl⟩ hK hP hD [] rfl (by decide) rfl rfl hl.1 rfl (Nat.le_of_ble_eq_true rfl) dX9_isQuill_12 ⟨Nat.le_of_ble_eq_true rfl, Nat.le_of_ble_eq_true rfl⟩) hP hD hS hA [] [] rfl rfl (by decide) (by decide) (fun r_3 u_3 H locs hw_3 hP hD hS => ?_)
    subst hw_3
    have hP : va_P G vwCl [] H := hP
    have hD : va_D A [] := hD
    refine lv_if_eq (tgt := 22) hx hb dX9_isQuill_15 (by decide) (fun c_4 => ?_) (fun c_4 => ?_)
    · refine lv_iconst (v := 0) hx hb dX9_isQuill_22 (by decide) ?_
      exact gw_zret () hx hb hr hlocks rfl hP hD hS (by rw [v_X9_isQuill, if_neg c_2, if_pos c_4]) dX9_isQuill_23
    · refine lv_iconst (v := 1) hx hb dX9_isQuill_18 (by decide) ?_
      refine lv_goto (tgt := 23) hx hb dX9_isQuill_19 (by decide) ?_
      exact gw_zret () hx hb hr hlocks rfl hP hD hS (by rw [v_X9_isQuill, if_neg c_2, if_neg c_4]) dX9_isQuill_23
set_option maxHeartbeats 4000000 in
set_option maxRecDepth 100000 in
theorem c_X9_isMarket (l : Launch) (G : va_G) (cI cJ cZ cB cT : ClassId) (m0 : Nat) (r : Nat → Nat) (p1 : Int32)  : gMi l yX9_isMarket wsX9_isMarket 2 G (gT cI cJ cZ cB cT) [.ref m0, .int p1] [(m0, .inr (9, [.ref (r 0), .ref (r 1), .ref (r 2), .int 0, .int (-1), .int (-1), .ref (r 6), .ref (r 7), .ref (r 8), .ref (r 9), .ref (r 10), .ref (r 11), .ref (r 12), .ref (r 13), .int 0, .int 0, .int 0, .int 0, .int 0, .int 0, .int 0, .int 0, .int 0, .ref (r 23), .ref (r 24), .int 0, .ref (r 26), .ref (r 27), .int 0, .int 0, .int 0, .ref (r 31), .ref (r 32), .ref (r 33), .ref (r 34), .ref (r 35), .int 0, .ref (r 37), .ref (r 38), .ref (r 39), .ref (r 40), .ref (r 41), .ref (r 42), .ref (r 43), .ref (r 44), .ref (r 45), .ref (r 46), .int 0, .ref (r 48), .ref (r 49), .ref (r 50), .ref (r 51), .long 0])), ((r 0), .inl (cI, 1990, .inl (upd (upd (fun _ => 0) 4 (-1)) 122 9)))] (fun r (_ : Unit) => r = 0) (fun (_ : Unit) => ([(m0, .inr (9, [.ref (r 0), .ref (r 1), .ref (r 2), .int 0, .int (-1), .int (-1), .ref (r 6), .ref (r 7), .ref (r 8), .ref (r 9), .ref (r 10), .ref (r 11), .ref (r 12), .ref (r 13), .int 0, .int 0, .int 0, .int 0, .int 0, .int 0, .int 0, .int 0, .int 0, .ref (r 23), .ref (r 24), .int 0, .ref (r 26), .ref (r 27), .int 0, .int 0, .int 0, .ref (r 31), .ref (r 32), .ref (r 33), .ref (r 34), .ref (r 35), .int 0, .ref (r 37), .ref (r 38), .ref (r 39), .ref (r 40), .ref (r 41), .ref (r 42), .ref (r 43), .ref (r 44), .ref (r 45), .ref (r 46), .int 0, .ref (r 48), .ref (r 49), .ref (r 50), .ref (r 51), .long 0])), ((r 0), .inl (cI, 1990, .inl (upd (upd (fun _ => 0) 4 (-1)) 122 9)))] : va_W)) := by
  intro sz
  refine gM_start (Qf := fun A => va_Qi (fun r (_ : Unit) => r = 0) (gB G (fun (_ : Unit) => ([(m0, .inr (9, [.ref (r 0), .ref (r 1), .ref (r 2), .int 0, .int (-1), .int (-1), .ref (r 6), .ref (r 7), .ref (r 8), .ref (r 9), .ref (r 10), .ref (r 11), .ref (r 12), .ref (r 13), .int 0, .int 0, .int 0, .int 0, .int 0, .int 0, .int 0, .int 0, .int 0, .ref (r 23), .ref (r 24), .int 0, .ref (r 26), .ref (r 27), .int 0, .int 0, .int 0, .ref (r 31), .ref (r 32), .ref (r 33), .ref (r 34), .ref (r 35), .int 0, .ref (r 37), .ref (r 38), .ref (r 39), .ref (r 40), .ref (r 41), .ref (r 42), .ref (r 43), .ref (r 44), .ref (r 45), .ref (r 46), .int 0, .ref (r 48), .ref (r 49), .ref (r 50), .ref (r 51), .long 0])), ((r 0), .inl (cI, 1990, .inl (upd (upd (fun _ => 0) 4 (-1)) 122 9)))] : va_W)) A) A) (cc := cX9_isMarket) (maxL := 2) (ret := (some .boolean)) (by decide) rfl (Nat.le_of_ble_eq_true rfl) ?_
  intro p e s m args below meth c A ls H hx hb hr hts hown hin hlocks hml hP hK hD hA hS hl
  have hl : lv_has ls 2 [(0, .ref m0), (1, .int p1)] := hl
  have iX9 : ∀ w ∈ u_ws RX9 TX9 53, w ∈ wsX9_isMarket := by decide +kernel
  refine lv_iload_n hx hb dX9_isMarket_0 rfl (lv_at hl 1 rfl) ?_
  refine lv_iconst (v := 0) hx hb dX9_isMarket_1 (by decide) ?_
  refine lv_aload_n hx hb dX9_isMarket_2 rfl (lv_at hl 0 rfl) ?_
  refine va_get (D := G) (ci := 9) (v := .ref (r 0)) (C := RX9) (T := TX9) (N := 53) hx hb hts iX9 hown hK hP 0 rfl rfl 0 (by decide) (hts (.fieldLink RX9 7 "GooseLettersModel" "a" "[I") (by decide +kernel)) (fun _ h9 => h9) rfl dX9_isMarket_3 ?_
  refine lv_iconst (v := 0) hx hb dX9_isMarket_6 (by decide) ?_
  refine gw_iald (x := 0) hx hb hK hP 1 0 0 rfl rfl rfl (by decide) (by decide) rfl dX9_isMarket_7 ?_
  refine lv_iconst (v := 1) hx hb dX9_isMarket_8 (by decide) ?_
  refine lv_isub hx hb dX9_isMarket_9 ?_
  refine gw_topi (y := (-1)) (by decide) ?_
  refine gw_calli (gw_runS (As := [.int p1, .int 0, .int (-1)]) (rest := []) ⟨hx, hb, hml, hown, hts⟩ (c_in_e l G cI cJ cZ cB cT p1  H.size) gX9_isMarket_X9_in rfl e_X9_in ⟨Nat.le_of_ble_eq_true rfl, Nat.le_of_ble_eq_true rfl⟩ hK hP hD [] rfl (by decide) rfl rfl hl.1 rfl (Nat.le_of_ble_eq_true rfl) dX9_isMarket_10 ⟨Nat.le_of_ble_eq_true rfl, Nat.le_of_ble_eq_true rfl⟩) hP hD hS hA [] [0, 1] rfl rfl (by decide) (by decide) (fun r_1 u_1 H locs hw_1 hP hD hS => ?_)
  subst hw_1
  have hP : va_P G vwCl [(m0, .inr (9, [.ref (r 0), .ref (r 1), .ref (r 2), .int 0, .int (-1), .int (-1), .ref (r 6), .ref (r 7), .ref (r 8), .ref (r 9), .ref (r 10), .ref (r 11), .ref (r 12), .ref (r 13), .int 0, .int 0, .int 0, .int 0, .int 0, .int 0, .int 0, .int 0, .int 0, .ref (r 23), .ref (r 24), .int 0, .ref (r 26), .ref (r 27), .int 0, .int 0, .int 0, .ref (r 31), .ref (r 32), .ref (r 33), .ref (r 34), .ref (r 35), .int 0, .ref (r 37), .ref (r 38), .ref (r 39), .ref (r 40), .ref (r 41), .ref (r 42), .ref (r 43), .ref (r 44), .ref (r 45), .ref (r 46), .int 0, .ref (r 48), .ref (r 49), .ref (r 50), .ref (r 51), .long 0])), ((r 0), .inl (cI, 1990, .inl (upd (upd (fun _ => 0) 4 (-1)) 122 9)))] H := hP
  have hD : va_D A [(m0, .inr (9, [.ref (r 0), .ref (r 1), .ref (r 2), .int 0, .int (-1), .int (-1), .ref (r 6), .ref (r 7), .ref (r 8), .ref (r 9), .ref (r 10), .ref (r 11), .ref (r 12), .ref (r 13), .int 0, .int 0, .int 0, .int 0, .int 0, .int 0, .int 0, .int 0, .int 0, .ref (r 23), .ref (r 24), .int 0, .ref (r 26), .ref (r 27), .int 0, .int 0, .int 0, .ref (r 31), .ref (r 32), .ref (r 33), .ref (r 34), .ref (r 35), .int 0, .ref (r 37), .ref (r 38), .ref (r 39), .ref (r 40), .ref (r 41), .ref (r 42), .ref (r 43), .ref (r 44), .ref (r 45), .ref (r 46), .int 0, .ref (r 48), .ref (r 49), .ref (r 50), .ref (r 51), .long 0])), ((r 0), .inl (cI, 1990, .inl (upd (upd (fun _ => 0) 4 (-1)) 122 9)))] := hD
  exact gw_zret () hx hb hr hlocks rfl hP hD hS rfl dX9_isMarket_13
set_option maxHeartbeats 4000000 in
set_option maxRecDepth 100000 in
theorem c_X9_isGoose (l : Launch) (G : va_G) (cI cJ cZ cB cT : ClassId) (m0 : Nat) (r : Nat → Nat) (p1 : Int32)  : gMi l yX9_isGoose wsX9_isGoose 2 G (gT cI cJ cZ cB cT) [.ref m0, .int p1] [(m0, .inr (9, [.ref (r 0), .ref (r 1), .ref (r 2), .int 0, .int (-1), .int (-1), .ref (r 6), .ref (r 7), .ref (r 8), .ref (r 9), .ref (r 10), .ref (r 11), .ref (r 12), .ref (r 13), .int 0, .int 0, .int 0, .int 0, .int 0, .int 0, .int 0, .int 0, .int 0, .ref (r 23), .ref (r 24), .int 0, .ref (r 26), .ref (r 27), .int 0, .int 0, .int 0, .ref (r 31), .ref (r 32), .ref (r 33), .ref (r 34), .ref (r 35), .int 0, .ref (r 37), .ref (r 38), .ref (r 39), .ref (r 40), .ref (r 41), .ref (r 42), .ref (r 43), .ref (r 44), .ref (r 45), .ref (r 46), .int 0, .ref (r 48), .ref (r 49), .ref (r 50), .ref (r 51), .long 0])), ((r 0), .inl (cI, 1990, .inl (upd (upd (fun _ => 0) 4 (-1)) 122 9)))] (fun r (_ : Unit) => r = 0) (fun (_ : Unit) => ([(m0, .inr (9, [.ref (r 0), .ref (r 1), .ref (r 2), .int 0, .int (-1), .int (-1), .ref (r 6), .ref (r 7), .ref (r 8), .ref (r 9), .ref (r 10), .ref (r 11), .ref (r 12), .ref (r 13), .int 0, .int 0, .int 0, .int 0, .int 0, .int 0, .int 0, .int 0, .int 0, .ref (r 23), .ref (r 24), .int 0, .ref (r 26), .ref (r 27), .int 0, .int 0, .int 0, .ref (r 31), .ref (r 32), .ref (r 33), .ref (r 34), .ref (r 35), .int 0, .ref (r 37), .ref (r 38), .ref (r 39), .ref (r 40), .ref (r 41), .ref (r 42), .ref (r 43), .ref (r 44), .ref (r 45), .ref (r 46), .int 0, .ref (r 48), .ref (r 49), .ref (r 50), .ref (r 51), .long 0])), ((r 0), .inl (cI, 1990, .inl (upd (upd (fun _ => 0) 4 (-1)) 122 9)))] : va_W)) := by
  intro sz
  refine gM_start (Qf := fun A => va_Qi (fun r (_ : Unit) => r = 0) (gB G (fun (_ : Unit) => ([(m0, .inr (9, [.ref (r 0), .ref (r 1), .ref (r 2), .int 0, .int (-1), .int (-1), .ref (r 6), .ref (r 7), .ref (r 8), .ref (r 9), .ref (r 10), .ref (r 11), .ref (r 12), .ref (r 13), .int 0, .int 0, .int 0, .int 0, .int 0, .int 0, .int 0, .int 0, .int 0, .ref (r 23), .ref (r 24), .int 0, .ref (r 26), .ref (r 27), .int 0, .int 0, .int 0, .ref (r 31), .ref (r 32), .ref (r 33), .ref (r 34), .ref (r 35), .int 0, .ref (r 37), .ref (r 38), .ref (r 39), .ref (r 40), .ref (r 41), .ref (r 42), .ref (r 43), .ref (r 44), .ref (r 45), .ref (r 46), .int 0, .ref (r 48), .ref (r 49), .ref (r 50), .ref (r 51), .long 0])), ((r 0), .inl (cI, 1990, .inl (upd (upd (fun _ => 0) 4 (-1)) 122 9)))] : va_W)) A) A) (cc := cX9_isGoose) (maxL := 2) (ret := (some .boolean)) (by decide) rfl (Nat.le_of_ble_eq_true rfl) ?_
  intro p e s m args below meth c A ls H hx hb hr hts hown hin hlocks hml hP hK hD hA hS hl
  have hl : lv_has ls 2 [(0, .ref m0), (1, .int p1)] := hl
  have iX9 : ∀ w ∈ u_ws RX9 TX9 53, w ∈ wsX9_isGoose := by decide +kernel
  refine lv_iload_n hx hb dX9_isGoose_0 rfl (lv_at hl 1 rfl) ?_
  refine lv_iconst (v := 0) hx hb dX9_isGoose_1 (by decide) ?_
  refine lv_aload_n hx hb dX9_isGoose_2 rfl (lv_at hl 0 rfl) ?_
  refine va_get (D := G) (ci := 9) (v := .ref (r 0)) (C := RX9) (T := TX9) (N := 53) hx hb hts iX9 hown hK hP 0 rfl rfl 0 (by decide) (hts (.fieldLink RX9 7 "GooseLettersModel" "a" "[I") (by decide +kernel)) (fun _ h9 => h9) rfl dX9_isGoose_3 ?_
  refine lv_iconst (v := 1) hx hb dX9_isGoose_6 (by decide) ?_
  refine gw_iald (x := 0) hx hb hK hP 1 0 1 rfl rfl rfl (by decide) (by decide) rfl dX9_isGoose_7 ?_
  refine lv_iconst (v := 1) hx hb dX9_isGoose_8 (by decide) ?_
  refine lv_isub hx hb dX9_isGoose_9 ?_
  refine gw_topi (y := (-1)) (by decide) ?_
  refine gw_calli (gw_runS (As := [.int p1, .int 0, .int (-1)]) (rest := []) ⟨hx, hb, hml, hown, hts⟩ (c_in_e l G cI cJ cZ cB cT p1  H.size) gX9_isGoose_X9_in rfl e_X9_in ⟨Nat.le_of_ble_eq_true rfl, Nat.le_of_ble_eq_true rfl⟩ hK hP hD [] rfl (by decide) rfl rfl hl.1 rfl (Nat.le_of_ble_eq_true rfl) dX9_isGoose_10 ⟨Nat.le_of_ble_eq_true rfl, Nat.le_of_ble_eq_true rfl⟩) hP hD hS hA [] [0, 1] rfl rfl (by decide) (by decide) (fun r_1 u_1 H locs hw_1 hP hD hS => ?_)
  subst hw_1
  have hP : va_P G vwCl [(m0, .inr (9, [.ref (r 0), .ref (r 1), .ref (r 2), .int 0, .int (-1), .int (-1), .ref (r 6), .ref (r 7), .ref (r 8), .ref (r 9), .ref (r 10), .ref (r 11), .ref (r 12), .ref (r 13), .int 0, .int 0, .int 0, .int 0, .int 0, .int 0, .int 0, .int 0, .int 0, .ref (r 23), .ref (r 24), .int 0, .ref (r 26), .ref (r 27), .int 0, .int 0, .int 0, .ref (r 31), .ref (r 32), .ref (r 33), .ref (r 34), .ref (r 35), .int 0, .ref (r 37), .ref (r 38), .ref (r 39), .ref (r 40), .ref (r 41), .ref (r 42), .ref (r 43), .ref (r 44), .ref (r 45), .ref (r 46), .int 0, .ref (r 48), .ref (r 49), .ref (r 50), .ref (r 51), .long 0])), ((r 0), .inl (cI, 1990, .inl (upd (upd (fun _ => 0) 4 (-1)) 122 9)))] H := hP
  have hD : va_D A [(m0, .inr (9, [.ref (r 0), .ref (r 1), .ref (r 2), .int 0, .int (-1), .int (-1), .ref (r 6), .ref (r 7), .ref (r 8), .ref (r 9), .ref (r 10), .ref (r 11), .ref (r 12), .ref (r 13), .int 0, .int 0, .int 0, .int 0, .int 0, .int 0, .int 0, .int 0, .int 0, .ref (r 23), .ref (r 24), .int 0, .ref (r 26), .ref (r 27), .int 0, .int 0, .int 0, .ref (r 31), .ref (r 32), .ref (r 33), .ref (r 34), .ref (r 35), .int 0, .ref (r 37), .ref (r 38), .ref (r 39), .ref (r 40), .ref (r 41), .ref (r 42), .ref (r 43), .ref (r 44), .ref (r 45), .ref (r 46), .int 0, .ref (r 48), .ref (r 49), .ref (r 50), .ref (r 51), .long 0])), ((r 0), .inl (cI, 1990, .inl (upd (upd (fun _ => 0) 4 (-1)) 122 9)))] := hD
  exact gw_zret () hx hb hr hlocks rfl hP hD hS rfl dX9_isGoose_13
theorem e_X9_isGoose : yX9_isGoose.cls = RX9 ∧ yX9_isGoose.cls ≠ "java/lang/invoke/MethodHandle" ∧ yX9_isGoose.cls ≠ "java/lang/invoke/VarHandle" ∧ (parseMethodDescriptor yX9_isGoose.desc).map (fun d => d.parameters.length) = some 1 := by decide +kernel
set_option maxHeartbeats 4000000 in
set_option maxRecDepth 100000 in
theorem c_X9_isHome (l : Launch) (G : va_G) (cI cJ cZ cB cT : ClassId) (m0 : Nat) (r : Nat → Nat) (p1 : Int32)  : gMi l yX9_isHome wsX9_isHome 3 G (gT cI cJ cZ cB cT) [.ref m0, .int p1] [(m0, .inr (9, [.ref (r 0), .ref (r 1), .ref (r 2), .int 0, .int (-1), .int (-1), .ref (r 6), .ref (r 7), .ref (r 8), .ref (r 9), .ref (r 10), .ref (r 11), .ref (r 12), .ref (r 13), .int 0, .int 0, .int 0, .int 0, .int 0, .int 0, .int 0, .int 0, .int 0, .ref (r 23), .ref (r 24), .int 0, .ref (r 26), .ref (r 27), .int 0, .int 0, .int 0, .ref (r 31), .ref (r 32), .ref (r 33), .ref (r 34), .ref (r 35), .int 0, .ref (r 37), .ref (r 38), .ref (r 39), .ref (r 40), .ref (r 41), .ref (r 42), .ref (r 43), .ref (r 44), .ref (r 45), .ref (r 46), .int 0, .ref (r 48), .ref (r 49), .ref (r 50), .ref (r 51), .long 0])), ((r 0), .inl (cI, 1990, .inl (upd (upd (fun _ => 0) 4 (-1)) 122 9)))] (fun r (_ : Unit) => r = 0) (fun (_ : Unit) => ([(m0, .inr (9, [.ref (r 0), .ref (r 1), .ref (r 2), .int 0, .int (-1), .int (-1), .ref (r 6), .ref (r 7), .ref (r 8), .ref (r 9), .ref (r 10), .ref (r 11), .ref (r 12), .ref (r 13), .int 0, .int 0, .int 0, .int 0, .int 0, .int 0, .int 0, .int 0, .int 0, .ref (r 23), .ref (r 24), .int 0, .ref (r 26), .ref (r 27), .int 0, .int 0, .int 0, .ref (r 31), .ref (r 32), .ref (r 33), .ref (r 34), .ref (r 35), .int 0, .ref (r 37), .ref (r 38), .ref (r 39), .ref (r 40), .ref (r 41), .ref (r 42), .ref (r 43), .ref (r 44), .ref (r 45), .ref (r 46), .int 0, .ref (r 48), .ref (r 49), .ref (r 50), .ref (r 51), .long 0])), ((r 0), .inl (cI, 1990, .inl (upd (upd (fun _ => 0) 4 (-1)) 122 9)))] : va_W)) := by
  intro sz
  refine gM_start (Qf := fun A => va_Qi (fun r (_ : Unit) => r = 0) (gB G (fun (_ : Unit) => ([(m0, .inr (9, [.ref (r 0), .ref (r 1), .ref (r 2), .int 0, .int (-1), .int (-1), .ref (r 6), .ref (r 7), .ref (r 8), .ref (r 9), .ref (r 10), .ref (r 11), .ref (r 12), .ref (r 13), .int 0, .int 0, .int 0, .int 0, .int 0, .int 0, .int 0, .int 0, .int 0, .ref (r 23), .ref (r 24), .int 0, .ref (r 26), .ref (r 27), .int 0, .int 0, .int 0, .ref (r 31), .ref (r 32), .ref (r 33), .ref (r 34), .ref (r 35), .int 0, .ref (r 37), .ref (r 38), .ref (r 39), .ref (r 40), .ref (r 41), .ref (r 42), .ref (r 43), .ref (r 44), .ref (r 45), .ref (r 46), .int 0, .ref (r 48), .ref (r 49), .ref (r 50), .ref (r 51), .long 0])), ((r 0), .inl (cI, 1990, .inl (upd (upd (fun _ => 0) 4 (-1)) 122 9)))] : va_W)) A) A) (cc := cX9_isHome) (maxL := 2) (ret := (some .boolean)) (by decide) rfl (Nat.le_of_ble_eq_true rfl) ?_
  intro p e s m args below meth c A ls H hx hb hr hts hown hin hlocks hml hP hK hD hA hS hl
  have hl : lv_has ls 2 [(0, .ref m0), (1, .int p1)] := hl
  refine lv_aload_n hx hb dX9_isHome_0 rfl (lv_at hl 0 rfl) ?_
  refine lv_iload_n hx hb dX9_isHome_1 rfl (lv_at hl 1 rfl) ?_
  refine gw_calli (gw_runV (As := [.int p1]) (rest := []) ⟨hx, hb, hml, hown, hts⟩ (c_X9_isGoose l G cI cJ cZ cB cT m0 r p1  H.size) gX9_isHome_X9_isGoose rfl e_X9_isGoose ⟨Nat.le_of_ble_eq_true rfl, Nat.le_of_ble_eq_true rfl⟩ hK hP hD [0, 1] rfl (by decide) rfl 0 rfl rfl rfl hl.1 rfl (Nat.le_of_ble_eq_true rfl) dX9_isHome_2 ⟨Nat.le_of_ble_eq_true rfl, Nat.le_of_ble_eq_true rfl⟩) hP hD hS hA [0, 1] [] rfl rfl (by decide) (by decide) (fun r_1 u_1 H locs hw_1 hP hD hS => ?_)
  subst hw_1
  have hP : va_P G vwCl [(m0, .inr (9, [.ref (r 0), .ref (r 1), .ref (r 2), .int 0, .int (-1), .int (-1), .ref (r 6), .ref (r 7), .ref (r 8), .ref (r 9), .ref (r 10), .ref (r 11), .ref (r 12), .ref (r 13), .int 0, .int 0, .int 0, .int 0, .int 0, .int 0, .int 0, .int 0, .int 0, .ref (r 23), .ref (r 24), .int 0, .ref (r 26), .ref (r 27), .int 0, .int 0, .int 0, .ref (r 31), .ref (r 32), .ref (r 33), .ref (r 34), .ref (r 35), .int 0, .ref (r 37), .ref (r 38), .ref (r 39), .ref (r 40), .ref (r 41), .ref (r 42), .ref (r 43), .ref (r 44), .ref (r 45), .ref (r 46), .int 0, .ref (r 48), .ref (r 49), .ref (r 50), .ref (r 51), .long 0])), ((r 0), .inl (cI, 1990, .inl (upd (upd (fun _ => 0) 4 (-1)) 122 9)))] H := hP
  have hD : va_D A [(m0, .inr (9, [.ref (r 0), .ref (r 1), .ref (r 2), .int 0, .int (-1), .int (-1), .ref (r 6), .ref (r 7), .ref (r 8), .ref (r 9), .ref (r 10), .ref (r 11), .ref (r 12), .ref (r 13), .int 0, .int 0, .int 0, .int 0, .int 0, .int 0, .int 0, .int 0, .int 0, .ref (r 23), .ref (r 24), .int 0, .ref (r 26), .ref (r 27), .int 0, .int 0, .int 0, .ref (r 31), .ref (r 32), .ref (r 33), .ref (r 34), .ref (r 35), .int 0, .ref (r 37), .ref (r 38), .ref (r 39), .ref (r 40), .ref (r 41), .ref (r 42), .ref (r 43), .ref (r 44), .ref (r 45), .ref (r 46), .int 0, .ref (r 48), .ref (r 49), .ref (r 50), .ref (r 51), .long 0])), ((r 0), .inl (cI, 1990, .inl (upd (upd (fun _ => 0) 4 (-1)) 122 9)))] := hD
  refine lv_if_eq (tgt := 21) hx hb dX9_isHome_5 (by decide) (fun _ => ?_) (fun c => absurd (by decide) c)
  refine lv_iconst (v := 0) hx hb dX9_isHome_21 (by decide) ?_
  exact gw_zret () hx hb hr hlocks rfl hP hD hS rfl dX9_isHome_22
def v_X9_market (p1 : Int32) (p2 : Int32) (p3 : Int32) : Int32 := (if (v_X9_in p1 1 9) = 0 then (-1) else (if (v_X9_in p2 0 9) = 0 then (-1) else (if (v_X9_in p3 0 9) = 0 then (-1) else 0)))
set_option maxHeartbeats 4000000 in
set_option maxRecDepth 100000 in
theorem c_X9_market (l : Launch) (G : va_G) (cI cJ cZ cB cT : ClassId) (m0 : Nat) (r : Nat → Nat) (p1 : Int32) (p2 : Int32) (p3 : Int32)  : gMi l yX9_market wsX9_market 2 G (gT cI cJ cZ cB cT) [.ref m0, .int p1, .int p2, .int p3] [(m0, .inr (9, [.ref (r 0), .ref (r 1), .ref (r 2), .int 0, .int (-1), .int (-1), .ref (r 6), .ref (r 7), .ref (r 8), .ref (r 9), .ref (r 10), .ref (r 11), .ref (r 12), .ref (r 13), .int 0, .int 0, .int 0, .int 0, .int 0, .int 0, .int 0, .int 0, .int 0, .ref (r 23), .ref (r 24), .int 0, .ref (r 26), .ref (r 27), .int 0, .int 0, .int 0, .ref (r 31), .ref (r 32), .ref (r 33), .ref (r 34), .ref (r 35), .int 0, .ref (r 37), .ref (r 38), .ref (r 39), .ref (r 40), .ref (r 41), .ref (r 42), .ref (r 43), .ref (r 44), .ref (r 45), .ref (r 46), .int 0, .ref (r 48), .ref (r 49), .ref (r 50), .ref (r 51), .long 0])), ((r 0), .inl (cI, 1990, .inl (upd (upd (fun _ => 0) 4 (-1)) 122 9)))] (fun r (_ : Unit) => r = (v_X9_market p1 p2 p3)) (fun (_ : Unit) => ([] : va_W)) := by
  intro sz
  refine gM_start (Qf := fun A => va_Qi (fun r (_ : Unit) => r = (v_X9_market p1 p2 p3)) (gB G (fun (_ : Unit) => ([] : va_W)) A) A) (cc := cX9_market) (maxL := 5) (ret := (some .int)) (by decide) rfl (Nat.le_of_ble_eq_true rfl) ?_
  intro p e s m args below meth c A ls H hx hb hr hts hown hin hlocks hml hP hK hD hA hS hl
  have hl : lv_has ls 5 [(0, .ref m0), (1, .int p1), (2, .int p2), (3, .int p3)] := hl
  have iX9 : ∀ w ∈ u_ws RX9 TX9 53, w ∈ wsX9_market := by decide +kernel
  refine lv_iload_n hx hb dX9_market_0 rfl (lv_at hl 1 rfl) ?_
  refine lv_iconst (v := 1) hx hb dX9_market_1 (by decide) ?_
  refine lv_bipush (v := 9) hx hb dX9_market_2 (by decide) ?_
  refine gw_calli (gw_runS (As := [.int p1, .int 1, .int 9]) (rest := []) ⟨hx, hb, hml, hown, hts⟩ (c_X9_in l G cI cJ cZ cB cT p1 1 9  H.size) gX9_market_X9_in rfl e_X9_in ⟨Nat.le_of_ble_eq_true rfl, Nat.le_of_ble_eq_true rfl⟩ hK hP hD [] rfl (by decide) rfl rfl hl.1 rfl (Nat.le_of_ble_eq_true rfl) dX9_market_4 ⟨Nat.le_of_ble_eq_true rfl, Nat.le_of_ble_eq_true rfl⟩) hP hD hS hA [] [0, 1] rfl rfl (by decide) (by decide) (fun r_1 u_1 H locs hw_1 hP hD hS => ?_)
  subst hw_1
  have hP : va_P G vwCl [(m0, .inr (9, [.ref (r 0), .ref (r 1), .ref (r 2), .int 0, .int (-1), .int (-1), .ref (r 6), .ref (r 7), .ref (r 8), .ref (r 9), .ref (r 10), .ref (r 11), .ref (r 12), .ref (r 13), .int 0, .int 0, .int 0, .int 0, .int 0, .int 0, .int 0, .int 0, .int 0, .ref (r 23), .ref (r 24), .int 0, .ref (r 26), .ref (r 27), .int 0, .int 0, .int 0, .ref (r 31), .ref (r 32), .ref (r 33), .ref (r 34), .ref (r 35), .int 0, .ref (r 37), .ref (r 38), .ref (r 39), .ref (r 40), .ref (r 41), .ref (r 42), .ref (r 43), .ref (r 44), .ref (r 45), .ref (r 46), .int 0, .ref (r 48), .ref (r 49), .ref (r 50), .ref (r 51), .long 0])), ((r 0), .inl (cI, 1990, .inl (upd (upd (fun _ => 0) 4 (-1)) 122 9)))] H := hP
  have hD : va_D A [(m0, .inr (9, [.ref (r 0), .ref (r 1), .ref (r 2), .int 0, .int (-1), .int (-1), .ref (r 6), .ref (r 7), .ref (r 8), .ref (r 9), .ref (r 10), .ref (r 11), .ref (r 12), .ref (r 13), .int 0, .int 0, .int 0, .int 0, .int 0, .int 0, .int 0, .int 0, .int 0, .ref (r 23), .ref (r 24), .int 0, .ref (r 26), .ref (r 27), .int 0, .int 0, .int 0, .ref (r 31), .ref (r 32), .ref (r 33), .ref (r 34), .ref (r 35), .int 0, .ref (r 37), .ref (r 38), .ref (r 39), .ref (r 40), .ref (r 41), .ref (r 42), .ref (r 43), .ref (r 44), .ref (r 45), .ref (r 46), .int 0, .ref (r 48), .ref (r 49), .ref (r 50), .ref (r 51), .long 0])), ((r 0), .inl (cI, 1990, .inl (upd (upd (fun _ => 0) 4 (-1)) 122 9)))] := hD
  refine lv_if_eq (tgt := 40) hx hb dX9_market_7 (by decide) (fun c_2 => ?_) (fun c_2 => ?_)
  · refine lv_iconst (v := (-1)) hx hb dX9_market_40 (by decide) ?_
    exact gw_iret () hx hb hr hlocks (hP.sub [] rfl) (hD.sub [] (by decide) rfl) hS (by rw [v_X9_market, if_pos c_2]) dX9_market_41
  · refine lv_iload_n hx hb dX9_market_10 rfl (lv_at hl 2 rfl) ?_
    refine lv_iconst (v := 0) hx hb dX9_market_11 (by decide) ?_
    refine lv_bipush (v := 9) hx hb dX9_market_12 (by decide) ?_
    refine gw_calli (gw_runS (As := [.int p2, .int 0, .int 9]) (rest := []) ⟨hx, hb, hml, hown, hts⟩ (c_X9_in l G cI cJ cZ cB cT p2 0 9  H.size) gX9_market_X9_in rfl e_X9_in ⟨Nat.le_of_ble_eq_true rfl, Nat.le_of_ble_eq_true rfl⟩ hK hP hD [] rfl (by decide) rfl rfl hl.1 rfl (Nat.le_of_ble_eq_true rfl) dX9_market_14 ⟨Nat.le_of_ble_eq_true rfl, Nat.le_of_ble_eq_true rfl⟩) hP hD hS hA [] [0, 1] rfl rfl (by decide) (by decide) (fun r_3 u_3 H locs hw_3 hP hD hS => ?_)
    subst hw_3
    have hP : va_P G vwCl [(m0, .inr (9, [.ref (r 0), .ref (r 1), .ref (r 2), .int 0, .int (-1), .int (-1), .ref (r 6), .ref (r 7), .ref (r 8), .ref (r 9), .ref (r 10), .ref (r 11), .ref (r 12), .ref (r 13), .int 0, .int 0, .int 0, .int 0, .int 0, .int 0, .int 0, .int 0, .int 0, .ref (r 23), .ref (r 24), .int 0, .ref (r 26), .ref (r 27), .int 0, .int 0, .int 0, .ref (r 31), .ref (r 32), .ref (r 33), .ref (r 34), .ref (r 35), .int 0, .ref (r 37), .ref (r 38), .ref (r 39), .ref (r 40), .ref (r 41), .ref (r 42), .ref (r 43), .ref (r 44), .ref (r 45), .ref (r 46), .int 0, .ref (r 48), .ref (r 49), .ref (r 50), .ref (r 51), .long 0])), ((r 0), .inl (cI, 1990, .inl (upd (upd (fun _ => 0) 4 (-1)) 122 9)))] H := hP
    have hD : va_D A [(m0, .inr (9, [.ref (r 0), .ref (r 1), .ref (r 2), .int 0, .int (-1), .int (-1), .ref (r 6), .ref (r 7), .ref (r 8), .ref (r 9), .ref (r 10), .ref (r 11), .ref (r 12), .ref (r 13), .int 0, .int 0, .int 0, .int 0, .int 0, .int 0, .int 0, .int 0, .int 0, .ref (r 23), .ref (r 24), .int 0, .ref (r 26), .ref (r 27), .int 0, .int 0, .int 0, .ref (r 31), .ref (r 32), .ref (r 33), .ref (r 34), .ref (r 35), .int 0, .ref (r 37), .ref (r 38), .ref (r 39), .ref (r 40), .ref (r 41), .ref (r 42), .ref (r 43), .ref (r 44), .ref (r 45), .ref (r 46), .int 0, .ref (r 48), .ref (r 49), .ref (r 50), .ref (r 51), .long 0])), ((r 0), .inl (cI, 1990, .inl (upd (upd (fun _ => 0) 4 (-1)) 122 9)))] := hD
    refine lv_if_eq (tgt := 40) hx hb dX9_market_17 (by decide) (fun c_4 => ?_) (fun c_4 => ?_)
    · refine lv_iconst (v := (-1)) hx hb dX9_market_40 (by decide) ?_
      exact gw_iret () hx hb hr hlocks (hP.sub [] rfl) (hD.sub [] (by decide) rfl) hS (by rw [v_X9_market, if_neg c_2, if_pos c_4]) dX9_market_41
    · refine lv_iload_n hx hb dX9_market_20 rfl (lv_at hl 3 rfl) ?_
      refine lv_iconst (v := 0) hx hb dX9_market_21 (by decide) ?_
      refine lv_bipush (v := 9) hx hb dX9_market_22 (by decide) ?_
      refine gw_calli (gw_runS (As := [.int p3, .int 0, .int 9]) (rest := []) ⟨hx, hb, hml, hown, hts⟩ (c_X9_in l G cI cJ cZ cB cT p3 0 9  H.size) gX9_market_X9_in rfl e_X9_in ⟨Nat.le_of_ble_eq_true rfl, Nat.le_of_ble_eq_true rfl⟩ hK hP hD [] rfl (by decide) rfl rfl hl.1 rfl (Nat.le_of_ble_eq_true rfl) dX9_market_24 ⟨Nat.le_of_ble_eq_true rfl, Nat.le_of_ble_eq_true rfl⟩) hP hD hS hA [] [0, 1] rfl rfl (by decide) (by decide) (fun r_5 u_5 H locs hw_5 hP hD hS => ?_)
      subst hw_5
      have hP : va_P G vwCl [(m0, .inr (9, [.ref (r 0), .ref (r 1), .ref (r 2), .int 0, .int (-1), .int (-1), .ref (r 6), .ref (r 7), .ref (r 8), .ref (r 9), .ref (r 10), .ref (r 11), .ref (r 12), .ref (r 13), .int 0, .int 0, .int 0, .int 0, .int 0, .int 0, .int 0, .int 0, .int 0, .ref (r 23), .ref (r 24), .int 0, .ref (r 26), .ref (r 27), .int 0, .int 0, .int 0, .ref (r 31), .ref (r 32), .ref (r 33), .ref (r 34), .ref (r 35), .int 0, .ref (r 37), .ref (r 38), .ref (r 39), .ref (r 40), .ref (r 41), .ref (r 42), .ref (r 43), .ref (r 44), .ref (r 45), .ref (r 46), .int 0, .ref (r 48), .ref (r 49), .ref (r 50), .ref (r 51), .long 0])), ((r 0), .inl (cI, 1990, .inl (upd (upd (fun _ => 0) 4 (-1)) 122 9)))] H := hP
      have hD : va_D A [(m0, .inr (9, [.ref (r 0), .ref (r 1), .ref (r 2), .int 0, .int (-1), .int (-1), .ref (r 6), .ref (r 7), .ref (r 8), .ref (r 9), .ref (r 10), .ref (r 11), .ref (r 12), .ref (r 13), .int 0, .int 0, .int 0, .int 0, .int 0, .int 0, .int 0, .int 0, .int 0, .ref (r 23), .ref (r 24), .int 0, .ref (r 26), .ref (r 27), .int 0, .int 0, .int 0, .ref (r 31), .ref (r 32), .ref (r 33), .ref (r 34), .ref (r 35), .int 0, .ref (r 37), .ref (r 38), .ref (r 39), .ref (r 40), .ref (r 41), .ref (r 42), .ref (r 43), .ref (r 44), .ref (r 45), .ref (r 46), .int 0, .ref (r 48), .ref (r 49), .ref (r 50), .ref (r 51), .long 0])), ((r 0), .inl (cI, 1990, .inl (upd (upd (fun _ => 0) 4 (-1)) 122 9)))] := hD
      refine lv_if_eq (tgt := 40) hx hb dX9_market_27 (by decide) (fun c_6 => ?_) (fun c_6 => ?_)
      · refine lv_iconst (v := (-1)) hx hb dX9_market_40 (by decide) ?_
        exact gw_iret () hx hb hr hlocks (hP.sub [] rfl) (hD.sub [] (by decide) rfl) hS (by rw [v_X9_market, if_neg c_2, if_neg c_4, if_pos c_6]) dX9_market_41
      · refine lv_aload_n hx hb dX9_market_30 rfl (lv_at hl 0 rfl) ?_
        refine va_get (D := G) (ci := 9) (v := .ref (r 0)) (C := RX9) (T := TX9) (N := 53) hx hb hts iX9 hown hK hP 0 rfl rfl 0 (by decide) (hts (.fieldLink RX9 7 "GooseLettersModel" "a" "[I") (by decide +kernel)) (fun _ h9 => h9) rfl dX9_market_31 ?_
        refine lv_iconst (v := 0) hx hb dX9_market_34 (by decide) ?_
        refine gw_iald (x := 0) hx hb hK hP 1 0 0 rfl rfl rfl (by decide) (by decide) rfl dX9_market_35 ?_
        refine lv_iconst (v := 4) hx hb dX9_market_36 (by decide) ?_
        refine lv_icmp_ne (tgt := 42) hx hb dX9_market_37 (by decide) (fun _ => ?_) (fun c => absurd c (by decide))
        refine lv_bipush (v := 10) hx hb dX9_market_42 (by decide) ?_
        refine lv_iconst (v := 3) hx hb dX9_market_44 (by decide) ?_
        refine lv_aload_n hx hb dX9_market_45 rfl (lv_at hl 0 rfl) ?_
        refine va_get (D := G) (ci := 9) (v := .ref (r 0)) (C := RX9) (T := TX9) (N := 53) hx hb hts iX9 hown hK hP 0 rfl rfl 0 (by decide) (hts (.fieldLink RX9 7 "GooseLettersModel" "a" "[I") (by decide +kernel)) (fun _ h9 => h9) rfl dX9_market_46 ?_
        refine lv_iconst (v := 0) hx hb dX9_market_49 (by decide) ?_
        refine gw_iald (x := 0) hx hb hK hP 1 0 0 rfl rfl rfl (by decide) (by decide) rfl dX9_market_50 ?_
        refine lv_imul hx hb dX9_market_51 ?_
        refine gw_topi (y := 0) (by decide) ?_
        refine lv_iadd hx hb dX9_market_52 ?_
        refine gw_topi (y := 10) (by decide) ?_
        refine lv_istore (lv' := [(4, .int 10), (0, .ref m0), (1, .int p1), (2, .int p2), (3, .int p3)]) hx hb dX9_market_53 hl (by decide) rfl (fun ls hl => ?_)
        refine lv_aload_n hx hb dX9_market_55 rfl (lv_at hl 1 rfl) ?_
        refine va_get (D := G) (ci := 9) (v := .ref (r 0)) (C := RX9) (T := TX9) (N := 53) hx hb hts iX9 hown hK hP 0 rfl rfl 0 (by decide) (hts (.fieldLink RX9 7 "GooseLettersModel" "a" "[I") (by decide +kernel)) (fun _ h9 => h9) rfl dX9_market_56 ?_
        refine lv_iload hx hb dX9_market_59 (lv_at hl 0 rfl) ?_
        refine lv_iload_n hx hb dX9_market_61 rfl (lv_at hl 2 rfl) ?_
        refine gw_iast hx hb hK hP hD hS 1 0 10 rfl rfl rfl (by decide) (by decide) dX9_market_62 (fun H locs hP hD hS => ?_)
        have hP : va_P G vwCl [(m0, .inr (9, [.ref (r 0), .ref (r 1), .ref (r 2), .int 0, .int (-1), .int (-1), .ref (r 6), .ref (r 7), .ref (r 8), .ref (r 9), .ref (r 10), .ref (r 11), .ref (r 12), .ref (r 13), .int 0, .int 0, .int 0, .int 0, .int 0, .int 0, .int 0, .int 0, .int 0, .ref (r 23), .ref (r 24), .int 0, .ref (r 26), .ref (r 27), .int 0, .int 0, .int 0, .ref (r 31), .ref (r 32), .ref (r 33), .ref (r 34), .ref (r 35), .int 0, .ref (r 37), .ref (r 38), .ref (r 39), .ref (r 40), .ref (r 41), .ref (r 42), .ref (r 43), .ref (r 44), .ref (r 45), .ref (r 46), .int 0, .ref (r 48), .ref (r 49), .ref (r 50), .ref (r 51), .long 0])), ((r 0), .inl (cI, 1990, .inl (upd (upd (upd (fun _ => 0) 4 (-1)) 122 9) 10 p1)))] H := hP
        have hD : va_D A [(m0, .inr (9, [.ref (r 0), .ref (r 1), .ref (r 2), .int 0, .int (-1), .int (-1), .ref (r 6), .ref (r 7), .ref (r 8), .ref (r 9), .ref (r 10), .ref (r 11), .ref (r 12), .ref (r 13), .int 0, .int 0, .int 0, .int 0, .int 0, .int 0, .int 0, .int 0, .int 0, .ref (r 23), .ref (r 24), .int 0, .ref (r 26), .ref (r 27), .int 0, .int 0, .int 0, .ref (r 31), .ref (r 32), .ref (r 33), .ref (r 34), .ref (r 35), .int 0, .ref (r 37), .ref (r 38), .ref (r 39), .ref (r 40), .ref (r 41), .ref (r 42), .ref (r 43), .ref (r 44), .ref (r 45), .ref (r 46), .int 0, .ref (r 48), .ref (r 49), .ref (r 50), .ref (r 51), .long 0])), ((r 0), .inl (cI, 1990, .inl (upd (upd (upd (fun _ => 0) 4 (-1)) 122 9) 10 p1)))] := hD
        refine lv_aload_n hx hb dX9_market_63 rfl (lv_at hl 1 rfl) ?_
        refine va_get (D := G) (ci := 9) (v := .ref (r 0)) (C := RX9) (T := TX9) (N := 53) hx hb hts iX9 hown hK hP 0 rfl rfl 0 (by decide) (hts (.fieldLink RX9 7 "GooseLettersModel" "a" "[I") (by decide +kernel)) (fun _ h9 => h9) rfl dX9_market_64 ?_
        refine lv_iload hx hb dX9_market_67 (lv_at hl 0 rfl) ?_
        refine lv_iconst (v := 1) hx hb dX9_market_69 (by decide) ?_
        refine lv_iadd hx hb dX9_market_70 ?_
        refine gw_topi (y := 11) (by decide) ?_
        refine lv_iload_n hx hb dX9_market_71 rfl (lv_at hl 3 rfl) ?_
        refine gw_iast hx hb hK hP hD hS 1 0 11 rfl rfl rfl (by decide) (by decide) dX9_market_72 (fun H locs hP hD hS => ?_)
        have hP : va_P G vwCl [(m0, .inr (9, [.ref (r 0), .ref (r 1), .ref (r 2), .int 0, .int (-1), .int (-1), .ref (r 6), .ref (r 7), .ref (r 8), .ref (r 9), .ref (r 10), .ref (r 11), .ref (r 12), .ref (r 13), .int 0, .int 0, .int 0, .int 0, .int 0, .int 0, .int 0, .int 0, .int 0, .ref (r 23), .ref (r 24), .int 0, .ref (r 26), .ref (r 27), .int 0, .int 0, .int 0, .ref (r 31), .ref (r 32), .ref (r 33), .ref (r 34), .ref (r 35), .int 0, .ref (r 37), .ref (r 38), .ref (r 39), .ref (r 40), .ref (r 41), .ref (r 42), .ref (r 43), .ref (r 44), .ref (r 45), .ref (r 46), .int 0, .ref (r 48), .ref (r 49), .ref (r 50), .ref (r 51), .long 0])), ((r 0), .inl (cI, 1990, .inl (upd (upd (upd (upd (fun _ => 0) 4 (-1)) 122 9) 10 p1) 11 p2)))] H := hP
        have hD : va_D A [(m0, .inr (9, [.ref (r 0), .ref (r 1), .ref (r 2), .int 0, .int (-1), .int (-1), .ref (r 6), .ref (r 7), .ref (r 8), .ref (r 9), .ref (r 10), .ref (r 11), .ref (r 12), .ref (r 13), .int 0, .int 0, .int 0, .int 0, .int 0, .int 0, .int 0, .int 0, .int 0, .ref (r 23), .ref (r 24), .int 0, .ref (r 26), .ref (r 27), .int 0, .int 0, .int 0, .ref (r 31), .ref (r 32), .ref (r 33), .ref (r 34), .ref (r 35), .int 0, .ref (r 37), .ref (r 38), .ref (r 39), .ref (r 40), .ref (r 41), .ref (r 42), .ref (r 43), .ref (r 44), .ref (r 45), .ref (r 46), .int 0, .ref (r 48), .ref (r 49), .ref (r 50), .ref (r 51), .long 0])), ((r 0), .inl (cI, 1990, .inl (upd (upd (upd (upd (fun _ => 0) 4 (-1)) 122 9) 10 p1) 11 p2)))] := hD
        refine lv_aload_n hx hb dX9_market_73 rfl (lv_at hl 1 rfl) ?_
        refine va_get (D := G) (ci := 9) (v := .ref (r 0)) (C := RX9) (T := TX9) (N := 53) hx hb hts iX9 hown hK hP 0 rfl rfl 0 (by decide) (hts (.fieldLink RX9 7 "GooseLettersModel" "a" "[I") (by decide +kernel)) (fun _ h9 => h9) rfl dX9_market_74 ?_
        refine lv_iload hx hb dX9_market_77 (lv_at hl 0 rfl) ?_
        refine lv_iconst (v := 2) hx hb dX9_market_79 (by decide) ?_
        refine lv_iadd hx hb dX9_market_80 ?_
        refine gw_topi (y := 12) (by decide) ?_
        refine lv_iload_n hx hb dX9_market_81 rfl (lv_at hl 4 rfl) ?_
        refine gw_iast hx hb hK hP hD hS 1 0 12 rfl rfl rfl (by decide) (by decide) dX9_market_82 (fun H locs hP hD hS => ?_)
        have hP : va_P G vwCl [(m0, .inr (9, [.ref (r 0), .ref (r 1), .ref (r 2), .int 0, .int (-1), .int (-1), .ref (r 6), .ref (r 7), .ref (r 8), .ref (r 9), .ref (r 10), .ref (r 11), .ref (r 12), .ref (r 13), .int 0, .int 0, .int 0, .int 0, .int 0, .int 0, .int 0, .int 0, .int 0, .ref (r 23), .ref (r 24), .int 0, .ref (r 26), .ref (r 27), .int 0, .int 0, .int 0, .ref (r 31), .ref (r 32), .ref (r 33), .ref (r 34), .ref (r 35), .int 0, .ref (r 37), .ref (r 38), .ref (r 39), .ref (r 40), .ref (r 41), .ref (r 42), .ref (r 43), .ref (r 44), .ref (r 45), .ref (r 46), .int 0, .ref (r 48), .ref (r 49), .ref (r 50), .ref (r 51), .long 0])), ((r 0), .inl (cI, 1990, .inl (upd (upd (upd (upd (upd (fun _ => 0) 4 (-1)) 122 9) 10 p1) 11 p2) 12 p3)))] H := hP
        have hD : va_D A [(m0, .inr (9, [.ref (r 0), .ref (r 1), .ref (r 2), .int 0, .int (-1), .int (-1), .ref (r 6), .ref (r 7), .ref (r 8), .ref (r 9), .ref (r 10), .ref (r 11), .ref (r 12), .ref (r 13), .int 0, .int 0, .int 0, .int 0, .int 0, .int 0, .int 0, .int 0, .int 0, .ref (r 23), .ref (r 24), .int 0, .ref (r 26), .ref (r 27), .int 0, .int 0, .int 0, .ref (r 31), .ref (r 32), .ref (r 33), .ref (r 34), .ref (r 35), .int 0, .ref (r 37), .ref (r 38), .ref (r 39), .ref (r 40), .ref (r 41), .ref (r 42), .ref (r 43), .ref (r 44), .ref (r 45), .ref (r 46), .int 0, .ref (r 48), .ref (r 49), .ref (r 50), .ref (r 51), .long 0])), ((r 0), .inl (cI, 1990, .inl (upd (upd (upd (upd (upd (fun _ => 0) 4 (-1)) 122 9) 10 p1) 11 p2) 12 p3)))] := hD
        refine lv_aload_n hx hb dX9_market_83 rfl (lv_at hl 1 rfl) ?_
        refine va_get (D := G) (ci := 9) (v := .ref (r 0)) (C := RX9) (T := TX9) (N := 53) hx hb hts iX9 hown hK hP 0 rfl rfl 0 (by decide) (hts (.fieldLink RX9 7 "GooseLettersModel" "a" "[I") (by decide +kernel)) (fun _ h9 => h9) rfl dX9_market_84 ?_
        refine lv_iconst (v := 0) hx hb dX9_market_87 (by decide) ?_
        refine lv_dup2_11 hx hb dX9_market_88 rfl rfl ?_
        refine gw_iald (x := 0) hx hb hK hP 1 0 0 rfl rfl rfl (by decide) (by decide) rfl dX9_market_89 ?_
        refine lv_iconst (v := 1) hx hb dX9_market_90 (by decide) ?_
        refine lv_iadd hx hb dX9_market_91 ?_
        refine gw_topi (y := 1) (by decide) ?_
        refine gw_iast hx hb hK hP hD hS 1 0 0 rfl rfl rfl (by decide) (by decide) dX9_market_92 (fun H locs hP hD hS => ?_)
        have hP : va_P G vwCl [(m0, .inr (9, [.ref (r 0), .ref (r 1), .ref (r 2), .int 0, .int (-1), .int (-1), .ref (r 6), .ref (r 7), .ref (r 8), .ref (r 9), .ref (r 10), .ref (r 11), .ref (r 12), .ref (r 13), .int 0, .int 0, .int 0, .int 0, .int 0, .int 0, .int 0, .int 0, .int 0, .ref (r 23), .ref (r 24), .int 0, .ref (r 26), .ref (r 27), .int 0, .int 0, .int 0, .ref (r 31), .ref (r 32), .ref (r 33), .ref (r 34), .ref (r 35), .int 0, .ref (r 37), .ref (r 38), .ref (r 39), .ref (r 40), .ref (r 41), .ref (r 42), .ref (r 43), .ref (r 44), .ref (r 45), .ref (r 46), .int 0, .ref (r 48), .ref (r 49), .ref (r 50), .ref (r 51), .long 0])), ((r 0), .inl (cI, 1990, .inl (upd (upd (upd (upd (upd (upd (fun _ => 0) 4 (-1)) 122 9) 10 p1) 11 p2) 12 p3) 0 1)))] H := hP
        have hD : va_D A [(m0, .inr (9, [.ref (r 0), .ref (r 1), .ref (r 2), .int 0, .int (-1), .int (-1), .ref (r 6), .ref (r 7), .ref (r 8), .ref (r 9), .ref (r 10), .ref (r 11), .ref (r 12), .ref (r 13), .int 0, .int 0, .int 0, .int 0, .int 0, .int 0, .int 0, .int 0, .int 0, .ref (r 23), .ref (r 24), .int 0, .ref (r 26), .ref (r 27), .int 0, .int 0, .int 0, .ref (r 31), .ref (r 32), .ref (r 33), .ref (r 34), .ref (r 35), .int 0, .ref (r 37), .ref (r 38), .ref (r 39), .ref (r 40), .ref (r 41), .ref (r 42), .ref (r 43), .ref (r 44), .ref (r 45), .ref (r 46), .int 0, .ref (r 48), .ref (r 49), .ref (r 50), .ref (r 51), .long 0])), ((r 0), .inl (cI, 1990, .inl (upd (upd (upd (upd (upd (upd (fun _ => 0) 4 (-1)) 122 9) 10 p1) 11 p2) 12 p3) 0 1)))] := hD
        refine lv_aload_n hx hb dX9_market_93 rfl (lv_at hl 1 rfl) ?_
        refine va_get (D := G) (ci := 9) (v := .ref (r 0)) (C := RX9) (T := TX9) (N := 53) hx hb hts iX9 hown hK hP 0 rfl rfl 0 (by decide) (hts (.fieldLink RX9 7 "GooseLettersModel" "a" "[I") (by decide +kernel)) (fun _ h9 => h9) rfl dX9_market_94 ?_
        refine lv_iconst (v := 0) hx hb dX9_market_97 (by decide) ?_
        refine gw_iald (x := 1) hx hb hK hP 1 0 0 rfl rfl rfl (by decide) (by decide) rfl dX9_market_98 ?_
        refine lv_iconst (v := 1) hx hb dX9_market_99 (by decide) ?_
        refine lv_isub hx hb dX9_market_100 ?_
        refine gw_topi (y := 0) (by decide) ?_
        exact gw_iret () hx hb hr hlocks (hP.sub [] rfl) (hD.sub [] (by decide) rfl) hS (by rw [v_X9_market, if_neg c_2, if_neg c_4, if_neg c_6]) dX9_market_101
set_option maxHeartbeats 4000000 in
set_option maxRecDepth 100000 in
theorem c_tellsGoose0 (l : Launch) (G : va_G) (cI cJ cZ cB cT : ClassId) (m0 : Nat) (r : Nat → Nat) (f : Nat → Int32) (p1 : Int32) (p2 : Int32)  : gMv l yX9_tellsGoose wsX9_tellsGoose 1 G (gT cI cJ cZ cB cT) [.ref m0, .int 30, .int 0, .int p1, .int p2] [(m0, .inr (9, [.ref (r 0), .ref (r 1), .ref (r 2), .int 0, .int (-1), .int (-1), .ref (r 6), .ref (r 7), .ref (r 8), .ref (r 9), .ref (r 10), .ref (r 11), .ref (r 12), .ref (r 13), .int 0, .int 0, .int 0, .int 0, .int 0, .int 0, .int 0, .int 0, .int 0, .ref (r 23), .ref (r 24), .int 0, .ref (r 26), .ref (r 27), .int 0, .int 0, .int 0, .ref (r 31), .ref (r 32), .ref (r 33), .ref (r 34), .ref (r 35), .int 0, .ref (r 37), .ref (r 38), .ref (r 39), .ref (r 40), .ref (r 41), .ref (r 42), .ref (r 43), .ref (r 44), .ref (r 45), .ref (r 46), .int 0, .ref (r 48), .ref (r 49), .ref (r 50), .ref (r 51), .long 0])), ((r 0), .inl (cI, 1990, .inl f))] (fun (_ : Unit) => True) (fun (_ : Unit) => ([(m0, .inr (9, [.ref (r 0), .ref (r 1), .ref (r 2), .int 0, .int (-1), .int (-1), .ref (r 6), .ref (r 7), .ref (r 8), .ref (r 9), .ref (r 10), .ref (r 11), .ref (r 12), .ref (r 13), .int 0, .int 0, .int 0, .int 0, .int 0, .int 0, .int 0, .int 0, .int 0, .ref (r 23), .ref (r 24), .int 0, .ref (r 26), .ref (r 27), .int 0, .int 0, .int 0, .ref (r 31), .ref (r 32), .ref (r 33), .ref (r 34), .ref (r 35), .int 0, .ref (r 37), .ref (r 38), .ref (r 39), .ref (r 40), .ref (r 41), .ref (r 42), .ref (r 43), .ref (r 44), .ref (r 45), .ref (r 46), .int 0, .ref (r 48), .ref (r 49), .ref (r 50), .ref (r 51), .long 0])), ((r 0), .inl (cI, 1990, .inl (upd (upd (upd (upd (upd (upd (upd (upd (upd f 30 p1) 31 p2) 32 (-1)) 33 (-1)) 34 0) 35 (-1)) 36 (-1)) 37 (-1)) 38 0)))] : va_W)) := by
  intro sz
  refine gM_start (Qf := fun A => va_Qv (fun (_ : Unit) => True) (gB G (fun (_ : Unit) => ([(m0, .inr (9, [.ref (r 0), .ref (r 1), .ref (r 2), .int 0, .int (-1), .int (-1), .ref (r 6), .ref (r 7), .ref (r 8), .ref (r 9), .ref (r 10), .ref (r 11), .ref (r 12), .ref (r 13), .int 0, .int 0, .int 0, .int 0, .int 0, .int 0, .int 0, .int 0, .int 0, .ref (r 23), .ref (r 24), .int 0, .ref (r 26), .ref (r 27), .int 0, .int 0, .int 0, .ref (r 31), .ref (r 32), .ref (r 33), .ref (r 34), .ref (r 35), .int 0, .ref (r 37), .ref (r 38), .ref (r 39), .ref (r 40), .ref (r 41), .ref (r 42), .ref (r 43), .ref (r 44), .ref (r 45), .ref (r 46), .int 0, .ref (r 48), .ref (r 49), .ref (r 50), .ref (r 51), .long 0])), ((r 0), .inl (cI, 1990, .inl (upd (upd (upd (upd (upd (upd (upd (upd (upd f 30 p1) 31 p2) 32 (-1)) 33 (-1)) 34 0) 35 (-1)) 36 (-1)) 37 (-1)) 38 0)))] : va_W)) A) A) (cc := cX9_tellsGoose) (maxL := 6) (ret := none) (by decide) rfl (Nat.le_of_ble_eq_true rfl) ?_
  intro p e s m args below meth c A ls H hx hb hr hts hown hin hlocks hml hP hK hD hA hS hl
  have hl : lv_has ls 6 [(0, .ref m0), (1, .int 30), (2, .int 0), (3, .int p1), (4, .int p2)] := hl
  have iX9 : ∀ w ∈ u_ws RX9 TX9 53, w ∈ wsX9_tellsGoose := by decide +kernel
  refine lv_iload_n hx hb dX9_tellsGoose_0 rfl (lv_at hl 1 rfl) ?_
  refine lv_bipush (v := 9) hx hb dX9_tellsGoose_1 (by decide) ?_
  refine lv_iload_n hx hb dX9_tellsGoose_3 rfl (lv_at hl 2 rfl) ?_
  refine lv_imul hx hb dX9_tellsGoose_4 ?_
  refine gw_topi (y := 0) (by decide) ?_
  refine lv_iadd hx hb dX9_tellsGoose_5 ?_
  refine gw_topi (y := 30) (by decide) ?_
  refine lv_istore (lv' := [(5, .int 30), (0, .ref m0), (1, .int 30), (2, .int 0), (3, .int p1), (4, .int p2)]) hx hb dX9_tellsGoose_6 hl (by decide) rfl (fun ls hl => ?_)
  refine lv_aload_n hx hb dX9_tellsGoose_8 rfl (lv_at hl 1 rfl) ?_
  refine va_get (D := G) (ci := 9) (v := .ref (r 0)) (C := RX9) (T := TX9) (N := 53) hx hb hts iX9 hown hK hP 0 rfl rfl 0 (by decide) (hts (.fieldLink RX9 7 "GooseLettersModel" "a" "[I") (by decide +kernel)) (fun _ h9 => h9) rfl dX9_tellsGoose_9 ?_
  refine lv_iload hx hb dX9_tellsGoose_12 (lv_at hl 0 rfl) ?_
  refine lv_iconst (v := 0) hx hb dX9_tellsGoose_14 (by decide) ?_
  refine lv_iadd hx hb dX9_tellsGoose_15 ?_
  refine gw_topi (y := 30) (by decide) ?_
  refine lv_iload_n hx hb dX9_tellsGoose_16 rfl (lv_at hl 4 rfl) ?_
  refine gw_iast hx hb hK hP hD hS 1 0 30 rfl rfl rfl (by decide) (by decide) dX9_tellsGoose_17 (fun H locs hP hD hS => ?_)
  have hP : va_P G vwCl [(m0, .inr (9, [.ref (r 0), .ref (r 1), .ref (r 2), .int 0, .int (-1), .int (-1), .ref (r 6), .ref (r 7), .ref (r 8), .ref (r 9), .ref (r 10), .ref (r 11), .ref (r 12), .ref (r 13), .int 0, .int 0, .int 0, .int 0, .int 0, .int 0, .int 0, .int 0, .int 0, .ref (r 23), .ref (r 24), .int 0, .ref (r 26), .ref (r 27), .int 0, .int 0, .int 0, .ref (r 31), .ref (r 32), .ref (r 33), .ref (r 34), .ref (r 35), .int 0, .ref (r 37), .ref (r 38), .ref (r 39), .ref (r 40), .ref (r 41), .ref (r 42), .ref (r 43), .ref (r 44), .ref (r 45), .ref (r 46), .int 0, .ref (r 48), .ref (r 49), .ref (r 50), .ref (r 51), .long 0])), ((r 0), .inl (cI, 1990, .inl (upd f 30 p1)))] H := hP
  have hD : va_D A [(m0, .inr (9, [.ref (r 0), .ref (r 1), .ref (r 2), .int 0, .int (-1), .int (-1), .ref (r 6), .ref (r 7), .ref (r 8), .ref (r 9), .ref (r 10), .ref (r 11), .ref (r 12), .ref (r 13), .int 0, .int 0, .int 0, .int 0, .int 0, .int 0, .int 0, .int 0, .int 0, .ref (r 23), .ref (r 24), .int 0, .ref (r 26), .ref (r 27), .int 0, .int 0, .int 0, .ref (r 31), .ref (r 32), .ref (r 33), .ref (r 34), .ref (r 35), .int 0, .ref (r 37), .ref (r 38), .ref (r 39), .ref (r 40), .ref (r 41), .ref (r 42), .ref (r 43), .ref (r 44), .ref (r 45), .ref (r 46), .int 0, .ref (r 48), .ref (r 49), .ref (r 50), .ref (r 51), .long 0])), ((r 0), .inl (cI, 1990, .inl (upd f 30 p1)))] := hD
  refine lv_aload_n hx hb dX9_tellsGoose_18 rfl (lv_at hl 1 rfl) ?_
  refine va_get (D := G) (ci := 9) (v := .ref (r 0)) (C := RX9) (T := TX9) (N := 53) hx hb hts iX9 hown hK hP 0 rfl rfl 0 (by decide) (hts (.fieldLink RX9 7 "GooseLettersModel" "a" "[I") (by decide +kernel)) (fun _ h9 => h9) rfl dX9_tellsGoose_19 ?_
  refine lv_iload hx hb dX9_tellsGoose_22 (lv_at hl 0 rfl) ?_
  refine lv_iconst (v := 1) hx hb dX9_tellsGoose_24 (by decide) ?_
  refine lv_iadd hx hb dX9_tellsGoose_25 ?_
  refine gw_topi (y := 31) (by decide) ?_
  refine lv_iload hx hb dX9_tellsGoose_26 (lv_at hl 5 rfl) ?_
  refine gw_iast hx hb hK hP hD hS 1 0 31 rfl rfl rfl (by decide) (by decide) dX9_tellsGoose_28 (fun H locs hP hD hS => ?_)
  have hP : va_P G vwCl [(m0, .inr (9, [.ref (r 0), .ref (r 1), .ref (r 2), .int 0, .int (-1), .int (-1), .ref (r 6), .ref (r 7), .ref (r 8), .ref (r 9), .ref (r 10), .ref (r 11), .ref (r 12), .ref (r 13), .int 0, .int 0, .int 0, .int 0, .int 0, .int 0, .int 0, .int 0, .int 0, .ref (r 23), .ref (r 24), .int 0, .ref (r 26), .ref (r 27), .int 0, .int 0, .int 0, .ref (r 31), .ref (r 32), .ref (r 33), .ref (r 34), .ref (r 35), .int 0, .ref (r 37), .ref (r 38), .ref (r 39), .ref (r 40), .ref (r 41), .ref (r 42), .ref (r 43), .ref (r 44), .ref (r 45), .ref (r 46), .int 0, .ref (r 48), .ref (r 49), .ref (r 50), .ref (r 51), .long 0])), ((r 0), .inl (cI, 1990, .inl (upd (upd f 30 p1) 31 p2)))] H := hP
  have hD : va_D A [(m0, .inr (9, [.ref (r 0), .ref (r 1), .ref (r 2), .int 0, .int (-1), .int (-1), .ref (r 6), .ref (r 7), .ref (r 8), .ref (r 9), .ref (r 10), .ref (r 11), .ref (r 12), .ref (r 13), .int 0, .int 0, .int 0, .int 0, .int 0, .int 0, .int 0, .int 0, .int 0, .ref (r 23), .ref (r 24), .int 0, .ref (r 26), .ref (r 27), .int 0, .int 0, .int 0, .ref (r 31), .ref (r 32), .ref (r 33), .ref (r 34), .ref (r 35), .int 0, .ref (r 37), .ref (r 38), .ref (r 39), .ref (r 40), .ref (r 41), .ref (r 42), .ref (r 43), .ref (r 44), .ref (r 45), .ref (r 46), .int 0, .ref (r 48), .ref (r 49), .ref (r 50), .ref (r 51), .long 0])), ((r 0), .inl (cI, 1990, .inl (upd (upd f 30 p1) 31 p2)))] := hD
  refine lv_aload_n hx hb dX9_tellsGoose_29 rfl (lv_at hl 1 rfl) ?_
  refine va_get (D := G) (ci := 9) (v := .ref (r 0)) (C := RX9) (T := TX9) (N := 53) hx hb hts iX9 hown hK hP 0 rfl rfl 0 (by decide) (hts (.fieldLink RX9 7 "GooseLettersModel" "a" "[I") (by decide +kernel)) (fun _ h9 => h9) rfl dX9_tellsGoose_30 ?_
  refine lv_iload hx hb dX9_tellsGoose_33 (lv_at hl 0 rfl) ?_
  refine lv_iconst (v := 2) hx hb dX9_tellsGoose_35 (by decide) ?_
  refine lv_iadd hx hb dX9_tellsGoose_36 ?_
  refine gw_topi (y := 32) (by decide) ?_
  refine lv_iconst (v := (-1)) hx hb dX9_tellsGoose_37 (by decide) ?_
  refine gw_iast hx hb hK hP hD hS 1 0 32 rfl rfl rfl (by decide) (by decide) dX9_tellsGoose_38 (fun H locs hP hD hS => ?_)
  have hP : va_P G vwCl [(m0, .inr (9, [.ref (r 0), .ref (r 1), .ref (r 2), .int 0, .int (-1), .int (-1), .ref (r 6), .ref (r 7), .ref (r 8), .ref (r 9), .ref (r 10), .ref (r 11), .ref (r 12), .ref (r 13), .int 0, .int 0, .int 0, .int 0, .int 0, .int 0, .int 0, .int 0, .int 0, .ref (r 23), .ref (r 24), .int 0, .ref (r 26), .ref (r 27), .int 0, .int 0, .int 0, .ref (r 31), .ref (r 32), .ref (r 33), .ref (r 34), .ref (r 35), .int 0, .ref (r 37), .ref (r 38), .ref (r 39), .ref (r 40), .ref (r 41), .ref (r 42), .ref (r 43), .ref (r 44), .ref (r 45), .ref (r 46), .int 0, .ref (r 48), .ref (r 49), .ref (r 50), .ref (r 51), .long 0])), ((r 0), .inl (cI, 1990, .inl (upd (upd (upd f 30 p1) 31 p2) 32 (-1))))] H := hP
  have hD : va_D A [(m0, .inr (9, [.ref (r 0), .ref (r 1), .ref (r 2), .int 0, .int (-1), .int (-1), .ref (r 6), .ref (r 7), .ref (r 8), .ref (r 9), .ref (r 10), .ref (r 11), .ref (r 12), .ref (r 13), .int 0, .int 0, .int 0, .int 0, .int 0, .int 0, .int 0, .int 0, .int 0, .ref (r 23), .ref (r 24), .int 0, .ref (r 26), .ref (r 27), .int 0, .int 0, .int 0, .ref (r 31), .ref (r 32), .ref (r 33), .ref (r 34), .ref (r 35), .int 0, .ref (r 37), .ref (r 38), .ref (r 39), .ref (r 40), .ref (r 41), .ref (r 42), .ref (r 43), .ref (r 44), .ref (r 45), .ref (r 46), .int 0, .ref (r 48), .ref (r 49), .ref (r 50), .ref (r 51), .long 0])), ((r 0), .inl (cI, 1990, .inl (upd (upd (upd f 30 p1) 31 p2) 32 (-1))))] := hD
  refine lv_aload_n hx hb dX9_tellsGoose_39 rfl (lv_at hl 1 rfl) ?_
  refine va_get (D := G) (ci := 9) (v := .ref (r 0)) (C := RX9) (T := TX9) (N := 53) hx hb hts iX9 hown hK hP 0 rfl rfl 0 (by decide) (hts (.fieldLink RX9 7 "GooseLettersModel" "a" "[I") (by decide +kernel)) (fun _ h9 => h9) rfl dX9_tellsGoose_40 ?_
  refine lv_iload hx hb dX9_tellsGoose_43 (lv_at hl 0 rfl) ?_
  refine lv_iconst (v := 3) hx hb dX9_tellsGoose_45 (by decide) ?_
  refine lv_iadd hx hb dX9_tellsGoose_46 ?_
  refine gw_topi (y := 33) (by decide) ?_
  refine lv_iconst (v := (-1)) hx hb dX9_tellsGoose_47 (by decide) ?_
  refine gw_iast hx hb hK hP hD hS 1 0 33 rfl rfl rfl (by decide) (by decide) dX9_tellsGoose_48 (fun H locs hP hD hS => ?_)
  have hP : va_P G vwCl [(m0, .inr (9, [.ref (r 0), .ref (r 1), .ref (r 2), .int 0, .int (-1), .int (-1), .ref (r 6), .ref (r 7), .ref (r 8), .ref (r 9), .ref (r 10), .ref (r 11), .ref (r 12), .ref (r 13), .int 0, .int 0, .int 0, .int 0, .int 0, .int 0, .int 0, .int 0, .int 0, .ref (r 23), .ref (r 24), .int 0, .ref (r 26), .ref (r 27), .int 0, .int 0, .int 0, .ref (r 31), .ref (r 32), .ref (r 33), .ref (r 34), .ref (r 35), .int 0, .ref (r 37), .ref (r 38), .ref (r 39), .ref (r 40), .ref (r 41), .ref (r 42), .ref (r 43), .ref (r 44), .ref (r 45), .ref (r 46), .int 0, .ref (r 48), .ref (r 49), .ref (r 50), .ref (r 51), .long 0])), ((r 0), .inl (cI, 1990, .inl (upd (upd (upd (upd f 30 p1) 31 p2) 32 (-1)) 33 (-1))))] H := hP
  have hD : va_D A [(m0, .inr (9, [.ref (r 0), .ref (r 1), .ref (r 2), .int 0, .int (-1), .int (-1), .ref (r 6), .ref (r 7), .ref (r 8), .ref (r 9), .ref (r 10), .ref (r 11), .ref (r 12), .ref (r 13), .int 0, .int 0, .int 0, .int 0, .int 0, .int 0, .int 0, .int 0, .int 0, .ref (r 23), .ref (r 24), .int 0, .ref (r 26), .ref (r 27), .int 0, .int 0, .int 0, .ref (r 31), .ref (r 32), .ref (r 33), .ref (r 34), .ref (r 35), .int 0, .ref (r 37), .ref (r 38), .ref (r 39), .ref (r 40), .ref (r 41), .ref (r 42), .ref (r 43), .ref (r 44), .ref (r 45), .ref (r 46), .int 0, .ref (r 48), .ref (r 49), .ref (r 50), .ref (r 51), .long 0])), ((r 0), .inl (cI, 1990, .inl (upd (upd (upd (upd f 30 p1) 31 p2) 32 (-1)) 33 (-1))))] := hD
  refine lv_aload_n hx hb dX9_tellsGoose_49 rfl (lv_at hl 1 rfl) ?_
  refine va_get (D := G) (ci := 9) (v := .ref (r 0)) (C := RX9) (T := TX9) (N := 53) hx hb hts iX9 hown hK hP 0 rfl rfl 0 (by decide) (hts (.fieldLink RX9 7 "GooseLettersModel" "a" "[I") (by decide +kernel)) (fun _ h9 => h9) rfl dX9_tellsGoose_50 ?_
  refine lv_iload hx hb dX9_tellsGoose_53 (lv_at hl 0 rfl) ?_
  refine lv_iconst (v := 4) hx hb dX9_tellsGoose_55 (by decide) ?_
  refine lv_iadd hx hb dX9_tellsGoose_56 ?_
  refine gw_topi (y := 34) (by decide) ?_
  refine lv_iconst (v := 0) hx hb dX9_tellsGoose_57 (by decide) ?_
  refine gw_iast hx hb hK hP hD hS 1 0 34 rfl rfl rfl (by decide) (by decide) dX9_tellsGoose_58 (fun H locs hP hD hS => ?_)
  have hP : va_P G vwCl [(m0, .inr (9, [.ref (r 0), .ref (r 1), .ref (r 2), .int 0, .int (-1), .int (-1), .ref (r 6), .ref (r 7), .ref (r 8), .ref (r 9), .ref (r 10), .ref (r 11), .ref (r 12), .ref (r 13), .int 0, .int 0, .int 0, .int 0, .int 0, .int 0, .int 0, .int 0, .int 0, .ref (r 23), .ref (r 24), .int 0, .ref (r 26), .ref (r 27), .int 0, .int 0, .int 0, .ref (r 31), .ref (r 32), .ref (r 33), .ref (r 34), .ref (r 35), .int 0, .ref (r 37), .ref (r 38), .ref (r 39), .ref (r 40), .ref (r 41), .ref (r 42), .ref (r 43), .ref (r 44), .ref (r 45), .ref (r 46), .int 0, .ref (r 48), .ref (r 49), .ref (r 50), .ref (r 51), .long 0])), ((r 0), .inl (cI, 1990, .inl (upd (upd (upd (upd (upd f 30 p1) 31 p2) 32 (-1)) 33 (-1)) 34 0)))] H := hP
  have hD : va_D A [(m0, .inr (9, [.ref (r 0), .ref (r 1), .ref (r 2), .int 0, .int (-1), .int (-1), .ref (r 6), .ref (r 7), .ref (r 8), .ref (r 9), .ref (r 10), .ref (r 11), .ref (r 12), .ref (r 13), .int 0, .int 0, .int 0, .int 0, .int 0, .int 0, .int 0, .int 0, .int 0, .ref (r 23), .ref (r 24), .int 0, .ref (r 26), .ref (r 27), .int 0, .int 0, .int 0, .ref (r 31), .ref (r 32), .ref (r 33), .ref (r 34), .ref (r 35), .int 0, .ref (r 37), .ref (r 38), .ref (r 39), .ref (r 40), .ref (r 41), .ref (r 42), .ref (r 43), .ref (r 44), .ref (r 45), .ref (r 46), .int 0, .ref (r 48), .ref (r 49), .ref (r 50), .ref (r 51), .long 0])), ((r 0), .inl (cI, 1990, .inl (upd (upd (upd (upd (upd f 30 p1) 31 p2) 32 (-1)) 33 (-1)) 34 0)))] := hD
  refine lv_aload_n hx hb dX9_tellsGoose_59 rfl (lv_at hl 1 rfl) ?_
  refine va_get (D := G) (ci := 9) (v := .ref (r 0)) (C := RX9) (T := TX9) (N := 53) hx hb hts iX9 hown hK hP 0 rfl rfl 0 (by decide) (hts (.fieldLink RX9 7 "GooseLettersModel" "a" "[I") (by decide +kernel)) (fun _ h9 => h9) rfl dX9_tellsGoose_60 ?_
  refine lv_iload hx hb dX9_tellsGoose_63 (lv_at hl 0 rfl) ?_
  refine lv_iconst (v := 5) hx hb dX9_tellsGoose_65 (by decide) ?_
  refine lv_iadd hx hb dX9_tellsGoose_66 ?_
  refine gw_topi (y := 35) (by decide) ?_
  refine lv_iconst (v := (-1)) hx hb dX9_tellsGoose_67 (by decide) ?_
  refine gw_iast hx hb hK hP hD hS 1 0 35 rfl rfl rfl (by decide) (by decide) dX9_tellsGoose_68 (fun H locs hP hD hS => ?_)
  have hP : va_P G vwCl [(m0, .inr (9, [.ref (r 0), .ref (r 1), .ref (r 2), .int 0, .int (-1), .int (-1), .ref (r 6), .ref (r 7), .ref (r 8), .ref (r 9), .ref (r 10), .ref (r 11), .ref (r 12), .ref (r 13), .int 0, .int 0, .int 0, .int 0, .int 0, .int 0, .int 0, .int 0, .int 0, .ref (r 23), .ref (r 24), .int 0, .ref (r 26), .ref (r 27), .int 0, .int 0, .int 0, .ref (r 31), .ref (r 32), .ref (r 33), .ref (r 34), .ref (r 35), .int 0, .ref (r 37), .ref (r 38), .ref (r 39), .ref (r 40), .ref (r 41), .ref (r 42), .ref (r 43), .ref (r 44), .ref (r 45), .ref (r 46), .int 0, .ref (r 48), .ref (r 49), .ref (r 50), .ref (r 51), .long 0])), ((r 0), .inl (cI, 1990, .inl (upd (upd (upd (upd (upd (upd f 30 p1) 31 p2) 32 (-1)) 33 (-1)) 34 0) 35 (-1))))] H := hP
  have hD : va_D A [(m0, .inr (9, [.ref (r 0), .ref (r 1), .ref (r 2), .int 0, .int (-1), .int (-1), .ref (r 6), .ref (r 7), .ref (r 8), .ref (r 9), .ref (r 10), .ref (r 11), .ref (r 12), .ref (r 13), .int 0, .int 0, .int 0, .int 0, .int 0, .int 0, .int 0, .int 0, .int 0, .ref (r 23), .ref (r 24), .int 0, .ref (r 26), .ref (r 27), .int 0, .int 0, .int 0, .ref (r 31), .ref (r 32), .ref (r 33), .ref (r 34), .ref (r 35), .int 0, .ref (r 37), .ref (r 38), .ref (r 39), .ref (r 40), .ref (r 41), .ref (r 42), .ref (r 43), .ref (r 44), .ref (r 45), .ref (r 46), .int 0, .ref (r 48), .ref (r 49), .ref (r 50), .ref (r 51), .long 0])), ((r 0), .inl (cI, 1990, .inl (upd (upd (upd (upd (upd (upd f 30 p1) 31 p2) 32 (-1)) 33 (-1)) 34 0) 35 (-1))))] := hD
  refine lv_aload_n hx hb dX9_tellsGoose_69 rfl (lv_at hl 1 rfl) ?_
  refine va_get (D := G) (ci := 9) (v := .ref (r 0)) (C := RX9) (T := TX9) (N := 53) hx hb hts iX9 hown hK hP 0 rfl rfl 0 (by decide) (hts (.fieldLink RX9 7 "GooseLettersModel" "a" "[I") (by decide +kernel)) (fun _ h9 => h9) rfl dX9_tellsGoose_70 ?_
  refine lv_iload hx hb dX9_tellsGoose_73 (lv_at hl 0 rfl) ?_
  refine lv_bipush (v := 6) hx hb dX9_tellsGoose_75 (by decide) ?_
  refine lv_iadd hx hb dX9_tellsGoose_77 ?_
  refine gw_topi (y := 36) (by decide) ?_
  refine lv_iconst (v := (-1)) hx hb dX9_tellsGoose_78 (by decide) ?_
  refine gw_iast hx hb hK hP hD hS 1 0 36 rfl rfl rfl (by decide) (by decide) dX9_tellsGoose_79 (fun H locs hP hD hS => ?_)
  have hP : va_P G vwCl [(m0, .inr (9, [.ref (r 0), .ref (r 1), .ref (r 2), .int 0, .int (-1), .int (-1), .ref (r 6), .ref (r 7), .ref (r 8), .ref (r 9), .ref (r 10), .ref (r 11), .ref (r 12), .ref (r 13), .int 0, .int 0, .int 0, .int 0, .int 0, .int 0, .int 0, .int 0, .int 0, .ref (r 23), .ref (r 24), .int 0, .ref (r 26), .ref (r 27), .int 0, .int 0, .int 0, .ref (r 31), .ref (r 32), .ref (r 33), .ref (r 34), .ref (r 35), .int 0, .ref (r 37), .ref (r 38), .ref (r 39), .ref (r 40), .ref (r 41), .ref (r 42), .ref (r 43), .ref (r 44), .ref (r 45), .ref (r 46), .int 0, .ref (r 48), .ref (r 49), .ref (r 50), .ref (r 51), .long 0])), ((r 0), .inl (cI, 1990, .inl (upd (upd (upd (upd (upd (upd (upd f 30 p1) 31 p2) 32 (-1)) 33 (-1)) 34 0) 35 (-1)) 36 (-1))))] H := hP
  have hD : va_D A [(m0, .inr (9, [.ref (r 0), .ref (r 1), .ref (r 2), .int 0, .int (-1), .int (-1), .ref (r 6), .ref (r 7), .ref (r 8), .ref (r 9), .ref (r 10), .ref (r 11), .ref (r 12), .ref (r 13), .int 0, .int 0, .int 0, .int 0, .int 0, .int 0, .int 0, .int 0, .int 0, .ref (r 23), .ref (r 24), .int 0, .ref (r 26), .ref (r 27), .int 0, .int 0, .int 0, .ref (r 31), .ref (r 32), .ref (r 33), .ref (r 34), .ref (r 35), .int 0, .ref (r 37), .ref (r 38), .ref (r 39), .ref (r 40), .ref (r 41), .ref (r 42), .ref (r 43), .ref (r 44), .ref (r 45), .ref (r 46), .int 0, .ref (r 48), .ref (r 49), .ref (r 50), .ref (r 51), .long 0])), ((r 0), .inl (cI, 1990, .inl (upd (upd (upd (upd (upd (upd (upd f 30 p1) 31 p2) 32 (-1)) 33 (-1)) 34 0) 35 (-1)) 36 (-1))))] := hD
  refine lv_aload_n hx hb dX9_tellsGoose_80 rfl (lv_at hl 1 rfl) ?_
  refine va_get (D := G) (ci := 9) (v := .ref (r 0)) (C := RX9) (T := TX9) (N := 53) hx hb hts iX9 hown hK hP 0 rfl rfl 0 (by decide) (hts (.fieldLink RX9 7 "GooseLettersModel" "a" "[I") (by decide +kernel)) (fun _ h9 => h9) rfl dX9_tellsGoose_81 ?_
  refine lv_iload hx hb dX9_tellsGoose_84 (lv_at hl 0 rfl) ?_
  refine lv_bipush (v := 7) hx hb dX9_tellsGoose_86 (by decide) ?_
  refine lv_iadd hx hb dX9_tellsGoose_88 ?_
  refine gw_topi (y := 37) (by decide) ?_
  refine lv_iconst (v := (-1)) hx hb dX9_tellsGoose_89 (by decide) ?_
  refine gw_iast hx hb hK hP hD hS 1 0 37 rfl rfl rfl (by decide) (by decide) dX9_tellsGoose_90 (fun H locs hP hD hS => ?_)
  have hP : va_P G vwCl [(m0, .inr (9, [.ref (r 0), .ref (r 1), .ref (r 2), .int 0, .int (-1), .int (-1), .ref (r 6), .ref (r 7), .ref (r 8), .ref (r 9), .ref (r 10), .ref (r 11), .ref (r 12), .ref (r 13), .int 0, .int 0, .int 0, .int 0, .int 0, .int 0, .int 0, .int 0, .int 0, .ref (r 23), .ref (r 24), .int 0, .ref (r 26), .ref (r 27), .int 0, .int 0, .int 0, .ref (r 31), .ref (r 32), .ref (r 33), .ref (r 34), .ref (r 35), .int 0, .ref (r 37), .ref (r 38), .ref (r 39), .ref (r 40), .ref (r 41), .ref (r 42), .ref (r 43), .ref (r 44), .ref (r 45), .ref (r 46), .int 0, .ref (r 48), .ref (r 49), .ref (r 50), .ref (r 51), .long 0])), ((r 0), .inl (cI, 1990, .inl (upd (upd (upd (upd (upd (upd (upd (upd f 30 p1) 31 p2) 32 (-1)) 33 (-1)) 34 0) 35 (-1)) 36 (-1)) 37 (-1))))] H := hP
  have hD : va_D A [(m0, .inr (9, [.ref (r 0), .ref (r 1), .ref (r 2), .int 0, .int (-1), .int (-1), .ref (r 6), .ref (r 7), .ref (r 8), .ref (r 9), .ref (r 10), .ref (r 11), .ref (r 12), .ref (r 13), .int 0, .int 0, .int 0, .int 0, .int 0, .int 0, .int 0, .int 0, .int 0, .ref (r 23), .ref (r 24), .int 0, .ref (r 26), .ref (r 27), .int 0, .int 0, .int 0, .ref (r 31), .ref (r 32), .ref (r 33), .ref (r 34), .ref (r 35), .int 0, .ref (r 37), .ref (r 38), .ref (r 39), .ref (r 40), .ref (r 41), .ref (r 42), .ref (r 43), .ref (r 44), .ref (r 45), .ref (r 46), .int 0, .ref (r 48), .ref (r 49), .ref (r 50), .ref (r 51), .long 0])), ((r 0), .inl (cI, 1990, .inl (upd (upd (upd (upd (upd (upd (upd (upd f 30 p1) 31 p2) 32 (-1)) 33 (-1)) 34 0) 35 (-1)) 36 (-1)) 37 (-1))))] := hD
  refine lv_aload_n hx hb dX9_tellsGoose_91 rfl (lv_at hl 1 rfl) ?_
  refine va_get (D := G) (ci := 9) (v := .ref (r 0)) (C := RX9) (T := TX9) (N := 53) hx hb hts iX9 hown hK hP 0 rfl rfl 0 (by decide) (hts (.fieldLink RX9 7 "GooseLettersModel" "a" "[I") (by decide +kernel)) (fun _ h9 => h9) rfl dX9_tellsGoose_92 ?_
  refine lv_iload hx hb dX9_tellsGoose_95 (lv_at hl 0 rfl) ?_
  refine lv_bipush (v := 8) hx hb dX9_tellsGoose_97 (by decide) ?_
  refine lv_iadd hx hb dX9_tellsGoose_99 ?_
  refine gw_topi (y := 38) (by decide) ?_
  refine lv_iconst (v := 0) hx hb dX9_tellsGoose_100 (by decide) ?_
  refine gw_iast hx hb hK hP hD hS 1 0 38 rfl rfl rfl (by decide) (by decide) dX9_tellsGoose_101 (fun H locs hP hD hS => ?_)
  have hP : va_P G vwCl [(m0, .inr (9, [.ref (r 0), .ref (r 1), .ref (r 2), .int 0, .int (-1), .int (-1), .ref (r 6), .ref (r 7), .ref (r 8), .ref (r 9), .ref (r 10), .ref (r 11), .ref (r 12), .ref (r 13), .int 0, .int 0, .int 0, .int 0, .int 0, .int 0, .int 0, .int 0, .int 0, .ref (r 23), .ref (r 24), .int 0, .ref (r 26), .ref (r 27), .int 0, .int 0, .int 0, .ref (r 31), .ref (r 32), .ref (r 33), .ref (r 34), .ref (r 35), .int 0, .ref (r 37), .ref (r 38), .ref (r 39), .ref (r 40), .ref (r 41), .ref (r 42), .ref (r 43), .ref (r 44), .ref (r 45), .ref (r 46), .int 0, .ref (r 48), .ref (r 49), .ref (r 50), .ref (r 51), .long 0])), ((r 0), .inl (cI, 1990, .inl (upd (upd (upd (upd (upd (upd (upd (upd (upd f 30 p1) 31 p2) 32 (-1)) 33 (-1)) 34 0) 35 (-1)) 36 (-1)) 37 (-1)) 38 0)))] H := hP
  have hD : va_D A [(m0, .inr (9, [.ref (r 0), .ref (r 1), .ref (r 2), .int 0, .int (-1), .int (-1), .ref (r 6), .ref (r 7), .ref (r 8), .ref (r 9), .ref (r 10), .ref (r 11), .ref (r 12), .ref (r 13), .int 0, .int 0, .int 0, .int 0, .int 0, .int 0, .int 0, .int 0, .int 0, .ref (r 23), .ref (r 24), .int 0, .ref (r 26), .ref (r 27), .int 0, .int 0, .int 0, .ref (r 31), .ref (r 32), .ref (r 33), .ref (r 34), .ref (r 35), .int 0, .ref (r 37), .ref (r 38), .ref (r 39), .ref (r 40), .ref (r 41), .ref (r 42), .ref (r 43), .ref (r 44), .ref (r 45), .ref (r 46), .int 0, .ref (r 48), .ref (r 49), .ref (r 50), .ref (r 51), .long 0])), ((r 0), .inl (cI, 1990, .inl (upd (upd (upd (upd (upd (upd (upd (upd (upd f 30 p1) 31 p2) 32 (-1)) 33 (-1)) 34 0) 35 (-1)) 36 (-1)) 37 (-1)) 38 0)))] := hD
  exact gw_vret () hx hb hr hlocks hP hD hS trivial dX9_tellsGoose_102
def v_X9_goose (p1 : Int32) (p2 : Int32) : Int32 := (if (v_X9_in p1 1 20) = 0 then (-1) else (if (v_X9_in p2 0 99) = 0 then (-1) else 0))
theorem e_X9_tellsGoose : yX9_tellsGoose.cls = RX9 ∧ yX9_tellsGoose.cls ≠ "java/lang/invoke/MethodHandle" ∧ yX9_tellsGoose.cls ≠ "java/lang/invoke/VarHandle" ∧ (parseMethodDescriptor yX9_tellsGoose.desc).map (fun d => d.parameters.length) = some 4 := by decide +kernel
set_option maxHeartbeats 4000000 in
set_option maxRecDepth 100000 in
theorem c_X9_goose (l : Launch) (G : va_G) (cI cJ cZ cB cT : ClassId) (m0 : Nat) (r : Nat → Nat) (p1 : Int32) (p2 : Int32)  : gMi l yX9_goose wsX9_goose 2 G (gT cI cJ cZ cB cT) [.ref m0, .int p1, .int p2] [(m0, .inr (9, [.ref (r 0), .ref (r 1), .ref (r 2), .int 0, .int (-1), .int (-1), .ref (r 6), .ref (r 7), .ref (r 8), .ref (r 9), .ref (r 10), .ref (r 11), .ref (r 12), .ref (r 13), .int 0, .int 0, .int 0, .int 0, .int 0, .int 0, .int 0, .int 0, .int 0, .ref (r 23), .ref (r 24), .int 0, .ref (r 26), .ref (r 27), .int 0, .int 0, .int 0, .ref (r 31), .ref (r 32), .ref (r 33), .ref (r 34), .ref (r 35), .int 0, .ref (r 37), .ref (r 38), .ref (r 39), .ref (r 40), .ref (r 41), .ref (r 42), .ref (r 43), .ref (r 44), .ref (r 45), .ref (r 46), .int 0, .ref (r 48), .ref (r 49), .ref (r 50), .ref (r 51), .long 0])), ((r 0), .inl (cI, 1990, .inl (upd (upd (fun _ => 0) 4 (-1)) 122 9)))] (fun r (_ : Unit) => r = (v_X9_goose p1 p2)) (fun (_ : Unit) => ([] : va_W)) := by
  intro sz
  refine gM_start (Qf := fun A => va_Qi (fun r (_ : Unit) => r = (v_X9_goose p1 p2)) (gB G (fun (_ : Unit) => ([] : va_W)) A) A) (cc := cX9_goose) (maxL := 4) (ret := (some .int)) (by decide) rfl (Nat.le_of_ble_eq_true rfl) ?_
  intro p e s m args below meth c A ls H hx hb hr hts hown hin hlocks hml hP hK hD hA hS hl
  have hl : lv_has ls 4 [(0, .ref m0), (1, .int p1), (2, .int p2)] := hl
  have iX9 : ∀ w ∈ u_ws RX9 TX9 53, w ∈ wsX9_goose := by decide +kernel
  refine lv_iload_n hx hb dX9_goose_0 rfl (lv_at hl 1 rfl) ?_
  refine lv_iconst (v := 1) hx hb dX9_goose_1 (by decide) ?_
  refine lv_bipush (v := 20) hx hb dX9_goose_2 (by decide) ?_
  refine gw_calli (gw_runS (As := [.int p1, .int 1, .int 20]) (rest := []) ⟨hx, hb, hml, hown, hts⟩ (c_X9_in l G cI cJ cZ cB cT p1 1 20  H.size) gX9_goose_X9_in rfl e_X9_in ⟨Nat.le_of_ble_eq_true rfl, Nat.le_of_ble_eq_true rfl⟩ hK hP hD [] rfl (by decide) rfl rfl hl.1 rfl (Nat.le_of_ble_eq_true rfl) dX9_goose_4 ⟨Nat.le_of_ble_eq_true rfl, Nat.le_of_ble_eq_true rfl⟩) hP hD hS hA [] [0, 1] rfl rfl (by decide) (by decide) (fun r_1 u_1 H locs hw_1 hP hD hS => ?_)
  subst hw_1
  have hP : va_P G vwCl [(m0, .inr (9, [.ref (r 0), .ref (r 1), .ref (r 2), .int 0, .int (-1), .int (-1), .ref (r 6), .ref (r 7), .ref (r 8), .ref (r 9), .ref (r 10), .ref (r 11), .ref (r 12), .ref (r 13), .int 0, .int 0, .int 0, .int 0, .int 0, .int 0, .int 0, .int 0, .int 0, .ref (r 23), .ref (r 24), .int 0, .ref (r 26), .ref (r 27), .int 0, .int 0, .int 0, .ref (r 31), .ref (r 32), .ref (r 33), .ref (r 34), .ref (r 35), .int 0, .ref (r 37), .ref (r 38), .ref (r 39), .ref (r 40), .ref (r 41), .ref (r 42), .ref (r 43), .ref (r 44), .ref (r 45), .ref (r 46), .int 0, .ref (r 48), .ref (r 49), .ref (r 50), .ref (r 51), .long 0])), ((r 0), .inl (cI, 1990, .inl (upd (upd (fun _ => 0) 4 (-1)) 122 9)))] H := hP
  have hD : va_D A [(m0, .inr (9, [.ref (r 0), .ref (r 1), .ref (r 2), .int 0, .int (-1), .int (-1), .ref (r 6), .ref (r 7), .ref (r 8), .ref (r 9), .ref (r 10), .ref (r 11), .ref (r 12), .ref (r 13), .int 0, .int 0, .int 0, .int 0, .int 0, .int 0, .int 0, .int 0, .int 0, .ref (r 23), .ref (r 24), .int 0, .ref (r 26), .ref (r 27), .int 0, .int 0, .int 0, .ref (r 31), .ref (r 32), .ref (r 33), .ref (r 34), .ref (r 35), .int 0, .ref (r 37), .ref (r 38), .ref (r 39), .ref (r 40), .ref (r 41), .ref (r 42), .ref (r 43), .ref (r 44), .ref (r 45), .ref (r 46), .int 0, .ref (r 48), .ref (r 49), .ref (r 50), .ref (r 51), .long 0])), ((r 0), .inl (cI, 1990, .inl (upd (upd (fun _ => 0) 4 (-1)) 122 9)))] := hD
  refine lv_if_eq (tgt := 31) hx hb dX9_goose_7 (by decide) (fun c_2 => ?_) (fun c_2 => ?_)
  · refine lv_iconst (v := (-1)) hx hb dX9_goose_31 (by decide) ?_
    exact gw_iret () hx hb hr hlocks (hP.sub [] rfl) (hD.sub [] (by decide) rfl) hS (by rw [v_X9_goose, if_pos c_2]) dX9_goose_32
  · refine lv_iload_n hx hb dX9_goose_10 rfl (lv_at hl 2 rfl) ?_
    refine lv_iconst (v := 0) hx hb dX9_goose_11 (by decide) ?_
    refine lv_bipush (v := 99) hx hb dX9_goose_12 (by decide) ?_
    refine gw_calli (gw_runS (As := [.int p2, .int 0, .int 99]) (rest := []) ⟨hx, hb, hml, hown, hts⟩ (c_X9_in l G cI cJ cZ cB cT p2 0 99  H.size) gX9_goose_X9_in rfl e_X9_in ⟨Nat.le_of_ble_eq_true rfl, Nat.le_of_ble_eq_true rfl⟩ hK hP hD [] rfl (by decide) rfl rfl hl.1 rfl (Nat.le_of_ble_eq_true rfl) dX9_goose_14 ⟨Nat.le_of_ble_eq_true rfl, Nat.le_of_ble_eq_true rfl⟩) hP hD hS hA [] [0, 1] rfl rfl (by decide) (by decide) (fun r_3 u_3 H locs hw_3 hP hD hS => ?_)
    subst hw_3
    have hP : va_P G vwCl [(m0, .inr (9, [.ref (r 0), .ref (r 1), .ref (r 2), .int 0, .int (-1), .int (-1), .ref (r 6), .ref (r 7), .ref (r 8), .ref (r 9), .ref (r 10), .ref (r 11), .ref (r 12), .ref (r 13), .int 0, .int 0, .int 0, .int 0, .int 0, .int 0, .int 0, .int 0, .int 0, .ref (r 23), .ref (r 24), .int 0, .ref (r 26), .ref (r 27), .int 0, .int 0, .int 0, .ref (r 31), .ref (r 32), .ref (r 33), .ref (r 34), .ref (r 35), .int 0, .ref (r 37), .ref (r 38), .ref (r 39), .ref (r 40), .ref (r 41), .ref (r 42), .ref (r 43), .ref (r 44), .ref (r 45), .ref (r 46), .int 0, .ref (r 48), .ref (r 49), .ref (r 50), .ref (r 51), .long 0])), ((r 0), .inl (cI, 1990, .inl (upd (upd (fun _ => 0) 4 (-1)) 122 9)))] H := hP
    have hD : va_D A [(m0, .inr (9, [.ref (r 0), .ref (r 1), .ref (r 2), .int 0, .int (-1), .int (-1), .ref (r 6), .ref (r 7), .ref (r 8), .ref (r 9), .ref (r 10), .ref (r 11), .ref (r 12), .ref (r 13), .int 0, .int 0, .int 0, .int 0, .int 0, .int 0, .int 0, .int 0, .int 0, .ref (r 23), .ref (r 24), .int 0, .ref (r 26), .ref (r 27), .int 0, .int 0, .int 0, .ref (r 31), .ref (r 32), .ref (r 33), .ref (r 34), .ref (r 35), .int 0, .ref (r 37), .ref (r 38), .ref (r 39), .ref (r 40), .ref (r 41), .ref (r 42), .ref (r 43), .ref (r 44), .ref (r 45), .ref (r 46), .int 0, .ref (r 48), .ref (r 49), .ref (r 50), .ref (r 51), .long 0])), ((r 0), .inl (cI, 1990, .inl (upd (upd (fun _ => 0) 4 (-1)) 122 9)))] := hD
    refine lv_if_eq (tgt := 31) hx hb dX9_goose_17 (by decide) (fun c_4 => ?_) (fun c_4 => ?_)
    · refine lv_iconst (v := (-1)) hx hb dX9_goose_31 (by decide) ?_
      exact gw_iret () hx hb hr hlocks (hP.sub [] rfl) (hD.sub [] (by decide) rfl) hS (by rw [v_X9_goose, if_neg c_2, if_pos c_4]) dX9_goose_32
    · refine lv_aload_n hx hb dX9_goose_20 rfl (lv_at hl 0 rfl) ?_
      refine va_get (D := G) (ci := 9) (v := .ref (r 0)) (C := RX9) (T := TX9) (N := 53) hx hb hts iX9 hown hK hP 0 rfl rfl 0 (by decide) (hts (.fieldLink RX9 7 "GooseLettersModel" "a" "[I") (by decide +kernel)) (fun _ h9 => h9) rfl dX9_goose_21 ?_
      refine lv_iconst (v := 1) hx hb dX9_goose_24 (by decide) ?_
      refine gw_iald (x := 0) hx hb hK hP 1 0 1 rfl rfl rfl (by decide) (by decide) rfl dX9_goose_25 ?_
      refine lv_bipush (v := 10) hx hb dX9_goose_26 (by decide) ?_
      refine lv_icmp_ne (tgt := 33) hx hb dX9_goose_28 (by decide) (fun _ => ?_) (fun c => absurd c (by decide))
      refine lv_aload_n hx hb dX9_goose_33 rfl (lv_at hl 0 rfl) ?_
      refine lv_bipush (v := 30) hx hb dX9_goose_34 (by decide) ?_
      refine lv_aload_n hx hb dX9_goose_36 rfl (lv_at hl 0 rfl) ?_
      refine va_get (D := G) (ci := 9) (v := .ref (r 0)) (C := RX9) (T := TX9) (N := 53) hx hb hts iX9 hown hK hP 0 rfl rfl 0 (by decide) (hts (.fieldLink RX9 7 "GooseLettersModel" "a" "[I") (by decide +kernel)) (fun _ h9 => h9) rfl dX9_goose_37 ?_
      refine lv_iconst (v := 1) hx hb dX9_goose_40 (by decide) ?_
      refine gw_iald (x := 0) hx hb hK hP 1 0 1 rfl rfl rfl (by decide) (by decide) rfl dX9_goose_41 ?_
      refine lv_iload_n hx hb dX9_goose_42 rfl (lv_at hl 1 rfl) ?_
      refine lv_iload_n hx hb dX9_goose_43 rfl (lv_at hl 2 rfl) ?_
      refine gw_callv (gw_runV (As := [.int 30, .int 0, .int p1, .int p2]) (rest := []) ⟨hx, hb, hml, hown, hts⟩ (c_tellsGoose0 l G cI cJ cZ cB cT m0 r (upd (upd (fun _ => 0) 4 (-1)) 122 9) p1 p2  H.size) gX9_goose_X9_tellsGoose rfl e_X9_tellsGoose ⟨Nat.le_of_ble_eq_true rfl, Nat.le_of_ble_eq_true rfl⟩ hK hP hD [0, 1] rfl (by decide) rfl 0 rfl rfl rfl hl.1 rfl (Nat.le_of_ble_eq_true rfl) dX9_goose_44 ⟨Nat.le_of_ble_eq_true rfl, Nat.le_of_ble_eq_true rfl⟩) hP hD hS hA [0, 1] [] rfl rfl (by decide) (by decide) (fun u_5 H locs hw_5 hP hD hS => ?_)
      have hP : va_P G vwCl [(m0, .inr (9, [.ref (r 0), .ref (r 1), .ref (r 2), .int 0, .int (-1), .int (-1), .ref (r 6), .ref (r 7), .ref (r 8), .ref (r 9), .ref (r 10), .ref (r 11), .ref (r 12), .ref (r 13), .int 0, .int 0, .int 0, .int 0, .int 0, .int 0, .int 0, .int 0, .int 0, .ref (r 23), .ref (r 24), .int 0, .ref (r 26), .ref (r 27), .int 0, .int 0, .int 0, .ref (r 31), .ref (r 32), .ref (r 33), .ref (r 34), .ref (r 35), .int 0, .ref (r 37), .ref (r 38), .ref (r 39), .ref (r 40), .ref (r 41), .ref (r 42), .ref (r 43), .ref (r 44), .ref (r 45), .ref (r 46), .int 0, .ref (r 48), .ref (r 49), .ref (r 50), .ref (r 51), .long 0])), ((r 0), .inl (cI, 1990, .inl (upd (upd (upd (upd (upd (upd (upd (upd (upd (upd (upd (fun _ => 0) 4 (-1)) 122 9) 30 p1) 31 p2) 32 (-1)) 33 (-1)) 34 0) 35 (-1)) 36 (-1)) 37 (-1)) 38 0)))] H := hP
      have hD : va_D A [(m0, .inr (9, [.ref (r 0), .ref (r 1), .ref (r 2), .int 0, .int (-1), .int (-1), .ref (r 6), .ref (r 7), .ref (r 8), .ref (r 9), .ref (r 10), .ref (r 11), .ref (r 12), .ref (r 13), .int 0, .int 0, .int 0, .int 0, .int 0, .int 0, .int 0, .int 0, .int 0, .ref (r 23), .ref (r 24), .int 0, .ref (r 26), .ref (r 27), .int 0, .int 0, .int 0, .ref (r 31), .ref (r 32), .ref (r 33), .ref (r 34), .ref (r 35), .int 0, .ref (r 37), .ref (r 38), .ref (r 39), .ref (r 40), .ref (r 41), .ref (r 42), .ref (r 43), .ref (r 44), .ref (r 45), .ref (r 46), .int 0, .ref (r 48), .ref (r 49), .ref (r 50), .ref (r 51), .long 0])), ((r 0), .inl (cI, 1990, .inl (upd (upd (upd (upd (upd (upd (upd (upd (upd (upd (upd (fun _ => 0) 4 (-1)) 122 9) 30 p1) 31 p2) 32 (-1)) 33 (-1)) 34 0) 35 (-1)) 36 (-1)) 37 (-1)) 38 0)))] := hD
      refine lv_iconst (v := 0) hx hb dX9_goose_47 (by decide) ?_
      refine lv_istore_n (lv' := [(3, .int 0), (0, .ref m0), (1, .int p1), (2, .int p2)]) hx hb dX9_goose_48 rfl hl (by decide) rfl (fun ls hl => ?_)
      refine lv_iload_n hx hb dX9_goose_49 rfl (lv_at hl 0 rfl) ?_
      refine lv_aload_n hx hb dX9_goose_50 rfl (lv_at hl 1 rfl) ?_
      refine va_get (D := G) (ci := 9) (v := .ref (r 0)) (C := RX9) (T := TX9) (N := 53) hx hb hts iX9 hown hK hP 0 rfl rfl 0 (by decide) (hts (.fieldLink RX9 7 "GooseLettersModel" "a" "[I") (by decide +kernel)) (fun _ h9 => h9) rfl dX9_goose_51 ?_
      refine lv_iconst (v := 5) hx hb dX9_goose_54 (by decide) ?_
      refine gw_iald (x := 0) hx hb hK hP 1 0 5 rfl rfl rfl (by decide) (by decide) rfl dX9_goose_55 ?_
      refine lv_icmp_ge (tgt := 85) hx hb dX9_goose_56 (by decide) (fun _ => ?_) (fun c => absurd (by decide) c)
      refine lv_aload_n hx hb dX9_goose_85 rfl (lv_at hl 1 rfl) ?_
      refine va_get (D := G) (ci := 9) (v := .ref (r 0)) (C := RX9) (T := TX9) (N := 53) hx hb hts iX9 hown hK hP 0 rfl rfl 0 (by decide) (hts (.fieldLink RX9 7 "GooseLettersModel" "a" "[I") (by decide +kernel)) (fun _ h9 => h9) rfl dX9_goose_86 ?_
      refine lv_iconst (v := 1) hx hb dX9_goose_89 (by decide) ?_
      refine lv_dup2_11 hx hb dX9_goose_90 rfl rfl ?_
      refine gw_iald (x := 0) hx hb hK hP 1 0 1 rfl rfl rfl (by decide) (by decide) rfl dX9_goose_91 ?_
      refine lv_iconst (v := 1) hx hb dX9_goose_92 (by decide) ?_
      refine lv_iadd hx hb dX9_goose_93 ?_
      refine gw_topi (y := 1) (by decide) ?_
      refine gw_iast hx hb hK hP hD hS 1 0 1 rfl rfl rfl (by decide) (by decide) dX9_goose_94 (fun H locs hP hD hS => ?_)
      have hP : va_P G vwCl [(m0, .inr (9, [.ref (r 0), .ref (r 1), .ref (r 2), .int 0, .int (-1), .int (-1), .ref (r 6), .ref (r 7), .ref (r 8), .ref (r 9), .ref (r 10), .ref (r 11), .ref (r 12), .ref (r 13), .int 0, .int 0, .int 0, .int 0, .int 0, .int 0, .int 0, .int 0, .int 0, .ref (r 23), .ref (r 24), .int 0, .ref (r 26), .ref (r 27), .int 0, .int 0, .int 0, .ref (r 31), .ref (r 32), .ref (r 33), .ref (r 34), .ref (r 35), .int 0, .ref (r 37), .ref (r 38), .ref (r 39), .ref (r 40), .ref (r 41), .ref (r 42), .ref (r 43), .ref (r 44), .ref (r 45), .ref (r 46), .int 0, .ref (r 48), .ref (r 49), .ref (r 50), .ref (r 51), .long 0])), ((r 0), .inl (cI, 1990, .inl (upd (upd (upd (upd (upd (upd (upd (upd (upd (upd (upd (upd (fun _ => 0) 4 (-1)) 122 9) 30 p1) 31 p2) 32 (-1)) 33 (-1)) 34 0) 35 (-1)) 36 (-1)) 37 (-1)) 38 0) 1 1)))] H := hP
      have hD : va_D A [(m0, .inr (9, [.ref (r 0), .ref (r 1), .ref (r 2), .int 0, .int (-1), .int (-1), .ref (r 6), .ref (r 7), .ref (r 8), .ref (r 9), .ref (r 10), .ref (r 11), .ref (r 12), .ref (r 13), .int 0, .int 0, .int 0, .int 0, .int 0, .int 0, .int 0, .int 0, .int 0, .ref (r 23), .ref (r 24), .int 0, .ref (r 26), .ref (r 27), .int 0, .int 0, .int 0, .ref (r 31), .ref (r 32), .ref (r 33), .ref (r 34), .ref (r 35), .int 0, .ref (r 37), .ref (r 38), .ref (r 39), .ref (r 40), .ref (r 41), .ref (r 42), .ref (r 43), .ref (r 44), .ref (r 45), .ref (r 46), .int 0, .ref (r 48), .ref (r 49), .ref (r 50), .ref (r 51), .long 0])), ((r 0), .inl (cI, 1990, .inl (upd (upd (upd (upd (upd (upd (upd (upd (upd (upd (upd (upd (fun _ => 0) 4 (-1)) 122 9) 30 p1) 31 p2) 32 (-1)) 33 (-1)) 34 0) 35 (-1)) 36 (-1)) 37 (-1)) 38 0) 1 1)))] := hD
      refine lv_aload_n hx hb dX9_goose_95 rfl (lv_at hl 1 rfl) ?_
      refine va_get (D := G) (ci := 9) (v := .ref (r 0)) (C := RX9) (T := TX9) (N := 53) hx hb hts iX9 hown hK hP 0 rfl rfl 0 (by decide) (hts (.fieldLink RX9 7 "GooseLettersModel" "a" "[I") (by decide +kernel)) (fun _ h9 => h9) rfl dX9_goose_96 ?_
      refine lv_iconst (v := 1) hx hb dX9_goose_99 (by decide) ?_
      refine gw_iald (x := 1) hx hb hK hP 1 0 1 rfl rfl rfl (by decide) (by decide) rfl dX9_goose_100 ?_
      refine lv_iconst (v := 1) hx hb dX9_goose_101 (by decide) ?_
      refine lv_isub hx hb dX9_goose_102 ?_
      refine gw_topi (y := 0) (by decide) ?_
      exact gw_iret () hx hb hr hlocks (hP.sub [] rfl) (hD.sub [] (by decide) rfl) hS (by rw [v_X9_goose, if_neg c_2, if_neg c_4]) dX9_goose_103
def v_X9_store (p1 : Int32) (p2 : Int32) : Int32 := (if (v_X9_in p1 0 9999) = 0 then 0 else (if (v_X9_in p2 0 99) = 0 then 0 else 1))
theorem vz_X9_store (p1 : Int32) (p2 : Int32) : v_X9_store p1 p2 = 0 ∨ v_X9_store p1 p2 = 1 := by
  unfold v_X9_store
  (repeat' split) <;> first | exact Or.inl rfl | exact Or.inr rfl
set_option maxHeartbeats 4000000 in
set_option maxRecDepth 100000 in
theorem c_X9_store (l : Launch) (G : va_G) (cI cJ cZ cB cT : ClassId) (m0 : Nat) (r : Nat → Nat) (p1 : Int32) (p2 : Int32)  : gMi l yX9_store wsX9_store 2 G (gT cI cJ cZ cB cT) [.ref m0, .int p1, .int p2] [(m0, .inr (9, [.ref (r 0), .ref (r 1), .ref (r 2), .int 0, .int (-1), .int (-1), .ref (r 6), .ref (r 7), .ref (r 8), .ref (r 9), .ref (r 10), .ref (r 11), .ref (r 12), .ref (r 13), .int 0, .int 0, .int 0, .int 0, .int 0, .int 0, .int 0, .int 0, .int 0, .ref (r 23), .ref (r 24), .int 0, .ref (r 26), .ref (r 27), .int 0, .int 0, .int 0, .ref (r 31), .ref (r 32), .ref (r 33), .ref (r 34), .ref (r 35), .int 0, .ref (r 37), .ref (r 38), .ref (r 39), .ref (r 40), .ref (r 41), .ref (r 42), .ref (r 43), .ref (r 44), .ref (r 45), .ref (r 46), .int 0, .ref (r 48), .ref (r 49), .ref (r 50), .ref (r 51), .long 0])), ((r 0), .inl (cI, 1990, .inl (upd (upd (fun _ => 0) 4 (-1)) 122 9)))] (fun r (_ : Unit) => r = (v_X9_store p1 p2)) (fun (_ : Unit) => ([] : va_W)) := by
  intro sz
  refine gM_start (Qf := fun A => va_Qi (fun r (_ : Unit) => r = (v_X9_store p1 p2)) (gB G (fun (_ : Unit) => ([] : va_W)) A) A) (cc := cX9_store) (maxL := 3) (ret := (some .boolean)) (by decide) rfl (Nat.le_of_ble_eq_true rfl) ?_
  intro p e s m args below meth c A ls H hx hb hr hts hown hin hlocks hml hP hK hD hA hS hl
  have hl : lv_has ls 3 [(0, .ref m0), (1, .int p1), (2, .int p2)] := hl
  have iX9 : ∀ w ∈ u_ws RX9 TX9 53, w ∈ wsX9_store := by decide +kernel
  refine lv_iload_n hx hb dX9_store_0 rfl (lv_at hl 1 rfl) ?_
  refine lv_iconst (v := 0) hx hb dX9_store_1 (by decide) ?_
  refine lv_sipush (v := 9999) hx hb dX9_store_2 (by decide) ?_
  refine gw_calli (gw_runS (As := [.int p1, .int 0, .int 9999]) (rest := []) ⟨hx, hb, hml, hown, hts⟩ (c_X9_in l G cI cJ cZ cB cT p1 0 9999  H.size) gX9_store_X9_in rfl e_X9_in ⟨Nat.le_of_ble_eq_true rfl, Nat.le_of_ble_eq_true rfl⟩ hK hP hD [] rfl (by decide) rfl rfl hl.1 rfl (Nat.le_of_ble_eq_true rfl) dX9_store_5 ⟨Nat.le_of_ble_eq_true rfl, Nat.le_of_ble_eq_true rfl⟩) hP hD hS hA [] [0, 1] rfl rfl (by decide) (by decide) (fun r_1 u_1 H locs hw_1 hP hD hS => ?_)
  subst hw_1
  have hP : va_P G vwCl [(m0, .inr (9, [.ref (r 0), .ref (r 1), .ref (r 2), .int 0, .int (-1), .int (-1), .ref (r 6), .ref (r 7), .ref (r 8), .ref (r 9), .ref (r 10), .ref (r 11), .ref (r 12), .ref (r 13), .int 0, .int 0, .int 0, .int 0, .int 0, .int 0, .int 0, .int 0, .int 0, .ref (r 23), .ref (r 24), .int 0, .ref (r 26), .ref (r 27), .int 0, .int 0, .int 0, .ref (r 31), .ref (r 32), .ref (r 33), .ref (r 34), .ref (r 35), .int 0, .ref (r 37), .ref (r 38), .ref (r 39), .ref (r 40), .ref (r 41), .ref (r 42), .ref (r 43), .ref (r 44), .ref (r 45), .ref (r 46), .int 0, .ref (r 48), .ref (r 49), .ref (r 50), .ref (r 51), .long 0])), ((r 0), .inl (cI, 1990, .inl (upd (upd (fun _ => 0) 4 (-1)) 122 9)))] H := hP
  have hD : va_D A [(m0, .inr (9, [.ref (r 0), .ref (r 1), .ref (r 2), .int 0, .int (-1), .int (-1), .ref (r 6), .ref (r 7), .ref (r 8), .ref (r 9), .ref (r 10), .ref (r 11), .ref (r 12), .ref (r 13), .int 0, .int 0, .int 0, .int 0, .int 0, .int 0, .int 0, .int 0, .int 0, .ref (r 23), .ref (r 24), .int 0, .ref (r 26), .ref (r 27), .int 0, .int 0, .int 0, .ref (r 31), .ref (r 32), .ref (r 33), .ref (r 34), .ref (r 35), .int 0, .ref (r 37), .ref (r 38), .ref (r 39), .ref (r 40), .ref (r 41), .ref (r 42), .ref (r 43), .ref (r 44), .ref (r 45), .ref (r 46), .int 0, .ref (r 48), .ref (r 49), .ref (r 50), .ref (r 51), .long 0])), ((r 0), .inl (cI, 1990, .inl (upd (upd (fun _ => 0) 4 (-1)) 122 9)))] := hD
  refine lv_if_eq (tgt := 21) hx hb dX9_store_8 (by decide) (fun c_2 => ?_) (fun c_2 => ?_)
  · refine lv_iconst (v := 0) hx hb dX9_store_21 (by decide) ?_
    exact gw_zret () hx hb hr hlocks rfl (hP.sub [] rfl) (hD.sub [] (by decide) rfl) hS (by rw [v_X9_store, if_pos c_2]) dX9_store_22
  · refine lv_iload_n hx hb dX9_store_11 rfl (lv_at hl 2 rfl) ?_
    refine lv_iconst (v := 0) hx hb dX9_store_12 (by decide) ?_
    refine lv_bipush (v := 99) hx hb dX9_store_13 (by decide) ?_
    refine gw_calli (gw_runS (As := [.int p2, .int 0, .int 99]) (rest := []) ⟨hx, hb, hml, hown, hts⟩ (c_X9_in l G cI cJ cZ cB cT p2 0 99  H.size) gX9_store_X9_in rfl e_X9_in ⟨Nat.le_of_ble_eq_true rfl, Nat.le_of_ble_eq_true rfl⟩ hK hP hD [] rfl (by decide) rfl rfl hl.1 rfl (Nat.le_of_ble_eq_true rfl) dX9_store_15 ⟨Nat.le_of_ble_eq_true rfl, Nat.le_of_ble_eq_true rfl⟩) hP hD hS hA [] [0, 1] rfl rfl (by decide) (by decide) (fun r_3 u_3 H locs hw_3 hP hD hS => ?_)
    subst hw_3
    have hP : va_P G vwCl [(m0, .inr (9, [.ref (r 0), .ref (r 1), .ref (r 2), .int 0, .int (-1), .int (-1), .ref (r 6), .ref (r 7), .ref (r 8), .ref (r 9), .ref (r 10), .ref (r 11), .ref (r 12), .ref (r 13), .int 0, .int 0, .int 0, .int 0, .int 0, .int 0, .int 0, .int 0, .int 0, .ref (r 23), .ref (r 24), .int 0, .ref (r 26), .ref (r 27), .int 0, .int 0, .int 0, .ref (r 31), .ref (r 32), .ref (r 33), .ref (r 34), .ref (r 35), .int 0, .ref (r 37), .ref (r 38), .ref (r 39), .ref (r 40), .ref (r 41), .ref (r 42), .ref (r 43), .ref (r 44), .ref (r 45), .ref (r 46), .int 0, .ref (r 48), .ref (r 49), .ref (r 50), .ref (r 51), .long 0])), ((r 0), .inl (cI, 1990, .inl (upd (upd (fun _ => 0) 4 (-1)) 122 9)))] H := hP
    have hD : va_D A [(m0, .inr (9, [.ref (r 0), .ref (r 1), .ref (r 2), .int 0, .int (-1), .int (-1), .ref (r 6), .ref (r 7), .ref (r 8), .ref (r 9), .ref (r 10), .ref (r 11), .ref (r 12), .ref (r 13), .int 0, .int 0, .int 0, .int 0, .int 0, .int 0, .int 0, .int 0, .int 0, .ref (r 23), .ref (r 24), .int 0, .ref (r 26), .ref (r 27), .int 0, .int 0, .int 0, .ref (r 31), .ref (r 32), .ref (r 33), .ref (r 34), .ref (r 35), .int 0, .ref (r 37), .ref (r 38), .ref (r 39), .ref (r 40), .ref (r 41), .ref (r 42), .ref (r 43), .ref (r 44), .ref (r 45), .ref (r 46), .int 0, .ref (r 48), .ref (r 49), .ref (r 50), .ref (r 51), .long 0])), ((r 0), .inl (cI, 1990, .inl (upd (upd (fun _ => 0) 4 (-1)) 122 9)))] := hD
    refine lv_if_ne (tgt := 23) hx hb dX9_store_18 (by decide) (fun c_4 => ?_) (fun c_4 => ?_)
    · refine lv_aload_n hx hb dX9_store_23 rfl (lv_at hl 0 rfl) ?_
      refine va_get (D := G) (ci := 9) (v := .ref (r 0)) (C := RX9) (T := TX9) (N := 53) hx hb hts iX9 hown hK hP 0 rfl rfl 0 (by decide) (hts (.fieldLink RX9 7 "GooseLettersModel" "a" "[I") (by decide +kernel)) (fun _ h9 => h9) rfl dX9_store_24 ?_
      refine lv_bipush (v := 120) hx hb dX9_store_27 (by decide) ?_
      refine lv_iload_n hx hb dX9_store_29 rfl (lv_at hl 1 rfl) ?_
      refine gw_iast hx hb hK hP hD hS 1 0 120 rfl rfl rfl (by decide) (by decide) dX9_store_30 (fun H locs hP hD hS => ?_)
      have hP : va_P G vwCl [(m0, .inr (9, [.ref (r 0), .ref (r 1), .ref (r 2), .int 0, .int (-1), .int (-1), .ref (r 6), .ref (r 7), .ref (r 8), .ref (r 9), .ref (r 10), .ref (r 11), .ref (r 12), .ref (r 13), .int 0, .int 0, .int 0, .int 0, .int 0, .int 0, .int 0, .int 0, .int 0, .ref (r 23), .ref (r 24), .int 0, .ref (r 26), .ref (r 27), .int 0, .int 0, .int 0, .ref (r 31), .ref (r 32), .ref (r 33), .ref (r 34), .ref (r 35), .int 0, .ref (r 37), .ref (r 38), .ref (r 39), .ref (r 40), .ref (r 41), .ref (r 42), .ref (r 43), .ref (r 44), .ref (r 45), .ref (r 46), .int 0, .ref (r 48), .ref (r 49), .ref (r 50), .ref (r 51), .long 0])), ((r 0), .inl (cI, 1990, .inl (upd (upd (upd (fun _ => 0) 4 (-1)) 122 9) 120 p1)))] H := hP
      have hD : va_D A [(m0, .inr (9, [.ref (r 0), .ref (r 1), .ref (r 2), .int 0, .int (-1), .int (-1), .ref (r 6), .ref (r 7), .ref (r 8), .ref (r 9), .ref (r 10), .ref (r 11), .ref (r 12), .ref (r 13), .int 0, .int 0, .int 0, .int 0, .int 0, .int 0, .int 0, .int 0, .int 0, .ref (r 23), .ref (r 24), .int 0, .ref (r 26), .ref (r 27), .int 0, .int 0, .int 0, .ref (r 31), .ref (r 32), .ref (r 33), .ref (r 34), .ref (r 35), .int 0, .ref (r 37), .ref (r 38), .ref (r 39), .ref (r 40), .ref (r 41), .ref (r 42), .ref (r 43), .ref (r 44), .ref (r 45), .ref (r 46), .int 0, .ref (r 48), .ref (r 49), .ref (r 50), .ref (r 51), .long 0])), ((r 0), .inl (cI, 1990, .inl (upd (upd (upd (fun _ => 0) 4 (-1)) 122 9) 120 p1)))] := hD
      refine lv_aload_n hx hb dX9_store_31 rfl (lv_at hl 0 rfl) ?_
      refine va_get (D := G) (ci := 9) (v := .ref (r 0)) (C := RX9) (T := TX9) (N := 53) hx hb hts iX9 hown hK hP 0 rfl rfl 0 (by decide) (hts (.fieldLink RX9 7 "GooseLettersModel" "a" "[I") (by decide +kernel)) (fun _ h9 => h9) rfl dX9_store_32 ?_
      refine lv_iconst (v := 2) hx hb dX9_store_35 (by decide) ?_
      refine lv_iload_n hx hb dX9_store_36 rfl (lv_at hl 2 rfl) ?_
      refine gw_iast hx hb hK hP hD hS 1 0 2 rfl rfl rfl (by decide) (by decide) dX9_store_37 (fun H locs hP hD hS => ?_)
      have hP : va_P G vwCl [(m0, .inr (9, [.ref (r 0), .ref (r 1), .ref (r 2), .int 0, .int (-1), .int (-1), .ref (r 6), .ref (r 7), .ref (r 8), .ref (r 9), .ref (r 10), .ref (r 11), .ref (r 12), .ref (r 13), .int 0, .int 0, .int 0, .int 0, .int 0, .int 0, .int 0, .int 0, .int 0, .ref (r 23), .ref (r 24), .int 0, .ref (r 26), .ref (r 27), .int 0, .int 0, .int 0, .ref (r 31), .ref (r 32), .ref (r 33), .ref (r 34), .ref (r 35), .int 0, .ref (r 37), .ref (r 38), .ref (r 39), .ref (r 40), .ref (r 41), .ref (r 42), .ref (r 43), .ref (r 44), .ref (r 45), .ref (r 46), .int 0, .ref (r 48), .ref (r 49), .ref (r 50), .ref (r 51), .long 0])), ((r 0), .inl (cI, 1990, .inl (upd (upd (upd (upd (fun _ => 0) 4 (-1)) 122 9) 120 p1) 2 p2)))] H := hP
      have hD : va_D A [(m0, .inr (9, [.ref (r 0), .ref (r 1), .ref (r 2), .int 0, .int (-1), .int (-1), .ref (r 6), .ref (r 7), .ref (r 8), .ref (r 9), .ref (r 10), .ref (r 11), .ref (r 12), .ref (r 13), .int 0, .int 0, .int 0, .int 0, .int 0, .int 0, .int 0, .int 0, .int 0, .ref (r 23), .ref (r 24), .int 0, .ref (r 26), .ref (r 27), .int 0, .int 0, .int 0, .ref (r 31), .ref (r 32), .ref (r 33), .ref (r 34), .ref (r 35), .int 0, .ref (r 37), .ref (r 38), .ref (r 39), .ref (r 40), .ref (r 41), .ref (r 42), .ref (r 43), .ref (r 44), .ref (r 45), .ref (r 46), .int 0, .ref (r 48), .ref (r 49), .ref (r 50), .ref (r 51), .long 0])), ((r 0), .inl (cI, 1990, .inl (upd (upd (upd (upd (fun _ => 0) 4 (-1)) 122 9) 120 p1) 2 p2)))] := hD
      refine lv_iconst (v := 1) hx hb dX9_store_38 (by decide) ?_
      exact gw_zret () hx hb hr hlocks rfl (hP.sub [] rfl) (hD.sub [] (by decide) rfl) hS (by rw [v_X9_store, if_neg c_2, if_neg c_4]) dX9_store_39
    · refine lv_iconst (v := 0) hx hb dX9_store_21 (by decide) ?_
      exact gw_zret () hx hb hr hlocks rfl (hP.sub [] rfl) (hD.sub [] (by decide) rfl) hS (by rw [v_X9_store, if_neg c_2, if_pos c_4]) dX9_store_22
def v_X9_seed (p1 : Int32) : Int32 := (if (v_X9_in p1 0 9999) = 0 then 0 else 1)
theorem vz_X9_seed (p1 : Int32) : v_X9_seed p1 = 0 ∨ v_X9_seed p1 = 1 := by
  unfold v_X9_seed
  (repeat' split) <;> first | exact Or.inl rfl | exact Or.inr rfl
set_option maxHeartbeats 4000000 in
set_option maxRecDepth 100000 in
theorem c_X9_seed (l : Launch) (G : va_G) (cI cJ cZ cB cT : ClassId) (m0 : Nat) (r : Nat → Nat) (p1 : Int32)  : gMi l yX9_seed wsX9_seed 2 G (gT cI cJ cZ cB cT) [.ref m0, .int p1] [(m0, .inr (9, [.ref (r 0), .ref (r 1), .ref (r 2), .int 0, .int (-1), .int (-1), .ref (r 6), .ref (r 7), .ref (r 8), .ref (r 9), .ref (r 10), .ref (r 11), .ref (r 12), .ref (r 13), .int 0, .int 0, .int 0, .int 0, .int 0, .int 0, .int 0, .int 0, .int 0, .ref (r 23), .ref (r 24), .int 0, .ref (r 26), .ref (r 27), .int 0, .int 0, .int 0, .ref (r 31), .ref (r 32), .ref (r 33), .ref (r 34), .ref (r 35), .int 0, .ref (r 37), .ref (r 38), .ref (r 39), .ref (r 40), .ref (r 41), .ref (r 42), .ref (r 43), .ref (r 44), .ref (r 45), .ref (r 46), .int 0, .ref (r 48), .ref (r 49), .ref (r 50), .ref (r 51), .long 0])), ((r 0), .inl (cI, 1990, .inl (upd (upd (fun _ => 0) 4 (-1)) 122 9)))] (fun r (_ : Unit) => r = (v_X9_seed p1)) (fun (_ : Unit) => ([] : va_W)) := by
  intro sz
  refine gM_start (Qf := fun A => va_Qi (fun r (_ : Unit) => r = (v_X9_seed p1)) (gB G (fun (_ : Unit) => ([] : va_W)) A) A) (cc := cX9_seed) (maxL := 2) (ret := (some .boolean)) (by decide) rfl (Nat.le_of_ble_eq_true rfl) ?_
  intro p e s m args below meth c A ls H hx hb hr hts hown hin hlocks hml hP hK hD hA hS hl
  have hl : lv_has ls 2 [(0, .ref m0), (1, .int p1)] := hl
  have iX9 : ∀ w ∈ u_ws RX9 TX9 53, w ∈ wsX9_seed := by decide +kernel
  refine lv_iload_n hx hb dX9_seed_0 rfl (lv_at hl 1 rfl) ?_
  refine lv_iconst (v := 0) hx hb dX9_seed_1 (by decide) ?_
  refine lv_sipush (v := 9999) hx hb dX9_seed_2 (by decide) ?_
  refine gw_calli (gw_runS (As := [.int p1, .int 0, .int 9999]) (rest := []) ⟨hx, hb, hml, hown, hts⟩ (c_X9_in l G cI cJ cZ cB cT p1 0 9999  H.size) gX9_seed_X9_in rfl e_X9_in ⟨Nat.le_of_ble_eq_true rfl, Nat.le_of_ble_eq_true rfl⟩ hK hP hD [] rfl (by decide) rfl rfl hl.1 rfl (Nat.le_of_ble_eq_true rfl) dX9_seed_5 ⟨Nat.le_of_ble_eq_true rfl, Nat.le_of_ble_eq_true rfl⟩) hP hD hS hA [] [0, 1] rfl rfl (by decide) (by decide) (fun r_1 u_1 H locs hw_1 hP hD hS => ?_)
  subst hw_1
  have hP : va_P G vwCl [(m0, .inr (9, [.ref (r 0), .ref (r 1), .ref (r 2), .int 0, .int (-1), .int (-1), .ref (r 6), .ref (r 7), .ref (r 8), .ref (r 9), .ref (r 10), .ref (r 11), .ref (r 12), .ref (r 13), .int 0, .int 0, .int 0, .int 0, .int 0, .int 0, .int 0, .int 0, .int 0, .ref (r 23), .ref (r 24), .int 0, .ref (r 26), .ref (r 27), .int 0, .int 0, .int 0, .ref (r 31), .ref (r 32), .ref (r 33), .ref (r 34), .ref (r 35), .int 0, .ref (r 37), .ref (r 38), .ref (r 39), .ref (r 40), .ref (r 41), .ref (r 42), .ref (r 43), .ref (r 44), .ref (r 45), .ref (r 46), .int 0, .ref (r 48), .ref (r 49), .ref (r 50), .ref (r 51), .long 0])), ((r 0), .inl (cI, 1990, .inl (upd (upd (fun _ => 0) 4 (-1)) 122 9)))] H := hP
  have hD : va_D A [(m0, .inr (9, [.ref (r 0), .ref (r 1), .ref (r 2), .int 0, .int (-1), .int (-1), .ref (r 6), .ref (r 7), .ref (r 8), .ref (r 9), .ref (r 10), .ref (r 11), .ref (r 12), .ref (r 13), .int 0, .int 0, .int 0, .int 0, .int 0, .int 0, .int 0, .int 0, .int 0, .ref (r 23), .ref (r 24), .int 0, .ref (r 26), .ref (r 27), .int 0, .int 0, .int 0, .ref (r 31), .ref (r 32), .ref (r 33), .ref (r 34), .ref (r 35), .int 0, .ref (r 37), .ref (r 38), .ref (r 39), .ref (r 40), .ref (r 41), .ref (r 42), .ref (r 43), .ref (r 44), .ref (r 45), .ref (r 46), .int 0, .ref (r 48), .ref (r 49), .ref (r 50), .ref (r 51), .long 0])), ((r 0), .inl (cI, 1990, .inl (upd (upd (fun _ => 0) 4 (-1)) 122 9)))] := hD
  refine lv_if_ne (tgt := 13) hx hb dX9_seed_8 (by decide) (fun c_2 => ?_) (fun c_2 => ?_)
  · refine lv_aload_n hx hb dX9_seed_13 rfl (lv_at hl 0 rfl) ?_
    refine va_get (D := G) (ci := 9) (v := .ref (r 0)) (C := RX9) (T := TX9) (N := 53) hx hb hts iX9 hown hK hP 0 rfl rfl 0 (by decide) (hts (.fieldLink RX9 7 "GooseLettersModel" "a" "[I") (by decide +kernel)) (fun _ h9 => h9) rfl dX9_seed_14 ?_
    refine lv_bipush (v := 122) hx hb dX9_seed_17 (by decide) ?_
    refine lv_iload_n hx hb dX9_seed_19 rfl (lv_at hl 1 rfl) ?_
    refine lv_bipush (v := 11) hx hb dX9_seed_20 (by decide) ?_
    refine lv_imul hx hb dX9_seed_22 ?_
    refine lv_bipush (v := 9) hx hb dX9_seed_23 (by decide) ?_
    refine lv_iadd hx hb dX9_seed_25 ?_
    refine gw_iast hx hb hK hP hD hS 1 0 122 rfl rfl rfl (by decide) (by decide) dX9_seed_26 (fun H locs hP hD hS => ?_)
    have hP : va_P G vwCl [(m0, .inr (9, [.ref (r 0), .ref (r 1), .ref (r 2), .int 0, .int (-1), .int (-1), .ref (r 6), .ref (r 7), .ref (r 8), .ref (r 9), .ref (r 10), .ref (r 11), .ref (r 12), .ref (r 13), .int 0, .int 0, .int 0, .int 0, .int 0, .int 0, .int 0, .int 0, .int 0, .ref (r 23), .ref (r 24), .int 0, .ref (r 26), .ref (r 27), .int 0, .int 0, .int 0, .ref (r 31), .ref (r 32), .ref (r 33), .ref (r 34), .ref (r 35), .int 0, .ref (r 37), .ref (r 38), .ref (r 39), .ref (r 40), .ref (r 41), .ref (r 42), .ref (r 43), .ref (r 44), .ref (r 45), .ref (r 46), .int 0, .ref (r 48), .ref (r 49), .ref (r 50), .ref (r 51), .long 0])), ((r 0), .inl (cI, 1990, .inl (upd (upd (upd (fun _ => 0) 4 (-1)) 122 9) 122 ((p1 * 11) + 9))))] H := hP
    have hD : va_D A [(m0, .inr (9, [.ref (r 0), .ref (r 1), .ref (r 2), .int 0, .int (-1), .int (-1), .ref (r 6), .ref (r 7), .ref (r 8), .ref (r 9), .ref (r 10), .ref (r 11), .ref (r 12), .ref (r 13), .int 0, .int 0, .int 0, .int 0, .int 0, .int 0, .int 0, .int 0, .int 0, .ref (r 23), .ref (r 24), .int 0, .ref (r 26), .ref (r 27), .int 0, .int 0, .int 0, .ref (r 31), .ref (r 32), .ref (r 33), .ref (r 34), .ref (r 35), .int 0, .ref (r 37), .ref (r 38), .ref (r 39), .ref (r 40), .ref (r 41), .ref (r 42), .ref (r 43), .ref (r 44), .ref (r 45), .ref (r 46), .int 0, .ref (r 48), .ref (r 49), .ref (r 50), .ref (r 51), .long 0])), ((r 0), .inl (cI, 1990, .inl (upd (upd (upd (fun _ => 0) 4 (-1)) 122 9) 122 ((p1 * 11) + 9))))] := hD
    refine lv_iconst (v := 1) hx hb dX9_seed_27 (by decide) ?_
    exact gw_zret () hx hb hr hlocks rfl (hP.sub [] rfl) (hD.sub [] (by decide) rfl) hS (by rw [v_X9_seed, if_neg c_2]) dX9_seed_28
  · refine lv_iconst (v := 0) hx hb dX9_seed_11 (by decide) ?_
    exact gw_zret () hx hb hr hlocks rfl (hP.sub [] rfl) (hD.sub [] (by decide) rfl) hS (by rw [v_X9_seed, if_pos c_2]) dX9_seed_12
set_option maxHeartbeats 4000000 in
set_option maxRecDepth 100000 in
theorem c_X9_undo (l : Launch) (G : va_G) (cI cJ cZ cB cT : ClassId) (m0 : Nat) (r : Nat → Nat)  : gMi l yX9_undo wsX9_undo 1 G (gT cI cJ cZ cB cT) [.ref m0] [(m0, .inr (9, [.ref (r 0), .ref (r 1), .ref (r 2), .int 0, .int (-1), .int (-1), .ref (r 6), .ref (r 7), .ref (r 8), .ref (r 9), .ref (r 10), .ref (r 11), .ref (r 12), .ref (r 13), .int 0, .int 0, .int 0, .int 0, .int 0, .int 0, .int 0, .int 0, .int 0, .ref (r 23), .ref (r 24), .int 0, .ref (r 26), .ref (r 27), .int 0, .int 0, .int 0, .ref (r 31), .ref (r 32), .ref (r 33), .ref (r 34), .ref (r 35), .int 0, .ref (r 37), .ref (r 38), .ref (r 39), .ref (r 40), .ref (r 41), .ref (r 42), .ref (r 43), .ref (r 44), .ref (r 45), .ref (r 46), .int 0, .ref (r 48), .ref (r 49), .ref (r 50), .ref (r 51), .long 0])), ((r 0), .inl (cI, 1990, .inl (upd (upd (fun _ => 0) 4 (-1)) 122 9)))] (fun r (_ : Unit) => r = (-1)) (fun (_ : Unit) => ([] : va_W)) := by
  intro sz
  refine gM_start (Qf := fun A => va_Qi (fun r (_ : Unit) => r = (-1)) (gB G (fun (_ : Unit) => ([] : va_W)) A) A) (cc := cX9_undo) (maxL := 2) (ret := (some .int)) (by decide) rfl (Nat.le_of_ble_eq_true rfl) ?_
  intro p e s m args below meth c A ls H hx hb hr hts hown hin hlocks hml hP hK hD hA hS hl
  have hl : lv_has ls 2 [(0, .ref m0)] := hl
  have iX9 : ∀ w ∈ u_ws RX9 TX9 53, w ∈ wsX9_undo := by decide +kernel
  refine lv_aload_n hx hb dX9_undo_0 rfl (lv_at hl 0 rfl) ?_
  refine va_get (D := G) (ci := 9) (v := .ref (r 0)) (C := RX9) (T := TX9) (N := 53) hx hb hts iX9 hown hK hP 0 rfl rfl 0 (by decide) (hts (.fieldLink RX9 7 "GooseLettersModel" "a" "[I") (by decide +kernel)) (fun _ h9 => h9) rfl dX9_undo_1 ?_
  refine lv_iconst (v := 5) hx hb dX9_undo_4 (by decide) ?_
  refine gw_iald (x := 0) hx hb hK hP 1 0 5 rfl rfl rfl (by decide) (by decide) rfl dX9_undo_5 ?_
  refine lv_if_ne (tgt := 11) hx hb dX9_undo_6 (by decide) (fun c => absurd (by decide) c) (fun _ => ?_)
  refine lv_iconst (v := (-1)) hx hb dX9_undo_9 (by decide) ?_
  exact gw_iret () hx hb hr hlocks (hP.sub [] rfl) (hD.sub [] (by decide) rfl) hS rfl dX9_undo_10
theorem e_X9_isHome : yX9_isHome.cls = RX9 ∧ yX9_isHome.cls ≠ "java/lang/invoke/MethodHandle" ∧ yX9_isHome.cls ≠ "java/lang/invoke/VarHandle" ∧ (parseMethodDescriptor yX9_isHome.desc).map (fun d => d.parameters.length) = some 1 := by decide +kernel
set_option maxHeartbeats 4000000 in
set_option maxRecDepth 100000 in
theorem c_X9_fill (l : Launch) (G : va_G) (cI cJ cZ cB cT : ClassId) (m0 : Nat) (r : Nat → Nat) (p1 : Int32) (p2 : Int32) (p3 : Int32)  : gMi l yX9_fill wsX9_fill 4 G (gT cI cJ cZ cB cT) [.ref m0, .int p1, .int p2, .int p3] [(m0, .inr (9, [.ref (r 0), .ref (r 1), .ref (r 2), .int 0, .int (-1), .int (-1), .ref (r 6), .ref (r 7), .ref (r 8), .ref (r 9), .ref (r 10), .ref (r 11), .ref (r 12), .ref (r 13), .int 0, .int 0, .int 0, .int 0, .int 0, .int 0, .int 0, .int 0, .int 0, .ref (r 23), .ref (r 24), .int 0, .ref (r 26), .ref (r 27), .int 0, .int 0, .int 0, .ref (r 31), .ref (r 32), .ref (r 33), .ref (r 34), .ref (r 35), .int 0, .ref (r 37), .ref (r 38), .ref (r 39), .ref (r 40), .ref (r 41), .ref (r 42), .ref (r 43), .ref (r 44), .ref (r 45), .ref (r 46), .int 0, .ref (r 48), .ref (r 49), .ref (r 50), .ref (r 51), .long 0])), ((r 0), .inl (cI, 1990, .inl (upd (upd (fun _ => 0) 4 (-1)) 122 9)))] (fun r (_ : Unit) => r = (-1)) (fun (_ : Unit) => ([] : va_W)) := by
  intro sz
  refine gM_start (Qf := fun A => va_Qi (fun r (_ : Unit) => r = (-1)) (gB G (fun (_ : Unit) => ([] : va_W)) A) A) (cc := cX9_fill) (maxL := 5) (ret := (some .int)) (by decide) rfl (Nat.le_of_ble_eq_true rfl) ?_
  intro p e s m args below meth c A ls H hx hb hr hts hown hin hlocks hml hP hK hD hA hS hl
  have hl : lv_has ls 5 [(0, .ref m0), (1, .int p1), (2, .int p2), (3, .int p3)] := hl
  refine lv_aload_n hx hb dX9_fill_0 rfl (lv_at hl 0 rfl) ?_
  refine lv_iload_n hx hb dX9_fill_1 rfl (lv_at hl 1 rfl) ?_
  refine gw_calli (gw_runV (As := [.int p1]) (rest := []) ⟨hx, hb, hml, hown, hts⟩ (c_X9_isHome l G cI cJ cZ cB cT m0 r p1  H.size) gX9_fill_X9_isHome rfl e_X9_isHome ⟨Nat.le_of_ble_eq_true rfl, Nat.le_of_ble_eq_true rfl⟩ hK hP hD [0, 1] rfl (by decide) rfl 0 rfl rfl rfl hl.1 rfl (Nat.le_of_ble_eq_true rfl) dX9_fill_2 ⟨Nat.le_of_ble_eq_true rfl, Nat.le_of_ble_eq_true rfl⟩) hP hD hS hA [0, 1] [] rfl rfl (by decide) (by decide) (fun r_1 u_1 H locs hw_1 hP hD hS => ?_)
  subst hw_1
  have hP : va_P G vwCl [(m0, .inr (9, [.ref (r 0), .ref (r 1), .ref (r 2), .int 0, .int (-1), .int (-1), .ref (r 6), .ref (r 7), .ref (r 8), .ref (r 9), .ref (r 10), .ref (r 11), .ref (r 12), .ref (r 13), .int 0, .int 0, .int 0, .int 0, .int 0, .int 0, .int 0, .int 0, .int 0, .ref (r 23), .ref (r 24), .int 0, .ref (r 26), .ref (r 27), .int 0, .int 0, .int 0, .ref (r 31), .ref (r 32), .ref (r 33), .ref (r 34), .ref (r 35), .int 0, .ref (r 37), .ref (r 38), .ref (r 39), .ref (r 40), .ref (r 41), .ref (r 42), .ref (r 43), .ref (r 44), .ref (r 45), .ref (r 46), .int 0, .ref (r 48), .ref (r 49), .ref (r 50), .ref (r 51), .long 0])), ((r 0), .inl (cI, 1990, .inl (upd (upd (fun _ => 0) 4 (-1)) 122 9)))] H := hP
  have hD : va_D A [(m0, .inr (9, [.ref (r 0), .ref (r 1), .ref (r 2), .int 0, .int (-1), .int (-1), .ref (r 6), .ref (r 7), .ref (r 8), .ref (r 9), .ref (r 10), .ref (r 11), .ref (r 12), .ref (r 13), .int 0, .int 0, .int 0, .int 0, .int 0, .int 0, .int 0, .int 0, .int 0, .ref (r 23), .ref (r 24), .int 0, .ref (r 26), .ref (r 27), .int 0, .int 0, .int 0, .ref (r 31), .ref (r 32), .ref (r 33), .ref (r 34), .ref (r 35), .int 0, .ref (r 37), .ref (r 38), .ref (r 39), .ref (r 40), .ref (r 41), .ref (r 42), .ref (r 43), .ref (r 44), .ref (r 45), .ref (r 46), .int 0, .ref (r 48), .ref (r 49), .ref (r 50), .ref (r 51), .long 0])), ((r 0), .inl (cI, 1990, .inl (upd (upd (fun _ => 0) 4 (-1)) 122 9)))] := hD
  refine lv_if_eq (tgt := 43) hx hb dX9_fill_5 (by decide) (fun _ => ?_) (fun c => absurd (by decide) c)
  refine lv_iconst (v := (-1)) hx hb dX9_fill_43 (by decide) ?_
  exact gw_iret () hx hb hr hlocks (hP.sub [] rfl) (hD.sub [] (by decide) rfl) hS rfl dX9_fill_44
set_option maxHeartbeats 4000000 in
set_option maxRecDepth 100000 in
theorem c_X9_send (l : Launch) (G : va_G) (cI cJ cZ cB cT : ClassId) (m0 : Nat) (r : Nat → Nat) (p1 : Int32) (p2 : Int32)  : gMi l yX9_send wsX9_send 4 G (gT cI cJ cZ cB cT) [.ref m0, .int p1, .int p2] [(m0, .inr (9, [.ref (r 0), .ref (r 1), .ref (r 2), .int 0, .int (-1), .int (-1), .ref (r 6), .ref (r 7), .ref (r 8), .ref (r 9), .ref (r 10), .ref (r 11), .ref (r 12), .ref (r 13), .int 0, .int 0, .int 0, .int 0, .int 0, .int 0, .int 0, .int 0, .int 0, .ref (r 23), .ref (r 24), .int 0, .ref (r 26), .ref (r 27), .int 0, .int 0, .int 0, .ref (r 31), .ref (r 32), .ref (r 33), .ref (r 34), .ref (r 35), .int 0, .ref (r 37), .ref (r 38), .ref (r 39), .ref (r 40), .ref (r 41), .ref (r 42), .ref (r 43), .ref (r 44), .ref (r 45), .ref (r 46), .int 0, .ref (r 48), .ref (r 49), .ref (r 50), .ref (r 51), .long 0])), ((r 0), .inl (cI, 1990, .inl (upd (upd (fun _ => 0) 4 (-1)) 122 9)))] (fun r (_ : Unit) => r = (-1)) (fun (_ : Unit) => ([] : va_W)) := by
  intro sz
  refine gM_start (Qf := fun A => va_Qi (fun r (_ : Unit) => r = (-1)) (gB G (fun (_ : Unit) => ([] : va_W)) A) A) (cc := cX9_send) (maxL := 3) (ret := (some .int)) (by decide) rfl (Nat.le_of_ble_eq_true rfl) ?_
  intro p e s m args below meth c A ls H hx hb hr hts hown hin hlocks hml hP hK hD hA hS hl
  have hl : lv_has ls 3 [(0, .ref m0), (1, .int p1), (2, .int p2)] := hl
  refine lv_aload_n hx hb dX9_send_0 rfl (lv_at hl 0 rfl) ?_
  refine lv_iload_n hx hb dX9_send_1 rfl (lv_at hl 1 rfl) ?_
  refine gw_calli (gw_runV (As := [.int p1]) (rest := []) ⟨hx, hb, hml, hown, hts⟩ (c_X9_isHome l G cI cJ cZ cB cT m0 r p1  H.size) gX9_send_X9_isHome rfl e_X9_isHome ⟨Nat.le_of_ble_eq_true rfl, Nat.le_of_ble_eq_true rfl⟩ hK hP hD [0, 1] rfl (by decide) rfl 0 rfl rfl rfl hl.1 rfl (Nat.le_of_ble_eq_true rfl) dX9_send_2 ⟨Nat.le_of_ble_eq_true rfl, Nat.le_of_ble_eq_true rfl⟩) hP hD hS hA [0, 1] [] rfl rfl (by decide) (by decide) (fun r_1 u_1 H locs hw_1 hP hD hS => ?_)
  subst hw_1
  have hP : va_P G vwCl [(m0, .inr (9, [.ref (r 0), .ref (r 1), .ref (r 2), .int 0, .int (-1), .int (-1), .ref (r 6), .ref (r 7), .ref (r 8), .ref (r 9), .ref (r 10), .ref (r 11), .ref (r 12), .ref (r 13), .int 0, .int 0, .int 0, .int 0, .int 0, .int 0, .int 0, .int 0, .int 0, .ref (r 23), .ref (r 24), .int 0, .ref (r 26), .ref (r 27), .int 0, .int 0, .int 0, .ref (r 31), .ref (r 32), .ref (r 33), .ref (r 34), .ref (r 35), .int 0, .ref (r 37), .ref (r 38), .ref (r 39), .ref (r 40), .ref (r 41), .ref (r 42), .ref (r 43), .ref (r 44), .ref (r 45), .ref (r 46), .int 0, .ref (r 48), .ref (r 49), .ref (r 50), .ref (r 51), .long 0])), ((r 0), .inl (cI, 1990, .inl (upd (upd (fun _ => 0) 4 (-1)) 122 9)))] H := hP
  have hD : va_D A [(m0, .inr (9, [.ref (r 0), .ref (r 1), .ref (r 2), .int 0, .int (-1), .int (-1), .ref (r 6), .ref (r 7), .ref (r 8), .ref (r 9), .ref (r 10), .ref (r 11), .ref (r 12), .ref (r 13), .int 0, .int 0, .int 0, .int 0, .int 0, .int 0, .int 0, .int 0, .int 0, .ref (r 23), .ref (r 24), .int 0, .ref (r 26), .ref (r 27), .int 0, .int 0, .int 0, .ref (r 31), .ref (r 32), .ref (r 33), .ref (r 34), .ref (r 35), .int 0, .ref (r 37), .ref (r 38), .ref (r 39), .ref (r 40), .ref (r 41), .ref (r 42), .ref (r 43), .ref (r 44), .ref (r 45), .ref (r 46), .int 0, .ref (r 48), .ref (r 49), .ref (r 50), .ref (r 51), .long 0])), ((r 0), .inl (cI, 1990, .inl (upd (upd (fun _ => 0) 4 (-1)) 122 9)))] := hD
  refine lv_if_eq (tgt := 27) hx hb dX9_send_5 (by decide) (fun _ => ?_) (fun c => absurd (by decide) c)
  refine lv_iconst (v := (-1)) hx hb dX9_send_27 (by decide) ?_
  exact gw_iret () hx hb hr hlocks (hP.sub [] rfl) (hD.sub [] (by decide) rfl) hS rfl dX9_send_28
set_option maxHeartbeats 4000000 in
set_option maxRecDepth 100000 in
theorem c_X9_fatten (l : Launch) (G : va_G) (cI cJ cZ cB cT : ClassId) (m0 : Nat) (r : Nat → Nat) (p1 : Int32)  : gMi l yX9_fatten wsX9_fatten 4 G (gT cI cJ cZ cB cT) [.ref m0, .int p1] [(m0, .inr (9, [.ref (r 0), .ref (r 1), .ref (r 2), .int 0, .int (-1), .int (-1), .ref (r 6), .ref (r 7), .ref (r 8), .ref (r 9), .ref (r 10), .ref (r 11), .ref (r 12), .ref (r 13), .int 0, .int 0, .int 0, .int 0, .int 0, .int 0, .int 0, .int 0, .int 0, .ref (r 23), .ref (r 24), .int 0, .ref (r 26), .ref (r 27), .int 0, .int 0, .int 0, .ref (r 31), .ref (r 32), .ref (r 33), .ref (r 34), .ref (r 35), .int 0, .ref (r 37), .ref (r 38), .ref (r 39), .ref (r 40), .ref (r 41), .ref (r 42), .ref (r 43), .ref (r 44), .ref (r 45), .ref (r 46), .int 0, .ref (r 48), .ref (r 49), .ref (r 50), .ref (r 51), .long 0])), ((r 0), .inl (cI, 1990, .inl (upd (upd (fun _ => 0) 4 (-1)) 122 9)))] (fun r (_ : Unit) => r = (-1)) (fun (_ : Unit) => ([] : va_W)) := by
  intro sz
  refine gM_start (Qf := fun A => va_Qi (fun r (_ : Unit) => r = (-1)) (gB G (fun (_ : Unit) => ([] : va_W)) A) A) (cc := cX9_fatten) (maxL := 2) (ret := (some .int)) (by decide) rfl (Nat.le_of_ble_eq_true rfl) ?_
  intro p e s m args below meth c A ls H hx hb hr hts hown hin hlocks hml hP hK hD hA hS hl
  have hl : lv_has ls 2 [(0, .ref m0), (1, .int p1)] := hl
  refine lv_aload_n hx hb dX9_fatten_0 rfl (lv_at hl 0 rfl) ?_
  refine lv_iload_n hx hb dX9_fatten_1 rfl (lv_at hl 1 rfl) ?_
  refine gw_calli (gw_runV (As := [.int p1]) (rest := []) ⟨hx, hb, hml, hown, hts⟩ (c_X9_isHome l G cI cJ cZ cB cT m0 r p1  H.size) gX9_fatten_X9_isHome rfl e_X9_isHome ⟨Nat.le_of_ble_eq_true rfl, Nat.le_of_ble_eq_true rfl⟩ hK hP hD [0, 1] rfl (by decide) rfl 0 rfl rfl rfl hl.1 rfl (Nat.le_of_ble_eq_true rfl) dX9_fatten_2 ⟨Nat.le_of_ble_eq_true rfl, Nat.le_of_ble_eq_true rfl⟩) hP hD hS hA [0, 1] [] rfl rfl (by decide) (by decide) (fun r_1 u_1 H locs hw_1 hP hD hS => ?_)
  subst hw_1
  have hP : va_P G vwCl [(m0, .inr (9, [.ref (r 0), .ref (r 1), .ref (r 2), .int 0, .int (-1), .int (-1), .ref (r 6), .ref (r 7), .ref (r 8), .ref (r 9), .ref (r 10), .ref (r 11), .ref (r 12), .ref (r 13), .int 0, .int 0, .int 0, .int 0, .int 0, .int 0, .int 0, .int 0, .int 0, .ref (r 23), .ref (r 24), .int 0, .ref (r 26), .ref (r 27), .int 0, .int 0, .int 0, .ref (r 31), .ref (r 32), .ref (r 33), .ref (r 34), .ref (r 35), .int 0, .ref (r 37), .ref (r 38), .ref (r 39), .ref (r 40), .ref (r 41), .ref (r 42), .ref (r 43), .ref (r 44), .ref (r 45), .ref (r 46), .int 0, .ref (r 48), .ref (r 49), .ref (r 50), .ref (r 51), .long 0])), ((r 0), .inl (cI, 1990, .inl (upd (upd (fun _ => 0) 4 (-1)) 122 9)))] H := hP
  have hD : va_D A [(m0, .inr (9, [.ref (r 0), .ref (r 1), .ref (r 2), .int 0, .int (-1), .int (-1), .ref (r 6), .ref (r 7), .ref (r 8), .ref (r 9), .ref (r 10), .ref (r 11), .ref (r 12), .ref (r 13), .int 0, .int 0, .int 0, .int 0, .int 0, .int 0, .int 0, .int 0, .int 0, .ref (r 23), .ref (r 24), .int 0, .ref (r 26), .ref (r 27), .int 0, .int 0, .int 0, .ref (r 31), .ref (r 32), .ref (r 33), .ref (r 34), .ref (r 35), .int 0, .ref (r 37), .ref (r 38), .ref (r 39), .ref (r 40), .ref (r 41), .ref (r 42), .ref (r 43), .ref (r 44), .ref (r 45), .ref (r 46), .int 0, .ref (r 48), .ref (r 49), .ref (r 50), .ref (r 51), .long 0])), ((r 0), .inl (cI, 1990, .inl (upd (upd (fun _ => 0) 4 (-1)) 122 9)))] := hD
  refine lv_if_eq (tgt := 29) hx hb dX9_fatten_5 (by decide) (fun _ => ?_) (fun c => absurd (by decide) c)
  refine lv_iconst (v := (-1)) hx hb dX9_fatten_29 (by decide) ?_
  exact gw_iret () hx hb hr hlocks (hP.sub [] rfl) (hD.sub [] (by decide) rfl) hS rfl dX9_fatten_30
set_option maxHeartbeats 4000000 in
set_option maxRecDepth 100000 in
theorem c_X9_pluck (l : Launch) (G : va_G) (cI cJ cZ cB cT : ClassId) (m0 : Nat) (r : Nat → Nat) (p1 : Int32)  : gMi l yX9_pluck wsX9_pluck 4 G (gT cI cJ cZ cB cT) [.ref m0, .int p1] [(m0, .inr (9, [.ref (r 0), .ref (r 1), .ref (r 2), .int 0, .int (-1), .int (-1), .ref (r 6), .ref (r 7), .ref (r 8), .ref (r 9), .ref (r 10), .ref (r 11), .ref (r 12), .ref (r 13), .int 0, .int 0, .int 0, .int 0, .int 0, .int 0, .int 0, .int 0, .int 0, .ref (r 23), .ref (r 24), .int 0, .ref (r 26), .ref (r 27), .int 0, .int 0, .int 0, .ref (r 31), .ref (r 32), .ref (r 33), .ref (r 34), .ref (r 35), .int 0, .ref (r 37), .ref (r 38), .ref (r 39), .ref (r 40), .ref (r 41), .ref (r 42), .ref (r 43), .ref (r 44), .ref (r 45), .ref (r 46), .int 0, .ref (r 48), .ref (r 49), .ref (r 50), .ref (r 51), .long 0])), ((r 0), .inl (cI, 1990, .inl (upd (upd (fun _ => 0) 4 (-1)) 122 9)))] (fun r (_ : Unit) => r = (-1)) (fun (_ : Unit) => ([] : va_W)) := by
  intro sz
  refine gM_start (Qf := fun A => va_Qi (fun r (_ : Unit) => r = (-1)) (gB G (fun (_ : Unit) => ([] : va_W)) A) A) (cc := cX9_pluck) (maxL := 2) (ret := (some .int)) (by decide) rfl (Nat.le_of_ble_eq_true rfl) ?_
  intro p e s m args below meth c A ls H hx hb hr hts hown hin hlocks hml hP hK hD hA hS hl
  have hl : lv_has ls 2 [(0, .ref m0), (1, .int p1)] := hl
  refine lv_aload_n hx hb dX9_pluck_0 rfl (lv_at hl 0 rfl) ?_
  refine lv_iload_n hx hb dX9_pluck_1 rfl (lv_at hl 1 rfl) ?_
  refine gw_calli (gw_runV (As := [.int p1]) (rest := []) ⟨hx, hb, hml, hown, hts⟩ (c_X9_isHome l G cI cJ cZ cB cT m0 r p1  H.size) gX9_pluck_X9_isHome rfl e_X9_isHome ⟨Nat.le_of_ble_eq_true rfl, Nat.le_of_ble_eq_true rfl⟩ hK hP hD [0, 1] rfl (by decide) rfl 0 rfl rfl rfl hl.1 rfl (Nat.le_of_ble_eq_true rfl) dX9_pluck_2 ⟨Nat.le_of_ble_eq_true rfl, Nat.le_of_ble_eq_true rfl⟩) hP hD hS hA [0, 1] [] rfl rfl (by decide) (by decide) (fun r_1 u_1 H locs hw_1 hP hD hS => ?_)
  subst hw_1
  have hP : va_P G vwCl [(m0, .inr (9, [.ref (r 0), .ref (r 1), .ref (r 2), .int 0, .int (-1), .int (-1), .ref (r 6), .ref (r 7), .ref (r 8), .ref (r 9), .ref (r 10), .ref (r 11), .ref (r 12), .ref (r 13), .int 0, .int 0, .int 0, .int 0, .int 0, .int 0, .int 0, .int 0, .int 0, .ref (r 23), .ref (r 24), .int 0, .ref (r 26), .ref (r 27), .int 0, .int 0, .int 0, .ref (r 31), .ref (r 32), .ref (r 33), .ref (r 34), .ref (r 35), .int 0, .ref (r 37), .ref (r 38), .ref (r 39), .ref (r 40), .ref (r 41), .ref (r 42), .ref (r 43), .ref (r 44), .ref (r 45), .ref (r 46), .int 0, .ref (r 48), .ref (r 49), .ref (r 50), .ref (r 51), .long 0])), ((r 0), .inl (cI, 1990, .inl (upd (upd (fun _ => 0) 4 (-1)) 122 9)))] H := hP
  have hD : va_D A [(m0, .inr (9, [.ref (r 0), .ref (r 1), .ref (r 2), .int 0, .int (-1), .int (-1), .ref (r 6), .ref (r 7), .ref (r 8), .ref (r 9), .ref (r 10), .ref (r 11), .ref (r 12), .ref (r 13), .int 0, .int 0, .int 0, .int 0, .int 0, .int 0, .int 0, .int 0, .int 0, .ref (r 23), .ref (r 24), .int 0, .ref (r 26), .ref (r 27), .int 0, .int 0, .int 0, .ref (r 31), .ref (r 32), .ref (r 33), .ref (r 34), .ref (r 35), .int 0, .ref (r 37), .ref (r 38), .ref (r 39), .ref (r 40), .ref (r 41), .ref (r 42), .ref (r 43), .ref (r 44), .ref (r 45), .ref (r 46), .int 0, .ref (r 48), .ref (r 49), .ref (r 50), .ref (r 51), .long 0])), ((r 0), .inl (cI, 1990, .inl (upd (upd (fun _ => 0) 4 (-1)) 122 9)))] := hD
  refine lv_if_eq (tgt := 17) hx hb dX9_pluck_5 (by decide) (fun _ => ?_) (fun c => absurd (by decide) c)
  refine lv_iconst (v := (-1)) hx hb dX9_pluck_17 (by decide) ?_
  exact gw_iret () hx hb hr hlocks (hP.sub [] rfl) (hD.sub [] (by decide) rfl) hS rfl dX9_pluck_18
set_option maxHeartbeats 4000000 in
set_option maxRecDepth 100000 in
theorem c_X9_name (l : Launch) (G : va_G) (cI cJ cZ cB cT : ClassId) (m0 : Nat) (r : Nat → Nat) (p1 : Int32)  : gMi l yX9_name wsX9_name 4 G (gT cI cJ cZ cB cT) [.ref m0, .int p1] [(m0, .inr (9, [.ref (r 0), .ref (r 1), .ref (r 2), .int 0, .int (-1), .int (-1), .ref (r 6), .ref (r 7), .ref (r 8), .ref (r 9), .ref (r 10), .ref (r 11), .ref (r 12), .ref (r 13), .int 0, .int 0, .int 0, .int 0, .int 0, .int 0, .int 0, .int 0, .int 0, .ref (r 23), .ref (r 24), .int 0, .ref (r 26), .ref (r 27), .int 0, .int 0, .int 0, .ref (r 31), .ref (r 32), .ref (r 33), .ref (r 34), .ref (r 35), .int 0, .ref (r 37), .ref (r 38), .ref (r 39), .ref (r 40), .ref (r 41), .ref (r 42), .ref (r 43), .ref (r 44), .ref (r 45), .ref (r 46), .int 0, .ref (r 48), .ref (r 49), .ref (r 50), .ref (r 51), .long 0])), ((r 0), .inl (cI, 1990, .inl (upd (upd (fun _ => 0) 4 (-1)) 122 9)))] (fun r (_ : Unit) => r = 0) (fun (_ : Unit) => ([] : va_W)) := by
  intro sz
  refine gM_start (Qf := fun A => va_Qi (fun r (_ : Unit) => r = 0) (gB G (fun (_ : Unit) => ([] : va_W)) A) A) (cc := cX9_name) (maxL := 2) (ret := (some .boolean)) (by decide) rfl (Nat.le_of_ble_eq_true rfl) ?_
  intro p e s m args below meth c A ls H hx hb hr hts hown hin hlocks hml hP hK hD hA hS hl
  have hl : lv_has ls 2 [(0, .ref m0), (1, .int p1)] := hl
  refine lv_aload_n hx hb dX9_name_0 rfl (lv_at hl 0 rfl) ?_
  refine lv_iload_n hx hb dX9_name_1 rfl (lv_at hl 1 rfl) ?_
  refine gw_calli (gw_runV (As := [.int p1]) (rest := []) ⟨hx, hb, hml, hown, hts⟩ (c_X9_isHome l G cI cJ cZ cB cT m0 r p1  H.size) gX9_name_X9_isHome rfl e_X9_isHome ⟨Nat.le_of_ble_eq_true rfl, Nat.le_of_ble_eq_true rfl⟩ hK hP hD [0, 1] rfl (by decide) rfl 0 rfl rfl rfl hl.1 rfl (Nat.le_of_ble_eq_true rfl) dX9_name_2 ⟨Nat.le_of_ble_eq_true rfl, Nat.le_of_ble_eq_true rfl⟩) hP hD hS hA [0, 1] [] rfl rfl (by decide) (by decide) (fun r_1 u_1 H locs hw_1 hP hD hS => ?_)
  subst hw_1
  have hP : va_P G vwCl [(m0, .inr (9, [.ref (r 0), .ref (r 1), .ref (r 2), .int 0, .int (-1), .int (-1), .ref (r 6), .ref (r 7), .ref (r 8), .ref (r 9), .ref (r 10), .ref (r 11), .ref (r 12), .ref (r 13), .int 0, .int 0, .int 0, .int 0, .int 0, .int 0, .int 0, .int 0, .int 0, .ref (r 23), .ref (r 24), .int 0, .ref (r 26), .ref (r 27), .int 0, .int 0, .int 0, .ref (r 31), .ref (r 32), .ref (r 33), .ref (r 34), .ref (r 35), .int 0, .ref (r 37), .ref (r 38), .ref (r 39), .ref (r 40), .ref (r 41), .ref (r 42), .ref (r 43), .ref (r 44), .ref (r 45), .ref (r 46), .int 0, .ref (r 48), .ref (r 49), .ref (r 50), .ref (r 51), .long 0])), ((r 0), .inl (cI, 1990, .inl (upd (upd (fun _ => 0) 4 (-1)) 122 9)))] H := hP
  have hD : va_D A [(m0, .inr (9, [.ref (r 0), .ref (r 1), .ref (r 2), .int 0, .int (-1), .int (-1), .ref (r 6), .ref (r 7), .ref (r 8), .ref (r 9), .ref (r 10), .ref (r 11), .ref (r 12), .ref (r 13), .int 0, .int 0, .int 0, .int 0, .int 0, .int 0, .int 0, .int 0, .int 0, .ref (r 23), .ref (r 24), .int 0, .ref (r 26), .ref (r 27), .int 0, .int 0, .int 0, .ref (r 31), .ref (r 32), .ref (r 33), .ref (r 34), .ref (r 35), .int 0, .ref (r 37), .ref (r 38), .ref (r 39), .ref (r 40), .ref (r 41), .ref (r 42), .ref (r 43), .ref (r 44), .ref (r 45), .ref (r 46), .int 0, .ref (r 48), .ref (r 49), .ref (r 50), .ref (r 51), .long 0])), ((r 0), .inl (cI, 1990, .inl (upd (upd (fun _ => 0) 4 (-1)) 122 9)))] := hD
  refine lv_if_eq (tgt := 19) hx hb dX9_name_5 (by decide) (fun _ => ?_) (fun c => absurd (by decide) c)
  refine lv_iconst (v := 0) hx hb dX9_name_19 (by decide) ?_
  exact gw_zret () hx hb hr hlocks rfl (hP.sub [] rfl) (hD.sub [] (by decide) rfl) hS rfl dX9_name_20
def v_X9_end (p1 : Int32) : Int32 := (if (v_X9_in p1 0 0) = 0 then (-1) else p1)
set_option maxHeartbeats 4000000 in
set_option maxRecDepth 100000 in
theorem c_X9_end (l : Launch) (G : va_G) (cI cJ cZ cB cT : ClassId) (m0 : Nat) (r : Nat → Nat) (p1 : Int32)  : gMi l yX9_end wsX9_end 2 G (gT cI cJ cZ cB cT) [.ref m0, .int p1] [(m0, .inr (9, [.ref (r 0), .ref (r 1), .ref (r 2), .int 0, .int (-1), .int (-1), .ref (r 6), .ref (r 7), .ref (r 8), .ref (r 9), .ref (r 10), .ref (r 11), .ref (r 12), .ref (r 13), .int 0, .int 0, .int 0, .int 0, .int 0, .int 0, .int 0, .int 0, .int 0, .ref (r 23), .ref (r 24), .int 0, .ref (r 26), .ref (r 27), .int 0, .int 0, .int 0, .ref (r 31), .ref (r 32), .ref (r 33), .ref (r 34), .ref (r 35), .int 0, .ref (r 37), .ref (r 38), .ref (r 39), .ref (r 40), .ref (r 41), .ref (r 42), .ref (r 43), .ref (r 44), .ref (r 45), .ref (r 46), .int 0, .ref (r 48), .ref (r 49), .ref (r 50), .ref (r 51), .long 0])), ((r 0), .inl (cI, 1990, .inl (upd (upd (fun _ => 0) 4 (-1)) 122 9)))] (fun r (_ : Unit) => r = (v_X9_end p1)) (fun (_ : Unit) => ([] : va_W)) := by
  intro sz
  refine gM_start (Qf := fun A => va_Qi (fun r (_ : Unit) => r = (v_X9_end p1)) (gB G (fun (_ : Unit) => ([] : va_W)) A) A) (cc := cX9_end) (maxL := 2) (ret := (some .int)) (by decide) rfl (Nat.le_of_ble_eq_true rfl) ?_
  intro p e s m args below meth c A ls H hx hb hr hts hown hin hlocks hml hP hK hD hA hS hl
  have hl : lv_has ls 2 [(0, .ref m0), (1, .int p1)] := hl
  have iX9 : ∀ w ∈ u_ws RX9 TX9 53, w ∈ wsX9_end := by decide +kernel
  refine lv_iload_n hx hb dX9_end_0 rfl (lv_at hl 1 rfl) ?_
  refine lv_iconst (v := 0) hx hb dX9_end_1 (by decide) ?_
  refine lv_aload_n hx hb dX9_end_2 rfl (lv_at hl 0 rfl) ?_
  refine va_get (D := G) (ci := 9) (v := .int 0) (C := RX9) (T := TX9) (N := 53) hx hb hts iX9 hown hK hP 0 rfl rfl 3 (by decide) (hts (.fieldLink RX9 163 "GooseLettersModel" "taped" "I") (by decide +kernel)) (fun _ h9 => h9) rfl dX9_end_3 ?_
  refine gw_calli (gw_runS (As := [.int p1, .int 0, .int 0]) (rest := []) ⟨hx, hb, hml, hown, hts⟩ (c_X9_in l G cI cJ cZ cB cT p1 0 0  H.size) gX9_end_X9_in rfl e_X9_in ⟨Nat.le_of_ble_eq_true rfl, Nat.le_of_ble_eq_true rfl⟩ hK hP hD [] rfl (by decide) rfl rfl hl.1 rfl (Nat.le_of_ble_eq_true rfl) dX9_end_6 ⟨Nat.le_of_ble_eq_true rfl, Nat.le_of_ble_eq_true rfl⟩) hP hD hS hA [] [0, 1] rfl rfl (by decide) (by decide) (fun r_1 u_1 H locs hw_1 hP hD hS => ?_)
  subst hw_1
  have hP : va_P G vwCl [(m0, .inr (9, [.ref (r 0), .ref (r 1), .ref (r 2), .int 0, .int (-1), .int (-1), .ref (r 6), .ref (r 7), .ref (r 8), .ref (r 9), .ref (r 10), .ref (r 11), .ref (r 12), .ref (r 13), .int 0, .int 0, .int 0, .int 0, .int 0, .int 0, .int 0, .int 0, .int 0, .ref (r 23), .ref (r 24), .int 0, .ref (r 26), .ref (r 27), .int 0, .int 0, .int 0, .ref (r 31), .ref (r 32), .ref (r 33), .ref (r 34), .ref (r 35), .int 0, .ref (r 37), .ref (r 38), .ref (r 39), .ref (r 40), .ref (r 41), .ref (r 42), .ref (r 43), .ref (r 44), .ref (r 45), .ref (r 46), .int 0, .ref (r 48), .ref (r 49), .ref (r 50), .ref (r 51), .long 0])), ((r 0), .inl (cI, 1990, .inl (upd (upd (fun _ => 0) 4 (-1)) 122 9)))] H := hP
  have hD : va_D A [(m0, .inr (9, [.ref (r 0), .ref (r 1), .ref (r 2), .int 0, .int (-1), .int (-1), .ref (r 6), .ref (r 7), .ref (r 8), .ref (r 9), .ref (r 10), .ref (r 11), .ref (r 12), .ref (r 13), .int 0, .int 0, .int 0, .int 0, .int 0, .int 0, .int 0, .int 0, .int 0, .ref (r 23), .ref (r 24), .int 0, .ref (r 26), .ref (r 27), .int 0, .int 0, .int 0, .ref (r 31), .ref (r 32), .ref (r 33), .ref (r 34), .ref (r 35), .int 0, .ref (r 37), .ref (r 38), .ref (r 39), .ref (r 40), .ref (r 41), .ref (r 42), .ref (r 43), .ref (r 44), .ref (r 45), .ref (r 46), .int 0, .ref (r 48), .ref (r 49), .ref (r 50), .ref (r 51), .long 0])), ((r 0), .inl (cI, 1990, .inl (upd (upd (fun _ => 0) 4 (-1)) 122 9)))] := hD
  refine lv_if_ne (tgt := 14) hx hb dX9_end_9 (by decide) (fun c_2 => ?_) (fun c_2 => ?_)
  · refine lv_aload_n hx hb dX9_end_14 rfl (lv_at hl 0 rfl) ?_
    refine lv_iload_n hx hb dX9_end_15 rfl (lv_at hl 1 rfl) ?_
    refine va_put (D := G) (ci := 9) (v := .int p1) (ty := .int) (C := RX9) (T := TX9) (N := 53) hx hb hts iX9 tyX9 tyX9_ok nmX9 hown hK hP hD hS 0 rfl rfl 3 (by decide) (hts (.fieldLink RX9 163 "GooseLettersModel" "taped" "I") (by decide +kernel)) (fun _ h9 => h9) rfl (tyX9_ok 3 (by decide)) rfl rfl (Nat.le_of_ble_eq_true rfl) dX9_end_16 (fun H locs hP hD hS => ?_)
    have hP : va_P G vwCl [(m0, .inr (9, [.ref (r 0), .ref (r 1), .ref (r 2), .int p1, .int (-1), .int (-1), .ref (r 6), .ref (r 7), .ref (r 8), .ref (r 9), .ref (r 10), .ref (r 11), .ref (r 12), .ref (r 13), .int 0, .int 0, .int 0, .int 0, .int 0, .int 0, .int 0, .int 0, .int 0, .ref (r 23), .ref (r 24), .int 0, .ref (r 26), .ref (r 27), .int 0, .int 0, .int 0, .ref (r 31), .ref (r 32), .ref (r 33), .ref (r 34), .ref (r 35), .int 0, .ref (r 37), .ref (r 38), .ref (r 39), .ref (r 40), .ref (r 41), .ref (r 42), .ref (r 43), .ref (r 44), .ref (r 45), .ref (r 46), .int 0, .ref (r 48), .ref (r 49), .ref (r 50), .ref (r 51), .long 0])), ((r 0), .inl (cI, 1990, .inl (upd (upd (fun _ => 0) 4 (-1)) 122 9)))] H := hP
    have hD : va_D A [(m0, .inr (9, [.ref (r 0), .ref (r 1), .ref (r 2), .int p1, .int (-1), .int (-1), .ref (r 6), .ref (r 7), .ref (r 8), .ref (r 9), .ref (r 10), .ref (r 11), .ref (r 12), .ref (r 13), .int 0, .int 0, .int 0, .int 0, .int 0, .int 0, .int 0, .int 0, .int 0, .ref (r 23), .ref (r 24), .int 0, .ref (r 26), .ref (r 27), .int 0, .int 0, .int 0, .ref (r 31), .ref (r 32), .ref (r 33), .ref (r 34), .ref (r 35), .int 0, .ref (r 37), .ref (r 38), .ref (r 39), .ref (r 40), .ref (r 41), .ref (r 42), .ref (r 43), .ref (r 44), .ref (r 45), .ref (r 46), .int 0, .ref (r 48), .ref (r 49), .ref (r 50), .ref (r 51), .long 0])), ((r 0), .inl (cI, 1990, .inl (upd (upd (fun _ => 0) 4 (-1)) 122 9)))] := hD
    refine lv_iload_n hx hb dX9_end_19 rfl (lv_at hl 1 rfl) ?_
    exact gw_iret () hx hb hr hlocks (hP.sub [] rfl) (hD.sub [] (by decide) rfl) hS (by rw [v_X9_end, if_neg c_2]) dX9_end_20
  · refine lv_iconst (v := (-1)) hx hb dX9_end_12 (by decide) ?_
    exact gw_iret () hx hb hr hlocks (hP.sub [] rfl) (hD.sub [] (by decide) rfl) hS (by rw [v_X9_end, if_pos c_2]) dX9_end_13
set_option maxHeartbeats 4000000 in
set_option maxRecDepth 100000 in
theorem c_X9_fault (l : Launch) (G : va_G) (cI cJ cZ cB cT : ClassId) (m0 : Nat) (r : Nat → Nat) (p1 : Int32)  : gMi l yX9_fault wsX9_fault 1 G (gT cI cJ cZ cB cT) [.ref m0, .int p1] [(m0, .inr (9, [.ref (r 0), .ref (r 1), .ref (r 2), .int 0, .int (-1), .int (-1), .ref (r 6), .ref (r 7), .ref (r 8), .ref (r 9), .ref (r 10), .ref (r 11), .ref (r 12), .ref (r 13), .int 0, .int 0, .int 0, .int 0, .int 0, .int 0, .int 0, .int 0, .int 0, .ref (r 23), .ref (r 24), .int 0, .ref (r 26), .ref (r 27), .int 0, .int 0, .int 0, .ref (r 31), .ref (r 32), .ref (r 33), .ref (r 34), .ref (r 35), .int 0, .ref (r 37), .ref (r 38), .ref (r 39), .ref (r 40), .ref (r 41), .ref (r 42), .ref (r 43), .ref (r 44), .ref (r 45), .ref (r 46), .int 0, .ref (r 48), .ref (r 49), .ref (r 50), .ref (r 51), .long 0])), ((r 0), .inl (cI, 1990, .inl (upd (upd (fun _ => 0) 4 (-1)) 122 9)))] (fun r (_ : Unit) => r = (-1)) (fun (_ : Unit) => ([] : va_W)) := by
  intro sz
  refine gM_start (Qf := fun A => va_Qi (fun r (_ : Unit) => r = (-1)) (gB G (fun (_ : Unit) => ([] : va_W)) A) A) (cc := cX9_fault) (maxL := 2) (ret := (some .int)) (by decide) rfl (Nat.le_of_ble_eq_true rfl) ?_
  intro p e s m args below meth c A ls H hx hb hr hts hown hin hlocks hml hP hK hD hA hS hl
  have hl : lv_has ls 2 [(0, .ref m0), (1, .int p1)] := hl
  have iX9 : ∀ w ∈ u_ws RX9 TX9 53, w ∈ wsX9_fault := by decide +kernel
  refine lv_iload_n hx hb dX9_fault_0 rfl (lv_at hl 1 rfl) ?_
  refine lv_if_ne (tgt := 11) hx hb dX9_fault_1 (by decide) (fun c_1 => ?_) (fun c_1 => ?_)
  · refine lv_iload_n hx hb dX9_fault_11 rfl (lv_at hl 1 rfl) ?_
    refine lv_iconst (v := 1) hx hb dX9_fault_12 (by decide) ?_
    refine lv_icmp_ne (tgt := 23) hx hb dX9_fault_13 (by decide) (fun c_2 => ?_) (fun c_2 => ?_)
    · refine lv_iconst (v := (-1)) hx hb dX9_fault_23 (by decide) ?_
      exact gw_iret () hx hb hr hlocks (hP.sub [] rfl) (hD.sub [] (by decide) rfl) hS rfl dX9_fault_24
    · refine lv_aload_n hx hb dX9_fault_16 rfl (lv_at hl 0 rfl) ?_
      refine va_get (D := G) (ci := 9) (v := .int (-1)) (C := RX9) (T := TX9) (N := 53) hx hb hts iX9 hown hK hP 0 rfl rfl 5 (by decide) (hts (.fieldLink RX9 24 "GooseLettersModel" "faultAt" "I") (by decide +kernel)) (fun _ h9 => h9) rfl dX9_fault_17 ?_
      refine lv_goto (tgt := 24) hx hb dX9_fault_20 (by decide) ?_
      exact gw_iret () hx hb hr hlocks (hP.sub [] rfl) (hD.sub [] (by decide) rfl) hS rfl dX9_fault_24
  · refine lv_aload_n hx hb dX9_fault_4 rfl (lv_at hl 0 rfl) ?_
    refine va_get (D := G) (ci := 9) (v := .int (-1)) (C := RX9) (T := TX9) (N := 53) hx hb hts iX9 hown hK hP 0 rfl rfl 4 (by decide) (hts (.fieldLink RX9 20 "GooseLettersModel" "fault" "I") (by decide +kernel)) (fun _ h9 => h9) rfl dX9_fault_5 ?_
    refine lv_goto (tgt := 24) hx hb dX9_fault_8 (by decide) ?_
    exact gw_iret () hx hb hr hlocks (hP.sub [] rfl) (hD.sub [] (by decide) rfl) hS rfl dX9_fault_24
def v_X9_by (p1 : Int32) : Int32 := (if p1 = (-1) then 1 else 0)
theorem vz_X9_by (p1 : Int32) : v_X9_by p1 = 0 ∨ v_X9_by p1 = 1 := by
  unfold v_X9_by
  (repeat' split) <;> first | exact Or.inl rfl | exact Or.inr rfl
set_option maxHeartbeats 4000000 in
set_option maxRecDepth 100000 in
theorem c_X9_by (l : Launch) (G : va_G) (cI cJ cZ cB cT : ClassId) (m0 : Nat) (r : Nat → Nat) (p1 : Int32)  : gMi l yX9_by wsX9_by 2 G (gT cI cJ cZ cB cT) [.ref m0, .int p1] [(m0, .inr (9, [.ref (r 0), .ref (r 1), .ref (r 2), .int 0, .int (-1), .int (-1), .ref (r 6), .ref (r 7), .ref (r 8), .ref (r 9), .ref (r 10), .ref (r 11), .ref (r 12), .ref (r 13), .int 0, .int 0, .int 0, .int 0, .int 0, .int 0, .int 0, .int 0, .int 0, .ref (r 23), .ref (r 24), .int 0, .ref (r 26), .ref (r 27), .int 0, .int 0, .int 0, .ref (r 31), .ref (r 32), .ref (r 33), .ref (r 34), .ref (r 35), .int 0, .ref (r 37), .ref (r 38), .ref (r 39), .ref (r 40), .ref (r 41), .ref (r 42), .ref (r 43), .ref (r 44), .ref (r 45), .ref (r 46), .int 0, .ref (r 48), .ref (r 49), .ref (r 50), .ref (r 51), .long 0])), ((r 0), .inl (cI, 1990, .inl (upd (upd (fun _ => 0) 4 (-1)) 122 9)))] (fun r (_ : Unit) => r = (v_X9_by p1)) (fun (_ : Unit) => ([] : va_W)) := by
  intro sz
  refine gM_start (Qf := fun A => va_Qi (fun r (_ : Unit) => r = (v_X9_by p1)) (gB G (fun (_ : Unit) => ([] : va_W)) A) A) (cc := cX9_by) (maxL := 2) (ret := (some .boolean)) (by decide) rfl (Nat.le_of_ble_eq_true rfl) ?_
  intro p e s m args below meth c A ls H hx hb hr hts hown hin hlocks hml hP hK hD hA hS hl
  have hl : lv_has ls 2 [(0, .ref m0), (1, .int p1)] := hl
  have iX9 : ∀ w ∈ u_ws RX9 TX9 53, w ∈ wsX9_by := by decide +kernel
  refine lv_iload_n hx hb dX9_by_0 rfl (lv_at hl 1 rfl) ?_
  refine lv_iconst (v := (-1)) hx hb dX9_by_1 (by decide) ?_
  refine lv_icmp_eq (tgt := 23) hx hb dX9_by_2 (by decide) (fun c_1 => ?_) (fun c_1 => ?_)
  · refine lv_aload_n hx hb dX9_by_23 rfl (lv_at hl 0 rfl) ?_
    refine va_get (D := G) (ci := 9) (v := .ref (r 0)) (C := RX9) (T := TX9) (N := 53) hx hb hts iX9 hown hK hP 0 rfl rfl 0 (by decide) (hts (.fieldLink RX9 7 "GooseLettersModel" "a" "[I") (by decide +kernel)) (fun _ h9 => h9) rfl dX9_by_24 ?_
    refine lv_iconst (v := 4) hx hb dX9_by_27 (by decide) ?_
    refine lv_iload_n hx hb dX9_by_28 rfl (lv_at hl 1 rfl) ?_
    refine gw_iast hx hb hK hP hD hS 1 0 4 rfl rfl rfl (by decide) (by decide) dX9_by_29 (fun H locs hP hD hS => ?_)
    have hP : va_P G vwCl [(m0, .inr (9, [.ref (r 0), .ref (r 1), .ref (r 2), .int 0, .int (-1), .int (-1), .ref (r 6), .ref (r 7), .ref (r 8), .ref (r 9), .ref (r 10), .ref (r 11), .ref (r 12), .ref (r 13), .int 0, .int 0, .int 0, .int 0, .int 0, .int 0, .int 0, .int 0, .int 0, .ref (r 23), .ref (r 24), .int 0, .ref (r 26), .ref (r 27), .int 0, .int 0, .int 0, .ref (r 31), .ref (r 32), .ref (r 33), .ref (r 34), .ref (r 35), .int 0, .ref (r 37), .ref (r 38), .ref (r 39), .ref (r 40), .ref (r 41), .ref (r 42), .ref (r 43), .ref (r 44), .ref (r 45), .ref (r 46), .int 0, .ref (r 48), .ref (r 49), .ref (r 50), .ref (r 51), .long 0])), ((r 0), .inl (cI, 1990, .inl (upd (upd (upd (fun _ => 0) 4 (-1)) 122 9) 4 p1)))] H := hP
    have hD : va_D A [(m0, .inr (9, [.ref (r 0), .ref (r 1), .ref (r 2), .int 0, .int (-1), .int (-1), .ref (r 6), .ref (r 7), .ref (r 8), .ref (r 9), .ref (r 10), .ref (r 11), .ref (r 12), .ref (r 13), .int 0, .int 0, .int 0, .int 0, .int 0, .int 0, .int 0, .int 0, .int 0, .ref (r 23), .ref (r 24), .int 0, .ref (r 26), .ref (r 27), .int 0, .int 0, .int 0, .ref (r 31), .ref (r 32), .ref (r 33), .ref (r 34), .ref (r 35), .int 0, .ref (r 37), .ref (r 38), .ref (r 39), .ref (r 40), .ref (r 41), .ref (r 42), .ref (r 43), .ref (r 44), .ref (r 45), .ref (r 46), .int 0, .ref (r 48), .ref (r 49), .ref (r 50), .ref (r 51), .long 0])), ((r 0), .inl (cI, 1990, .inl (upd (upd (upd (fun _ => 0) 4 (-1)) 122 9) 4 p1)))] := hD
    refine lv_iconst (v := 1) hx hb dX9_by_30 (by decide) ?_
    exact gw_zret () hx hb hr hlocks rfl (hP.sub [] rfl) (hD.sub [] (by decide) rfl) hS (by rw [v_X9_by, if_pos c_1]) dX9_by_31
  · refine lv_iload_n hx hb dX9_by_5 rfl (lv_at hl 1 rfl) ?_
    refine lv_iconst (v := 0) hx hb dX9_by_6 (by decide) ?_
    refine lv_aload_n hx hb dX9_by_7 rfl (lv_at hl 0 rfl) ?_
    refine va_get (D := G) (ci := 9) (v := .ref (r 0)) (C := RX9) (T := TX9) (N := 53) hx hb hts iX9 hown hK hP 0 rfl rfl 0 (by decide) (hts (.fieldLink RX9 7 "GooseLettersModel" "a" "[I") (by decide +kernel)) (fun _ h9 => h9) rfl dX9_by_8 ?_
    refine lv_iconst (v := 3) hx hb dX9_by_11 (by decide) ?_
    refine gw_iald (x := 0) hx hb hK hP 1 0 3 rfl rfl rfl (by decide) (by decide) rfl dX9_by_12 ?_
    refine lv_iconst (v := 1) hx hb dX9_by_13 (by decide) ?_
    refine lv_isub hx hb dX9_by_14 ?_
    refine gw_topi (y := (-1)) (by decide) ?_
    refine gw_calli (gw_runS (As := [.int p1, .int 0, .int (-1)]) (rest := []) ⟨hx, hb, hml, hown, hts⟩ (c_in_e l G cI cJ cZ cB cT p1  H.size) gX9_by_X9_in rfl e_X9_in ⟨Nat.le_of_ble_eq_true rfl, Nat.le_of_ble_eq_true rfl⟩ hK hP hD [] rfl (by decide) rfl rfl hl.1 rfl (Nat.le_of_ble_eq_true rfl) dX9_by_15 ⟨Nat.le_of_ble_eq_true rfl, Nat.le_of_ble_eq_true rfl⟩) hP hD hS hA [] [0, 1] rfl rfl (by decide) (by decide) (fun r_2 u_2 H locs hw_2 hP hD hS => ?_)
    subst hw_2
    have hP : va_P G vwCl [(m0, .inr (9, [.ref (r 0), .ref (r 1), .ref (r 2), .int 0, .int (-1), .int (-1), .ref (r 6), .ref (r 7), .ref (r 8), .ref (r 9), .ref (r 10), .ref (r 11), .ref (r 12), .ref (r 13), .int 0, .int 0, .int 0, .int 0, .int 0, .int 0, .int 0, .int 0, .int 0, .ref (r 23), .ref (r 24), .int 0, .ref (r 26), .ref (r 27), .int 0, .int 0, .int 0, .ref (r 31), .ref (r 32), .ref (r 33), .ref (r 34), .ref (r 35), .int 0, .ref (r 37), .ref (r 38), .ref (r 39), .ref (r 40), .ref (r 41), .ref (r 42), .ref (r 43), .ref (r 44), .ref (r 45), .ref (r 46), .int 0, .ref (r 48), .ref (r 49), .ref (r 50), .ref (r 51), .long 0])), ((r 0), .inl (cI, 1990, .inl (upd (upd (fun _ => 0) 4 (-1)) 122 9)))] H := hP
    have hD : va_D A [(m0, .inr (9, [.ref (r 0), .ref (r 1), .ref (r 2), .int 0, .int (-1), .int (-1), .ref (r 6), .ref (r 7), .ref (r 8), .ref (r 9), .ref (r 10), .ref (r 11), .ref (r 12), .ref (r 13), .int 0, .int 0, .int 0, .int 0, .int 0, .int 0, .int 0, .int 0, .int 0, .ref (r 23), .ref (r 24), .int 0, .ref (r 26), .ref (r 27), .int 0, .int 0, .int 0, .ref (r 31), .ref (r 32), .ref (r 33), .ref (r 34), .ref (r 35), .int 0, .ref (r 37), .ref (r 38), .ref (r 39), .ref (r 40), .ref (r 41), .ref (r 42), .ref (r 43), .ref (r 44), .ref (r 45), .ref (r 46), .int 0, .ref (r 48), .ref (r 49), .ref (r 50), .ref (r 51), .long 0])), ((r 0), .inl (cI, 1990, .inl (upd (upd (fun _ => 0) 4 (-1)) 122 9)))] := hD
    refine lv_if_ne (tgt := 23) hx hb dX9_by_18 (by decide) (fun c => absurd (by decide) c) (fun _ => ?_)
    refine lv_iconst (v := 0) hx hb dX9_by_21 (by decide) ?_
    exact gw_zret () hx hb hr hlocks rfl (hP.sub [] rfl) (hD.sub [] (by decide) rfl) hS (by rw [v_X9_by, if_neg c_1]) dX9_by_22
set_option maxHeartbeats 4000000 in
set_option maxRecDepth 100000 in
theorem c_X9_ink (l : Launch) (G : va_G) (cI cJ cZ cB cT : ClassId) (m0 : Nat) (r : Nat → Nat) (p1 : Int32) (p2 : Int32) (p3 : Int32)  : gMi l yX9_ink wsX9_ink 3 G (gT cI cJ cZ cB cT) [.ref m0, .int p1, .int p2, .int p3] [(m0, .inr (9, [.ref (r 0), .ref (r 1), .ref (r 2), .int 0, .int (-1), .int (-1), .ref (r 6), .ref (r 7), .ref (r 8), .ref (r 9), .ref (r 10), .ref (r 11), .ref (r 12), .ref (r 13), .int 0, .int 0, .int 0, .int 0, .int 0, .int 0, .int 0, .int 0, .int 0, .ref (r 23), .ref (r 24), .int 0, .ref (r 26), .ref (r 27), .int 0, .int 0, .int 0, .ref (r 31), .ref (r 32), .ref (r 33), .ref (r 34), .ref (r 35), .int 0, .ref (r 37), .ref (r 38), .ref (r 39), .ref (r 40), .ref (r 41), .ref (r 42), .ref (r 43), .ref (r 44), .ref (r 45), .ref (r 46), .int 0, .ref (r 48), .ref (r 49), .ref (r 50), .ref (r 51), .long 0])), ((r 0), .inl (cI, 1990, .inl (upd (upd (fun _ => 0) 4 (-1)) 122 9)))] (fun r (_ : Unit) => r = (-1)) (fun (_ : Unit) => ([] : va_W)) := by
  intro sz
  refine gM_start (Qf := fun A => va_Qi (fun r (_ : Unit) => r = (-1)) (gB G (fun (_ : Unit) => ([] : va_W)) A) A) (cc := cX9_ink) (maxL := 4) (ret := (some .int)) (by decide) rfl (Nat.le_of_ble_eq_true rfl) ?_
  intro p e s m args below meth c A ls H hx hb hr hts hown hin hlocks hml hP hK hD hA hS hl
  have hl : lv_has ls 4 [(0, .ref m0), (1, .int p1), (2, .int p2), (3, .int p3)] := hl
  refine lv_aload_n hx hb dX9_ink_0 rfl (lv_at hl 0 rfl) ?_
  refine lv_iload_n hx hb dX9_ink_1 rfl (lv_at hl 1 rfl) ?_
  refine gw_calli (gw_runV (As := [.int p1]) (rest := []) ⟨hx, hb, hml, hown, hts⟩ (c_X9_isGoose l G cI cJ cZ cB cT m0 r p1  H.size) gX9_ink_X9_isGoose rfl e_X9_isGoose ⟨Nat.le_of_ble_eq_true rfl, Nat.le_of_ble_eq_true rfl⟩ hK hP hD [0, 1] rfl (by decide) rfl 0 rfl rfl rfl hl.1 rfl (Nat.le_of_ble_eq_true rfl) dX9_ink_2 ⟨Nat.le_of_ble_eq_true rfl, Nat.le_of_ble_eq_true rfl⟩) hP hD hS hA [0, 1] [] rfl rfl (by decide) (by decide) (fun r_1 u_1 H locs hw_1 hP hD hS => ?_)
  subst hw_1
  have hP : va_P G vwCl [(m0, .inr (9, [.ref (r 0), .ref (r 1), .ref (r 2), .int 0, .int (-1), .int (-1), .ref (r 6), .ref (r 7), .ref (r 8), .ref (r 9), .ref (r 10), .ref (r 11), .ref (r 12), .ref (r 13), .int 0, .int 0, .int 0, .int 0, .int 0, .int 0, .int 0, .int 0, .int 0, .ref (r 23), .ref (r 24), .int 0, .ref (r 26), .ref (r 27), .int 0, .int 0, .int 0, .ref (r 31), .ref (r 32), .ref (r 33), .ref (r 34), .ref (r 35), .int 0, .ref (r 37), .ref (r 38), .ref (r 39), .ref (r 40), .ref (r 41), .ref (r 42), .ref (r 43), .ref (r 44), .ref (r 45), .ref (r 46), .int 0, .ref (r 48), .ref (r 49), .ref (r 50), .ref (r 51), .long 0])), ((r 0), .inl (cI, 1990, .inl (upd (upd (fun _ => 0) 4 (-1)) 122 9)))] H := hP
  have hD : va_D A [(m0, .inr (9, [.ref (r 0), .ref (r 1), .ref (r 2), .int 0, .int (-1), .int (-1), .ref (r 6), .ref (r 7), .ref (r 8), .ref (r 9), .ref (r 10), .ref (r 11), .ref (r 12), .ref (r 13), .int 0, .int 0, .int 0, .int 0, .int 0, .int 0, .int 0, .int 0, .int 0, .ref (r 23), .ref (r 24), .int 0, .ref (r 26), .ref (r 27), .int 0, .int 0, .int 0, .ref (r 31), .ref (r 32), .ref (r 33), .ref (r 34), .ref (r 35), .int 0, .ref (r 37), .ref (r 38), .ref (r 39), .ref (r 40), .ref (r 41), .ref (r 42), .ref (r 43), .ref (r 44), .ref (r 45), .ref (r 46), .int 0, .ref (r 48), .ref (r 49), .ref (r 50), .ref (r 51), .long 0])), ((r 0), .inl (cI, 1990, .inl (upd (upd (fun _ => 0) 4 (-1)) 122 9)))] := hD
  refine lv_if_eq (tgt := 26) hx hb dX9_ink_5 (by decide) (fun _ => ?_) (fun c => absurd (by decide) c)
  refine lv_iconst (v := (-1)) hx hb dX9_ink_26 (by decide) ?_
  exact gw_iret () hx hb hr hlocks (hP.sub [] rfl) (hD.sub [] (by decide) rfl) hS rfl dX9_ink_27
set_option maxHeartbeats 4000000 in
set_option maxRecDepth 100000 in
theorem c_X9_of (l : Launch) (G : va_G) (cI cJ cZ cB cT : ClassId) (m0 : Nat) (r : Nat → Nat) (p1 : Int32) (p2 : Int32)  : gMi l yX9_of wsX9_of 3 G (gT cI cJ cZ cB cT) [.ref m0, .int p1, .int p2] [(m0, .inr (9, [.ref (r 0), .ref (r 1), .ref (r 2), .int 0, .int (-1), .int (-1), .ref (r 6), .ref (r 7), .ref (r 8), .ref (r 9), .ref (r 10), .ref (r 11), .ref (r 12), .ref (r 13), .int 0, .int 0, .int 0, .int 0, .int 0, .int 0, .int 0, .int 0, .int 0, .ref (r 23), .ref (r 24), .int 0, .ref (r 26), .ref (r 27), .int 0, .int 0, .int 0, .ref (r 31), .ref (r 32), .ref (r 33), .ref (r 34), .ref (r 35), .int 0, .ref (r 37), .ref (r 38), .ref (r 39), .ref (r 40), .ref (r 41), .ref (r 42), .ref (r 43), .ref (r 44), .ref (r 45), .ref (r 46), .int 0, .ref (r 48), .ref (r 49), .ref (r 50), .ref (r 51), .long 0])), ((r 0), .inl (cI, 1990, .inl (upd (upd (fun _ => 0) 4 (-1)) 122 9)))] (fun r (_ : Unit) => r = (-2)) (fun (_ : Unit) => ([] : va_W)) := by
  intro sz
  refine gM_start (Qf := fun A => va_Qi (fun r (_ : Unit) => r = (-2)) (gB G (fun (_ : Unit) => ([] : va_W)) A) A) (cc := cX9_of) (maxL := 3) (ret := (some .int)) (by decide) rfl (Nat.le_of_ble_eq_true rfl) ?_
  intro p e s m args below meth c A ls H hx hb hr hts hown hin hlocks hml hP hK hD hA hS hl
  have hl : lv_has ls 3 [(0, .ref m0), (1, .int p1), (2, .int p2)] := hl
  refine lv_aload_n hx hb dX9_of_0 rfl (lv_at hl 0 rfl) ?_
  refine lv_iload_n hx hb dX9_of_1 rfl (lv_at hl 1 rfl) ?_
  refine gw_calli (gw_runV (As := [.int p1]) (rest := []) ⟨hx, hb, hml, hown, hts⟩ (c_X9_isGoose l G cI cJ cZ cB cT m0 r p1  H.size) gX9_of_X9_isGoose rfl e_X9_isGoose ⟨Nat.le_of_ble_eq_true rfl, Nat.le_of_ble_eq_true rfl⟩ hK hP hD [0, 1] rfl (by decide) rfl 0 rfl rfl rfl hl.1 rfl (Nat.le_of_ble_eq_true rfl) dX9_of_2 ⟨Nat.le_of_ble_eq_true rfl, Nat.le_of_ble_eq_true rfl⟩) hP hD hS hA [0, 1] [] rfl rfl (by decide) (by decide) (fun r_1 u_1 H locs hw_1 hP hD hS => ?_)
  subst hw_1
  have hP : va_P G vwCl [(m0, .inr (9, [.ref (r 0), .ref (r 1), .ref (r 2), .int 0, .int (-1), .int (-1), .ref (r 6), .ref (r 7), .ref (r 8), .ref (r 9), .ref (r 10), .ref (r 11), .ref (r 12), .ref (r 13), .int 0, .int 0, .int 0, .int 0, .int 0, .int 0, .int 0, .int 0, .int 0, .ref (r 23), .ref (r 24), .int 0, .ref (r 26), .ref (r 27), .int 0, .int 0, .int 0, .ref (r 31), .ref (r 32), .ref (r 33), .ref (r 34), .ref (r 35), .int 0, .ref (r 37), .ref (r 38), .ref (r 39), .ref (r 40), .ref (r 41), .ref (r 42), .ref (r 43), .ref (r 44), .ref (r 45), .ref (r 46), .int 0, .ref (r 48), .ref (r 49), .ref (r 50), .ref (r 51), .long 0])), ((r 0), .inl (cI, 1990, .inl (upd (upd (fun _ => 0) 4 (-1)) 122 9)))] H := hP
  have hD : va_D A [(m0, .inr (9, [.ref (r 0), .ref (r 1), .ref (r 2), .int 0, .int (-1), .int (-1), .ref (r 6), .ref (r 7), .ref (r 8), .ref (r 9), .ref (r 10), .ref (r 11), .ref (r 12), .ref (r 13), .int 0, .int 0, .int 0, .int 0, .int 0, .int 0, .int 0, .int 0, .int 0, .ref (r 23), .ref (r 24), .int 0, .ref (r 26), .ref (r 27), .int 0, .int 0, .int 0, .ref (r 31), .ref (r 32), .ref (r 33), .ref (r 34), .ref (r 35), .int 0, .ref (r 37), .ref (r 38), .ref (r 39), .ref (r 40), .ref (r 41), .ref (r 42), .ref (r 43), .ref (r 44), .ref (r 45), .ref (r 46), .int 0, .ref (r 48), .ref (r 49), .ref (r 50), .ref (r 51), .long 0])), ((r 0), .inl (cI, 1990, .inl (upd (upd (fun _ => 0) 4 (-1)) 122 9)))] := hD
  refine lv_if_eq (tgt := 18) hx hb dX9_of_5 (by decide) (fun _ => ?_) (fun c => absurd (by decide) c)
  refine lv_bipush (v := (-2)) hx hb dX9_of_18 (by decide) ?_
  exact gw_iret () hx hb hr hlocks (hP.sub [] rfl) (hD.sub [] (by decide) rfl) hS rfl dX9_of_20
set_option maxHeartbeats 4000000 in
set_option maxRecDepth 100000 in
theorem c_X9_plucks (l : Launch) (G : va_G) (cI cJ cZ cB cT : ClassId) (m0 : Nat) (r : Nat → Nat) (p1 : Int32)  : gMi l yX9_plucks wsX9_plucks 3 G (gT cI cJ cZ cB cT) [.ref m0, .int p1] [(m0, .inr (9, [.ref (r 0), .ref (r 1), .ref (r 2), .int 0, .int (-1), .int (-1), .ref (r 6), .ref (r 7), .ref (r 8), .ref (r 9), .ref (r 10), .ref (r 11), .ref (r 12), .ref (r 13), .int 0, .int 0, .int 0, .int 0, .int 0, .int 0, .int 0, .int 0, .int 0, .ref (r 23), .ref (r 24), .int 0, .ref (r 26), .ref (r 27), .int 0, .int 0, .int 0, .ref (r 31), .ref (r 32), .ref (r 33), .ref (r 34), .ref (r 35), .int 0, .ref (r 37), .ref (r 38), .ref (r 39), .ref (r 40), .ref (r 41), .ref (r 42), .ref (r 43), .ref (r 44), .ref (r 45), .ref (r 46), .int 0, .ref (r 48), .ref (r 49), .ref (r 50), .ref (r 51), .long 0])), ((r 0), .inl (cI, 1990, .inl (upd (upd (fun _ => 0) 4 (-1)) 122 9)))] (fun r (_ : Unit) => r = (-1)) (fun (_ : Unit) => ([] : va_W)) := by
  intro sz
  refine gM_start (Qf := fun A => va_Qi (fun r (_ : Unit) => r = (-1)) (gB G (fun (_ : Unit) => ([] : va_W)) A) A) (cc := cX9_plucks) (maxL := 3) (ret := (some .int)) (by decide) rfl (Nat.le_of_ble_eq_true rfl) ?_
  intro p e s m args below meth c A ls H hx hb hr hts hown hin hlocks hml hP hK hD hA hS hl
  have hl : lv_has ls 3 [(0, .ref m0), (1, .int p1)] := hl
  refine lv_aload_n hx hb dX9_plucks_0 rfl (lv_at hl 0 rfl) ?_
  refine lv_iload_n hx hb dX9_plucks_1 rfl (lv_at hl 1 rfl) ?_
  refine gw_calli (gw_runV (As := [.int p1]) (rest := []) ⟨hx, hb, hml, hown, hts⟩ (c_X9_isGoose l G cI cJ cZ cB cT m0 r p1  H.size) gX9_plucks_X9_isGoose rfl e_X9_isGoose ⟨Nat.le_of_ble_eq_true rfl, Nat.le_of_ble_eq_true rfl⟩ hK hP hD [0, 1] rfl (by decide) rfl 0 rfl rfl rfl hl.1 rfl (Nat.le_of_ble_eq_true rfl) dX9_plucks_2 ⟨Nat.le_of_ble_eq_true rfl, Nat.le_of_ble_eq_true rfl⟩) hP hD hS hA [0, 1] [] rfl rfl (by decide) (by decide) (fun r_1 u_1 H locs hw_1 hP hD hS => ?_)
  subst hw_1
  have hP : va_P G vwCl [(m0, .inr (9, [.ref (r 0), .ref (r 1), .ref (r 2), .int 0, .int (-1), .int (-1), .ref (r 6), .ref (r 7), .ref (r 8), .ref (r 9), .ref (r 10), .ref (r 11), .ref (r 12), .ref (r 13), .int 0, .int 0, .int 0, .int 0, .int 0, .int 0, .int 0, .int 0, .int 0, .ref (r 23), .ref (r 24), .int 0, .ref (r 26), .ref (r 27), .int 0, .int 0, .int 0, .ref (r 31), .ref (r 32), .ref (r 33), .ref (r 34), .ref (r 35), .int 0, .ref (r 37), .ref (r 38), .ref (r 39), .ref (r 40), .ref (r 41), .ref (r 42), .ref (r 43), .ref (r 44), .ref (r 45), .ref (r 46), .int 0, .ref (r 48), .ref (r 49), .ref (r 50), .ref (r 51), .long 0])), ((r 0), .inl (cI, 1990, .inl (upd (upd (fun _ => 0) 4 (-1)) 122 9)))] H := hP
  have hD : va_D A [(m0, .inr (9, [.ref (r 0), .ref (r 1), .ref (r 2), .int 0, .int (-1), .int (-1), .ref (r 6), .ref (r 7), .ref (r 8), .ref (r 9), .ref (r 10), .ref (r 11), .ref (r 12), .ref (r 13), .int 0, .int 0, .int 0, .int 0, .int 0, .int 0, .int 0, .int 0, .int 0, .ref (r 23), .ref (r 24), .int 0, .ref (r 26), .ref (r 27), .int 0, .int 0, .int 0, .ref (r 31), .ref (r 32), .ref (r 33), .ref (r 34), .ref (r 35), .int 0, .ref (r 37), .ref (r 38), .ref (r 39), .ref (r 40), .ref (r 41), .ref (r 42), .ref (r 43), .ref (r 44), .ref (r 45), .ref (r 46), .int 0, .ref (r 48), .ref (r 49), .ref (r 50), .ref (r 51), .long 0])), ((r 0), .inl (cI, 1990, .inl (upd (upd (fun _ => 0) 4 (-1)) 122 9)))] := hD
  refine lv_if_ne (tgt := 10) hx hb dX9_plucks_5 (by decide) (fun c => absurd (by decide) c) (fun _ => ?_)
  refine lv_iconst (v := (-1)) hx hb dX9_plucks_8 (by decide) ?_
  exact gw_iret () hx hb hr hlocks (hP.sub [] rfl) (hD.sub [] (by decide) rfl) hS rfl dX9_plucks_9
set_option maxHeartbeats 4000000 in
set_option maxRecDepth 100000 in
theorem c_X9_played (l : Launch) (G : va_G) (cI cJ cZ cB cT : ClassId) (m0 : Nat) (r : Nat → Nat) (p1 : Int32)  : gMi l yX9_played wsX9_played 2 G (gT cI cJ cZ cB cT) [.ref m0, .int p1] [(m0, .inr (9, [.ref (r 0), .ref (r 1), .ref (r 2), .int 0, .int (-1), .int (-1), .ref (r 6), .ref (r 7), .ref (r 8), .ref (r 9), .ref (r 10), .ref (r 11), .ref (r 12), .ref (r 13), .int 0, .int 0, .int 0, .int 0, .int 0, .int 0, .int 0, .int 0, .int 0, .ref (r 23), .ref (r 24), .int 0, .ref (r 26), .ref (r 27), .int 0, .int 0, .int 0, .ref (r 31), .ref (r 32), .ref (r 33), .ref (r 34), .ref (r 35), .int 0, .ref (r 37), .ref (r 38), .ref (r 39), .ref (r 40), .ref (r 41), .ref (r 42), .ref (r 43), .ref (r 44), .ref (r 45), .ref (r 46), .int 0, .ref (r 48), .ref (r 49), .ref (r 50), .ref (r 51), .long 0])), ((r 0), .inl (cI, 1990, .inl (upd (upd (fun _ => 0) 4 (-1)) 122 9)))] (fun r (_ : Unit) => r = (-2)) (fun (_ : Unit) => ([] : va_W)) := by
  intro sz
  refine gM_start (Qf := fun A => va_Qi (fun r (_ : Unit) => r = (-2)) (gB G (fun (_ : Unit) => ([] : va_W)) A) A) (cc := cX9_played) (maxL := 5) (ret := (some .int)) (by decide) rfl (Nat.le_of_ble_eq_true rfl) ?_
  intro p e s m args below meth c A ls H hx hb hr hts hown hin hlocks hml hP hK hD hA hS hl
  have hl : lv_has ls 5 [(0, .ref m0), (1, .int p1)] := hl
  have iX9 : ∀ w ∈ u_ws RX9 TX9 53, w ∈ wsX9_played := by decide +kernel
  refine lv_iload_n hx hb dX9_played_0 rfl (lv_at hl 1 rfl) ?_
  refine lv_iconst (v := 0) hx hb dX9_played_1 (by decide) ?_
  refine lv_aload_n hx hb dX9_played_2 rfl (lv_at hl 0 rfl) ?_
  refine va_get (D := G) (ci := 9) (v := .ref (r 0)) (C := RX9) (T := TX9) (N := 53) hx hb hts iX9 hown hK hP 0 rfl rfl 0 (by decide) (hts (.fieldLink RX9 7 "GooseLettersModel" "a" "[I") (by decide +kernel)) (fun _ h9 => h9) rfl dX9_played_3 ?_
  refine lv_iconst (v := 3) hx hb dX9_played_6 (by decide) ?_
  refine gw_iald (x := 0) hx hb hK hP 1 0 3 rfl rfl rfl (by decide) (by decide) rfl dX9_played_7 ?_
  refine lv_iconst (v := 1) hx hb dX9_played_8 (by decide) ?_
  refine lv_isub hx hb dX9_played_9 ?_
  refine gw_topi (y := (-1)) (by decide) ?_
  refine gw_calli (gw_runS (As := [.int p1, .int 0, .int (-1)]) (rest := []) ⟨hx, hb, hml, hown, hts⟩ (c_in_e l G cI cJ cZ cB cT p1  H.size) gX9_played_X9_in rfl e_X9_in ⟨Nat.le_of_ble_eq_true rfl, Nat.le_of_ble_eq_true rfl⟩ hK hP hD [] rfl (by decide) rfl rfl hl.1 rfl (Nat.le_of_ble_eq_true rfl) dX9_played_10 ⟨Nat.le_of_ble_eq_true rfl, Nat.le_of_ble_eq_true rfl⟩) hP hD hS hA [] [0, 1] rfl rfl (by decide) (by decide) (fun r_1 u_1 H locs hw_1 hP hD hS => ?_)
  subst hw_1
  have hP : va_P G vwCl [(m0, .inr (9, [.ref (r 0), .ref (r 1), .ref (r 2), .int 0, .int (-1), .int (-1), .ref (r 6), .ref (r 7), .ref (r 8), .ref (r 9), .ref (r 10), .ref (r 11), .ref (r 12), .ref (r 13), .int 0, .int 0, .int 0, .int 0, .int 0, .int 0, .int 0, .int 0, .int 0, .ref (r 23), .ref (r 24), .int 0, .ref (r 26), .ref (r 27), .int 0, .int 0, .int 0, .ref (r 31), .ref (r 32), .ref (r 33), .ref (r 34), .ref (r 35), .int 0, .ref (r 37), .ref (r 38), .ref (r 39), .ref (r 40), .ref (r 41), .ref (r 42), .ref (r 43), .ref (r 44), .ref (r 45), .ref (r 46), .int 0, .ref (r 48), .ref (r 49), .ref (r 50), .ref (r 51), .long 0])), ((r 0), .inl (cI, 1990, .inl (upd (upd (fun _ => 0) 4 (-1)) 122 9)))] H := hP
  have hD : va_D A [(m0, .inr (9, [.ref (r 0), .ref (r 1), .ref (r 2), .int 0, .int (-1), .int (-1), .ref (r 6), .ref (r 7), .ref (r 8), .ref (r 9), .ref (r 10), .ref (r 11), .ref (r 12), .ref (r 13), .int 0, .int 0, .int 0, .int 0, .int 0, .int 0, .int 0, .int 0, .int 0, .ref (r 23), .ref (r 24), .int 0, .ref (r 26), .ref (r 27), .int 0, .int 0, .int 0, .ref (r 31), .ref (r 32), .ref (r 33), .ref (r 34), .ref (r 35), .int 0, .ref (r 37), .ref (r 38), .ref (r 39), .ref (r 40), .ref (r 41), .ref (r 42), .ref (r 43), .ref (r 44), .ref (r 45), .ref (r 46), .int 0, .ref (r 48), .ref (r 49), .ref (r 50), .ref (r 51), .long 0])), ((r 0), .inl (cI, 1990, .inl (upd (upd (fun _ => 0) 4 (-1)) 122 9)))] := hD
  refine lv_if_ne (tgt := 19) hx hb dX9_played_13 (by decide) (fun c => absurd (by decide) c) (fun _ => ?_)
  refine lv_bipush (v := (-2)) hx hb dX9_played_16 (by decide) ?_
  exact gw_iret () hx hb hr hlocks (hP.sub [] rfl) (hD.sub [] (by decide) rfl) hS rfl dX9_played_18
set_option maxHeartbeats 4000000 in
set_option maxRecDepth 100000 in
theorem c_X9_geeseOf (l : Launch) (G : va_G) (cI cJ cZ cB cT : ClassId) (m0 : Nat) (r : Nat → Nat) (p1 : Int32)  : gMi l yX9_geeseOf wsX9_geeseOf 1 G (gT cI cJ cZ cB cT) [.ref m0, .int p1] [(m0, .inr (9, [.ref (r 0), .ref (r 1), .ref (r 2), .int 0, .int (-1), .int (-1), .ref (r 6), .ref (r 7), .ref (r 8), .ref (r 9), .ref (r 10), .ref (r 11), .ref (r 12), .ref (r 13), .int 0, .int 0, .int 0, .int 0, .int 0, .int 0, .int 0, .int 0, .int 0, .ref (r 23), .ref (r 24), .int 0, .ref (r 26), .ref (r 27), .int 0, .int 0, .int 0, .ref (r 31), .ref (r 32), .ref (r 33), .ref (r 34), .ref (r 35), .int 0, .ref (r 37), .ref (r 38), .ref (r 39), .ref (r 40), .ref (r 41), .ref (r 42), .ref (r 43), .ref (r 44), .ref (r 45), .ref (r 46), .int 0, .ref (r 48), .ref (r 49), .ref (r 50), .ref (r 51), .long 0])), ((r 0), .inl (cI, 1990, .inl (upd (upd (fun _ => 0) 4 (-1)) 122 9)))] (fun r (_ : Unit) => r = 0) (fun (_ : Unit) => ([(m0, .inr (9, [.ref (r 0), .ref (r 1), .ref (r 2), .int 0, .int (-1), .int (-1), .ref (r 6), .ref (r 7), .ref (r 8), .ref (r 9), .ref (r 10), .ref (r 11), .ref (r 12), .ref (r 13), .int 0, .int 0, .int 0, .int 0, .int 0, .int 0, .int 0, .int 0, .int 0, .ref (r 23), .ref (r 24), .int 0, .ref (r 26), .ref (r 27), .int 0, .int 0, .int 0, .ref (r 31), .ref (r 32), .ref (r 33), .ref (r 34), .ref (r 35), .int 0, .ref (r 37), .ref (r 38), .ref (r 39), .ref (r 40), .ref (r 41), .ref (r 42), .ref (r 43), .ref (r 44), .ref (r 45), .ref (r 46), .int 0, .ref (r 48), .ref (r 49), .ref (r 50), .ref (r 51), .long 0])), ((r 0), .inl (cI, 1990, .inl (upd (upd (fun _ => 0) 4 (-1)) 122 9)))] : va_W)) := by
  intro sz
  refine gM_start (Qf := fun A => va_Qi (fun r (_ : Unit) => r = 0) (gB G (fun (_ : Unit) => ([(m0, .inr (9, [.ref (r 0), .ref (r 1), .ref (r 2), .int 0, .int (-1), .int (-1), .ref (r 6), .ref (r 7), .ref (r 8), .ref (r 9), .ref (r 10), .ref (r 11), .ref (r 12), .ref (r 13), .int 0, .int 0, .int 0, .int 0, .int 0, .int 0, .int 0, .int 0, .int 0, .ref (r 23), .ref (r 24), .int 0, .ref (r 26), .ref (r 27), .int 0, .int 0, .int 0, .ref (r 31), .ref (r 32), .ref (r 33), .ref (r 34), .ref (r 35), .int 0, .ref (r 37), .ref (r 38), .ref (r 39), .ref (r 40), .ref (r 41), .ref (r 42), .ref (r 43), .ref (r 44), .ref (r 45), .ref (r 46), .int 0, .ref (r 48), .ref (r 49), .ref (r 50), .ref (r 51), .long 0])), ((r 0), .inl (cI, 1990, .inl (upd (upd (fun _ => 0) 4 (-1)) 122 9)))] : va_W)) A) A) (cc := cX9_geeseOf) (maxL := 4) (ret := (some .int)) (by decide) rfl (Nat.le_of_ble_eq_true rfl) ?_
  intro p e s m args below meth c A ls H hx hb hr hts hown hin hlocks hml hP hK hD hA hS hl
  have hl : lv_has ls 4 [(0, .ref m0), (1, .int p1)] := hl
  have iX9 : ∀ w ∈ u_ws RX9 TX9 53, w ∈ wsX9_geeseOf := by decide +kernel
  refine lv_iconst (v := 0) hx hb dX9_geeseOf_0 (by decide) ?_
  refine lv_istore_n (lv' := [(2, .int 0), (0, .ref m0), (1, .int p1)]) hx hb dX9_geeseOf_1 rfl hl (by decide) rfl (fun ls hl => ?_)
  refine lv_iconst (v := 0) hx hb dX9_geeseOf_2 (by decide) ?_
  refine lv_istore_n (lv' := [(3, .int 0), (2, .int 0), (0, .ref m0), (1, .int p1)]) hx hb dX9_geeseOf_3 rfl hl (by decide) rfl (fun ls hl => ?_)
  refine lv_iload_n hx hb dX9_geeseOf_4 rfl (lv_at hl 0 rfl) ?_
  refine lv_aload_n hx hb dX9_geeseOf_5 rfl (lv_at hl 2 rfl) ?_
  refine va_get (D := G) (ci := 9) (v := .ref (r 0)) (C := RX9) (T := TX9) (N := 53) hx hb hts iX9 hown hK hP 0 rfl rfl 0 (by decide) (hts (.fieldLink RX9 7 "GooseLettersModel" "a" "[I") (by decide +kernel)) (fun _ h9 => h9) rfl dX9_geeseOf_6 ?_
  refine lv_iconst (v := 1) hx hb dX9_geeseOf_9 (by decide) ?_
  refine gw_iald (x := 0) hx hb hK hP 1 0 1 rfl rfl rfl (by decide) (by decide) rfl dX9_geeseOf_10 ?_
  refine lv_icmp_ge (tgt := 38) hx hb dX9_geeseOf_11 (by decide) (fun _ => ?_) (fun c => absurd (by decide) c)
  refine lv_iload_n hx hb dX9_geeseOf_38 rfl (lv_at hl 1 rfl) ?_
  exact gw_iret () hx hb hr hlocks hP hD hS rfl dX9_geeseOf_39
theorem e_X9_geeseOf : yX9_geeseOf.cls = RX9 ∧ yX9_geeseOf.cls ≠ "java/lang/invoke/MethodHandle" ∧ yX9_geeseOf.cls ≠ "java/lang/invoke/VarHandle" ∧ (parseMethodDescriptor yX9_geeseOf.desc).map (fun d => d.parameters.length) = some 1 := by decide +kernel
set_option maxHeartbeats 4000000 in
set_option maxRecDepth 100000 in
theorem c_X9_holds (l : Launch) (G : va_G) (cI cJ cZ cB cT : ClassId) (m0 : Nat) (r : Nat → Nat)  : gMi l yX9_holds wsX9_holds 2 G (gT cI cJ cZ cB cT) [.ref m0] [(m0, .inr (9, [.ref (r 0), .ref (r 1), .ref (r 2), .int 0, .int (-1), .int (-1), .ref (r 6), .ref (r 7), .ref (r 8), .ref (r 9), .ref (r 10), .ref (r 11), .ref (r 12), .ref (r 13), .int 0, .int 0, .int 0, .int 0, .int 0, .int 0, .int 0, .int 0, .int 0, .ref (r 23), .ref (r 24), .int 0, .ref (r 26), .ref (r 27), .int 0, .int 0, .int 0, .ref (r 31), .ref (r 32), .ref (r 33), .ref (r 34), .ref (r 35), .int 0, .ref (r 37), .ref (r 38), .ref (r 39), .ref (r 40), .ref (r 41), .ref (r 42), .ref (r 43), .ref (r 44), .ref (r 45), .ref (r 46), .int 0, .ref (r 48), .ref (r 49), .ref (r 50), .ref (r 51), .long 0])), ((r 0), .inl (cI, 1990, .inl (upd (upd (fun _ => 0) 4 (-1)) 122 9)))] (fun r (_ : Unit) => r = 999) (fun (_ : Unit) => ([] : va_W)) := by
  intro sz
  refine gM_start (Qf := fun A => va_Qi (fun r (_ : Unit) => r = 999) (gB G (fun (_ : Unit) => ([] : va_W)) A) A) (cc := cX9_holds) (maxL := 3) (ret := (some .int)) (by decide) rfl (Nat.le_of_ble_eq_true rfl) ?_
  intro p e s m args below meth c A ls H hx hb hr hts hown hin hlocks hml hP hK hD hA hS hl
  have hl : lv_has ls 3 [(0, .ref m0)] := hl
  have iX9 : ∀ w ∈ u_ws RX9 TX9 53, w ∈ wsX9_holds := by decide +kernel
  refine lv_aload_n hx hb dX9_holds_0 rfl (lv_at hl 0 rfl) ?_
  refine va_get (D := G) (ci := 9) (v := .ref (r 0)) (C := RX9) (T := TX9) (N := 53) hx hb hts iX9 hown hK hP 0 rfl rfl 0 (by decide) (hts (.fieldLink RX9 7 "GooseLettersModel" "a" "[I") (by decide +kernel)) (fun _ h9 => h9) rfl dX9_holds_1 ?_
  refine lv_iconst (v := 2) hx hb dX9_holds_4 (by decide) ?_
  refine gw_iald (x := 0) hx hb hK hP 1 0 2 rfl rfl rfl (by decide) (by decide) rfl dX9_holds_5 ?_
  refine lv_aload_n hx hb dX9_holds_6 rfl (lv_at hl 0 rfl) ?_
  refine lv_iconst (v := 0) hx hb dX9_holds_7 (by decide) ?_
  refine gw_calli (gw_runV (As := [.int 0]) (rest := [.int 0]) ⟨hx, hb, hml, hown, hts⟩ (c_X9_geeseOf l G cI cJ cZ cB cT m0 r 0  H.size) gX9_holds_X9_geeseOf rfl e_X9_geeseOf ⟨Nat.le_of_ble_eq_true rfl, Nat.le_of_ble_eq_true rfl⟩ hK hP hD [0, 1] rfl (by decide) rfl 0 rfl rfl rfl hl.1 rfl (Nat.le_of_ble_eq_true rfl) dX9_holds_8 ⟨Nat.le_of_ble_eq_true rfl, Nat.le_of_ble_eq_true rfl⟩) hP hD hS hA [0, 1] [] rfl rfl (by decide) (by decide) (fun r_1 u_1 H locs hw_1 hP hD hS => ?_)
  subst hw_1
  have hP : va_P G vwCl [(m0, .inr (9, [.ref (r 0), .ref (r 1), .ref (r 2), .int 0, .int (-1), .int (-1), .ref (r 6), .ref (r 7), .ref (r 8), .ref (r 9), .ref (r 10), .ref (r 11), .ref (r 12), .ref (r 13), .int 0, .int 0, .int 0, .int 0, .int 0, .int 0, .int 0, .int 0, .int 0, .ref (r 23), .ref (r 24), .int 0, .ref (r 26), .ref (r 27), .int 0, .int 0, .int 0, .ref (r 31), .ref (r 32), .ref (r 33), .ref (r 34), .ref (r 35), .int 0, .ref (r 37), .ref (r 38), .ref (r 39), .ref (r 40), .ref (r 41), .ref (r 42), .ref (r 43), .ref (r 44), .ref (r 45), .ref (r 46), .int 0, .ref (r 48), .ref (r 49), .ref (r 50), .ref (r 51), .long 0])), ((r 0), .inl (cI, 1990, .inl (upd (upd (fun _ => 0) 4 (-1)) 122 9)))] H := hP
  have hD : va_D A [(m0, .inr (9, [.ref (r 0), .ref (r 1), .ref (r 2), .int 0, .int (-1), .int (-1), .ref (r 6), .ref (r 7), .ref (r 8), .ref (r 9), .ref (r 10), .ref (r 11), .ref (r 12), .ref (r 13), .int 0, .int 0, .int 0, .int 0, .int 0, .int 0, .int 0, .int 0, .int 0, .ref (r 23), .ref (r 24), .int 0, .ref (r 26), .ref (r 27), .int 0, .int 0, .int 0, .ref (r 31), .ref (r 32), .ref (r 33), .ref (r 34), .ref (r 35), .int 0, .ref (r 37), .ref (r 38), .ref (r 39), .ref (r 40), .ref (r 41), .ref (r 42), .ref (r 43), .ref (r 44), .ref (r 45), .ref (r 46), .int 0, .ref (r 48), .ref (r 49), .ref (r 50), .ref (r 51), .long 0])), ((r 0), .inl (cI, 1990, .inl (upd (upd (fun _ => 0) 4 (-1)) 122 9)))] := hD
  refine lv_iadd hx hb dX9_holds_11 ?_
  refine gw_topi (y := 0) (by decide) ?_
  refine lv_istore_n (lv' := [(1, .int 0), (0, .ref m0)]) hx hb dX9_holds_12 rfl hl (by decide) rfl (fun ls hl => ?_)
  refine lv_iload_n hx hb dX9_holds_13 rfl (lv_at hl 0 rfl) ?_
  refine lv_if_ne (tgt := 21) hx hb dX9_holds_14 (by decide) (fun c => absurd (by decide) c) (fun _ => ?_)
  refine lv_sipush (v := 999) hx hb dX9_holds_17 (by decide) ?_
  exact gw_iret () hx hb hr hlocks (hP.sub [] rfl) (hD.sub [] (by decide) rfl) hS rfl dX9_holds_20
def v_X9_about (p1 : Int32) : Int32 := (if p1 = 0 then 0 else (if p1 = 1 then 0 else (if p1 = 2 then 0 else (if p1 = 3 then 0 else (if p1 = 4 then 0 else (if p1 = 5 then 9 else (if p1 = 6 then 0 else (if p1 = 7 then (-1) else (if p1 = 8 then 0 else (if p1 = 9 then 0 else (if (v_X9_in p1 20 25) = 0 then (-2) else 0)))))))))))
theorem e_X9_isMarket : yX9_isMarket.cls = RX9 ∧ yX9_isMarket.cls ≠ "java/lang/invoke/MethodHandle" ∧ yX9_isMarket.cls ≠ "java/lang/invoke/VarHandle" ∧ (parseMethodDescriptor yX9_isMarket.desc).map (fun d => d.parameters.length) = some 1 := by decide +kernel
set_option maxHeartbeats 4000000 in
set_option maxRecDepth 100000 in
theorem c_X9_about (l : Launch) (G : va_G) (cI cJ cZ cB cT : ClassId) (m0 : Nat) (r : Nat → Nat) (p1 : Int32)  : gMi l yX9_about wsX9_about 3 G (gT cI cJ cZ cB cT) [.ref m0, .int p1] [(m0, .inr (9, [.ref (r 0), .ref (r 1), .ref (r 2), .int 0, .int (-1), .int (-1), .ref (r 6), .ref (r 7), .ref (r 8), .ref (r 9), .ref (r 10), .ref (r 11), .ref (r 12), .ref (r 13), .int 0, .int 0, .int 0, .int 0, .int 0, .int 0, .int 0, .int 0, .int 0, .ref (r 23), .ref (r 24), .int 0, .ref (r 26), .ref (r 27), .int 0, .int 0, .int 0, .ref (r 31), .ref (r 32), .ref (r 33), .ref (r 34), .ref (r 35), .int 0, .ref (r 37), .ref (r 38), .ref (r 39), .ref (r 40), .ref (r 41), .ref (r 42), .ref (r 43), .ref (r 44), .ref (r 45), .ref (r 46), .int 0, .ref (r 48), .ref (r 49), .ref (r 50), .ref (r 51), .long 0])), ((r 0), .inl (cI, 1990, .inl (upd (upd (fun _ => 0) 4 (-1)) 122 9)))] (fun r (_ : Unit) => r = (v_X9_about p1)) (fun (_ : Unit) => ([] : va_W)) := by
  intro sz
  refine gM_start (Qf := fun A => va_Qi (fun r (_ : Unit) => r = (v_X9_about p1)) (gB G (fun (_ : Unit) => ([] : va_W)) A) A) (cc := cX9_about) (maxL := 3) (ret := (some .int)) (by decide) rfl (Nat.le_of_ble_eq_true rfl) ?_
  intro p e s m args below meth c A ls H hx hb hr hts hown hin hlocks hml hP hK hD hA hS hl
  have hl : lv_has ls 3 [(0, .ref m0), (1, .int p1)] := hl
  have iX9 : ∀ w ∈ u_ws RX9 TX9 53, w ∈ wsX9_about := by decide +kernel
  refine lv_iload_n hx hb dX9_about_0 rfl (lv_at hl 1 rfl) ?_
  by_cases c_1 : p1 = 0
  · refine lv_tableIn (tgt := 56) (off := 55) hx hb dX9_about_1 (by rw [c_1]; decide) (by rw [c_1]; decide) (by rw [c_1]; decide) (by decide) ?_
    refine lv_aload_n hx hb dX9_about_56 rfl (lv_at hl 0 rfl) ?_
    refine va_get (D := G) (ci := 9) (v := .ref (r 0)) (C := RX9) (T := TX9) (N := 53) hx hb hts iX9 hown hK hP 0 rfl rfl 0 (by decide) (hts (.fieldLink RX9 7 "GooseLettersModel" "a" "[I") (by decide +kernel)) (fun _ h9 => h9) rfl dX9_about_57 ?_
    refine lv_iconst (v := 0) hx hb dX9_about_60 (by decide) ?_
    refine gw_iald (x := 0) hx hb hK hP 1 0 0 rfl rfl rfl (by decide) (by decide) rfl dX9_about_61 ?_
    exact gw_iret () hx hb hr hlocks (hP.sub [] rfl) (hD.sub [] (by decide) rfl) hS (by rw [v_X9_about, if_pos c_1]) dX9_about_62
  by_cases c_2 : p1 = 1
  · refine lv_tableIn (tgt := 63) (off := 62) hx hb dX9_about_1 (by rw [c_2]; decide) (by rw [c_2]; decide) (by rw [c_2]; decide) (by decide) ?_
    refine lv_aload_n hx hb dX9_about_63 rfl (lv_at hl 0 rfl) ?_
    refine va_get (D := G) (ci := 9) (v := .ref (r 0)) (C := RX9) (T := TX9) (N := 53) hx hb hts iX9 hown hK hP 0 rfl rfl 0 (by decide) (hts (.fieldLink RX9 7 "GooseLettersModel" "a" "[I") (by decide +kernel)) (fun _ h9 => h9) rfl dX9_about_64 ?_
    refine lv_iconst (v := 1) hx hb dX9_about_67 (by decide) ?_
    refine gw_iald (x := 0) hx hb hK hP 1 0 1 rfl rfl rfl (by decide) (by decide) rfl dX9_about_68 ?_
    exact gw_iret () hx hb hr hlocks (hP.sub [] rfl) (hD.sub [] (by decide) rfl) hS (by rw [v_X9_about, if_neg c_1, if_pos c_2]) dX9_about_69
  by_cases c_3 : p1 = 2
  · refine lv_tableIn (tgt := 70) (off := 69) hx hb dX9_about_1 (by rw [c_3]; decide) (by rw [c_3]; decide) (by rw [c_3]; decide) (by decide) ?_
    refine lv_aload_n hx hb dX9_about_70 rfl (lv_at hl 0 rfl) ?_
    refine va_get (D := G) (ci := 9) (v := .ref (r 0)) (C := RX9) (T := TX9) (N := 53) hx hb hts iX9 hown hK hP 0 rfl rfl 0 (by decide) (hts (.fieldLink RX9 7 "GooseLettersModel" "a" "[I") (by decide +kernel)) (fun _ h9 => h9) rfl dX9_about_71 ?_
    refine lv_bipush (v := 120) hx hb dX9_about_74 (by decide) ?_
    refine gw_iald (x := 0) hx hb hK hP 1 0 120 rfl rfl rfl (by decide) (by decide) rfl dX9_about_76 ?_
    exact gw_iret () hx hb hr hlocks (hP.sub [] rfl) (hD.sub [] (by decide) rfl) hS (by rw [v_X9_about, if_neg c_1, if_neg c_2, if_pos c_3]) dX9_about_77
  by_cases c_4 : p1 = 3
  · refine lv_tableIn (tgt := 78) (off := 77) hx hb dX9_about_1 (by rw [c_4]; decide) (by rw [c_4]; decide) (by rw [c_4]; decide) (by decide) ?_
    refine lv_aload_n hx hb dX9_about_78 rfl (lv_at hl 0 rfl) ?_
    refine va_get (D := G) (ci := 9) (v := .ref (r 0)) (C := RX9) (T := TX9) (N := 53) hx hb hts iX9 hown hK hP 0 rfl rfl 0 (by decide) (hts (.fieldLink RX9 7 "GooseLettersModel" "a" "[I") (by decide +kernel)) (fun _ h9 => h9) rfl dX9_about_79 ?_
    refine lv_iconst (v := 2) hx hb dX9_about_82 (by decide) ?_
    refine gw_iald (x := 0) hx hb hK hP 1 0 2 rfl rfl rfl (by decide) (by decide) rfl dX9_about_83 ?_
    exact gw_iret () hx hb hr hlocks (hP.sub [] rfl) (hD.sub [] (by decide) rfl) hS (by rw [v_X9_about, if_neg c_1, if_neg c_2, if_neg c_3, if_pos c_4]) dX9_about_84
  by_cases c_5 : p1 = 4
  · refine lv_tableIn (tgt := 85) (off := 84) hx hb dX9_about_1 (by rw [c_5]; decide) (by rw [c_5]; decide) (by rw [c_5]; decide) (by decide) ?_
    refine lv_aload_n hx hb dX9_about_85 rfl (lv_at hl 0 rfl) ?_
    refine va_get (D := G) (ci := 9) (v := .ref (r 0)) (C := RX9) (T := TX9) (N := 53) hx hb hts iX9 hown hK hP 0 rfl rfl 0 (by decide) (hts (.fieldLink RX9 7 "GooseLettersModel" "a" "[I") (by decide +kernel)) (fun _ h9 => h9) rfl dX9_about_86 ?_
    refine lv_bipush (v := 121) hx hb dX9_about_89 (by decide) ?_
    refine gw_iald (x := 0) hx hb hK hP 1 0 121 rfl rfl rfl (by decide) (by decide) rfl dX9_about_91 ?_
    exact gw_iret () hx hb hr hlocks (hP.sub [] rfl) (hD.sub [] (by decide) rfl) hS (by rw [v_X9_about, if_neg c_1, if_neg c_2, if_neg c_3, if_neg c_4, if_pos c_5]) dX9_about_92
  by_cases c_6 : p1 = 5
  · refine lv_tableIn (tgt := 93) (off := 92) hx hb dX9_about_1 (by rw [c_6]; decide) (by rw [c_6]; decide) (by rw [c_6]; decide) (by decide) ?_
    refine lv_aload_n hx hb dX9_about_93 rfl (lv_at hl 0 rfl) ?_
    refine va_get (D := G) (ci := 9) (v := .ref (r 0)) (C := RX9) (T := TX9) (N := 53) hx hb hts iX9 hown hK hP 0 rfl rfl 0 (by decide) (hts (.fieldLink RX9 7 "GooseLettersModel" "a" "[I") (by decide +kernel)) (fun _ h9 => h9) rfl dX9_about_94 ?_
    refine lv_bipush (v := 122) hx hb dX9_about_97 (by decide) ?_
    refine gw_iald (x := 9) hx hb hK hP 1 0 122 rfl rfl rfl (by decide) (by decide) rfl dX9_about_99 ?_
    exact gw_iret () hx hb hr hlocks (hP.sub [] rfl) (hD.sub [] (by decide) rfl) hS (by rw [v_X9_about, if_neg c_1, if_neg c_2, if_neg c_3, if_neg c_4, if_neg c_5, if_pos c_6]) dX9_about_100
  by_cases c_7 : p1 = 6
  · refine lv_tableIn (tgt := 101) (off := 100) hx hb dX9_about_1 (by rw [c_7]; decide) (by rw [c_7]; decide) (by rw [c_7]; decide) (by decide) ?_
    refine lv_aload_n hx hb dX9_about_101 rfl (lv_at hl 0 rfl) ?_
    refine va_get (D := G) (ci := 9) (v := .ref (r 0)) (C := RX9) (T := TX9) (N := 53) hx hb hts iX9 hown hK hP 0 rfl rfl 0 (by decide) (hts (.fieldLink RX9 7 "GooseLettersModel" "a" "[I") (by decide +kernel)) (fun _ h9 => h9) rfl dX9_about_102 ?_
    refine lv_iconst (v := 3) hx hb dX9_about_105 (by decide) ?_
    refine gw_iald (x := 0) hx hb hK hP 1 0 3 rfl rfl rfl (by decide) (by decide) rfl dX9_about_106 ?_
    exact gw_iret () hx hb hr hlocks (hP.sub [] rfl) (hD.sub [] (by decide) rfl) hS (by rw [v_X9_about, if_neg c_1, if_neg c_2, if_neg c_3, if_neg c_4, if_neg c_5, if_neg c_6, if_pos c_7]) dX9_about_107
  by_cases c_8 : p1 = 7
  · refine lv_tableIn (tgt := 108) (off := 107) hx hb dX9_about_1 (by rw [c_8]; decide) (by rw [c_8]; decide) (by rw [c_8]; decide) (by decide) ?_
    refine lv_aload_n hx hb dX9_about_108 rfl (lv_at hl 0 rfl) ?_
    refine va_get (D := G) (ci := 9) (v := .ref (r 0)) (C := RX9) (T := TX9) (N := 53) hx hb hts iX9 hown hK hP 0 rfl rfl 0 (by decide) (hts (.fieldLink RX9 7 "GooseLettersModel" "a" "[I") (by decide +kernel)) (fun _ h9 => h9) rfl dX9_about_109 ?_
    refine lv_iconst (v := 4) hx hb dX9_about_112 (by decide) ?_
    refine gw_iald (x := (-1)) hx hb hK hP 1 0 4 rfl rfl rfl (by decide) (by decide) rfl dX9_about_113 ?_
    exact gw_iret () hx hb hr hlocks (hP.sub [] rfl) (hD.sub [] (by decide) rfl) hS (by rw [v_X9_about, if_neg c_1, if_neg c_2, if_neg c_3, if_neg c_4, if_neg c_5, if_neg c_6, if_neg c_7, if_pos c_8]) dX9_about_114
  by_cases c_9 : p1 = 8
  · refine lv_tableIn (tgt := 115) (off := 114) hx hb dX9_about_1 (by rw [c_9]; decide) (by rw [c_9]; decide) (by rw [c_9]; decide) (by decide) ?_
    refine lv_aload_n hx hb dX9_about_115 rfl (lv_at hl 0 rfl) ?_
    refine va_get (D := G) (ci := 9) (v := .ref (r 0)) (C := RX9) (T := TX9) (N := 53) hx hb hts iX9 hown hK hP 0 rfl rfl 0 (by decide) (hts (.fieldLink RX9 7 "GooseLettersModel" "a" "[I") (by decide +kernel)) (fun _ h9 => h9) rfl dX9_about_116 ?_
    refine lv_iconst (v := 5) hx hb dX9_about_119 (by decide) ?_
    refine gw_iald (x := 0) hx hb hK hP 1 0 5 rfl rfl rfl (by decide) (by decide) rfl dX9_about_120 ?_
    exact gw_iret () hx hb hr hlocks (hP.sub [] rfl) (hD.sub [] (by decide) rfl) hS (by rw [v_X9_about, if_neg c_1, if_neg c_2, if_neg c_3, if_neg c_4, if_neg c_5, if_neg c_6, if_neg c_7, if_neg c_8, if_pos c_9]) dX9_about_121
  by_cases c_10 : p1 = 9
  · refine lv_tableIn (tgt := 122) (off := 121) hx hb dX9_about_1 (by rw [c_10]; decide) (by rw [c_10]; decide) (by rw [c_10]; decide) (by decide) ?_
    refine lv_aload_n hx hb dX9_about_122 rfl (lv_at hl 0 rfl) ?_
    refine va_get (D := G) (ci := 9) (v := .int 0) (C := RX9) (T := TX9) (N := 53) hx hb hts iX9 hown hK hP 0 rfl rfl 3 (by decide) (hts (.fieldLink RX9 163 "GooseLettersModel" "taped" "I") (by decide +kernel)) (fun _ h9 => h9) rfl dX9_about_123 ?_
    exact gw_iret () hx hb hr hlocks (hP.sub [] rfl) (hD.sub [] (by decide) rfl) hS (by rw [v_X9_about, if_neg c_1, if_neg c_2, if_neg c_3, if_neg c_4, if_neg c_5, if_neg c_6, if_neg c_7, if_neg c_8, if_neg c_9, if_pos c_10]) dX9_about_126
  have hq : (p1).toInt < 0 ∨ 9 < (p1).toInt := by
    have hne : ∀ k : Int32, p1 = k → k.toInt < 0 ∨ 9 < k.toInt := by
      intro k hk
      subst hk
      by_cases h1 : (p1).toInt < 0
      · exact Or.inl h1
      · by_cases h2 : 9 < (p1).toInt
        · exact Or.inr h2
        · exfalso
          have e_c_1 := lv_neT (a := 0) c_1 (by decide)
          have e_c_2 := lv_neT (a := 1) c_2 (by decide)
          have e_c_3 := lv_neT (a := 2) c_3 (by decide)
          have e_c_4 := lv_neT (a := 3) c_4 (by decide)
          have e_c_5 := lv_neT (a := 4) c_5 (by decide)
          have e_c_6 := lv_neT (a := 5) c_6 (by decide)
          have e_c_7 := lv_neT (a := 6) c_7 (by decide)
          have e_c_8 := lv_neT (a := 7) c_8 (by decide)
          have e_c_9 := lv_neT (a := 8) c_9 (by decide)
          have e_c_10 := lv_neT (a := 9) c_10 (by decide)
          omega
    exact hne _ rfl
  refine lv_tableOut (tgt := 127) hx hb dX9_about_1 hq (by decide) ?_
  refine lv_aload_n hx hb dX9_about_127 rfl (lv_at hl 0 rfl) ?_
  refine lv_iload_n hx hb dX9_about_128 rfl (lv_at hl 1 rfl) ?_
  refine lv_bipush (v := 10) hx hb dX9_about_129 (by decide) ?_
  refine lv_isub hx hb dX9_about_131 ?_
  refine gw_calli (gw_runV (As := [.int (p1 - 10)]) (rest := []) ⟨hx, hb, hml, hown, hts⟩ (c_X9_isMarket l G cI cJ cZ cB cT m0 r (p1 - 10)  H.size) gX9_about_X9_isMarket rfl e_X9_isMarket ⟨Nat.le_of_ble_eq_true rfl, Nat.le_of_ble_eq_true rfl⟩ hK hP hD [0, 1] rfl (by decide) rfl 0 rfl rfl rfl hl.1 rfl (Nat.le_of_ble_eq_true rfl) dX9_about_132 ⟨Nat.le_of_ble_eq_true rfl, Nat.le_of_ble_eq_true rfl⟩) hP hD hS hA [0, 1] [] rfl rfl (by decide) (by decide) (fun r_11 u_11 H locs hw_11 hP hD hS => ?_)
  subst hw_11
  have hP : va_P G vwCl [(m0, .inr (9, [.ref (r 0), .ref (r 1), .ref (r 2), .int 0, .int (-1), .int (-1), .ref (r 6), .ref (r 7), .ref (r 8), .ref (r 9), .ref (r 10), .ref (r 11), .ref (r 12), .ref (r 13), .int 0, .int 0, .int 0, .int 0, .int 0, .int 0, .int 0, .int 0, .int 0, .ref (r 23), .ref (r 24), .int 0, .ref (r 26), .ref (r 27), .int 0, .int 0, .int 0, .ref (r 31), .ref (r 32), .ref (r 33), .ref (r 34), .ref (r 35), .int 0, .ref (r 37), .ref (r 38), .ref (r 39), .ref (r 40), .ref (r 41), .ref (r 42), .ref (r 43), .ref (r 44), .ref (r 45), .ref (r 46), .int 0, .ref (r 48), .ref (r 49), .ref (r 50), .ref (r 51), .long 0])), ((r 0), .inl (cI, 1990, .inl (upd (upd (fun _ => 0) 4 (-1)) 122 9)))] H := hP
  have hD : va_D A [(m0, .inr (9, [.ref (r 0), .ref (r 1), .ref (r 2), .int 0, .int (-1), .int (-1), .ref (r 6), .ref (r 7), .ref (r 8), .ref (r 9), .ref (r 10), .ref (r 11), .ref (r 12), .ref (r 13), .int 0, .int 0, .int 0, .int 0, .int 0, .int 0, .int 0, .int 0, .int 0, .ref (r 23), .ref (r 24), .int 0, .ref (r 26), .ref (r 27), .int 0, .int 0, .int 0, .ref (r 31), .ref (r 32), .ref (r 33), .ref (r 34), .ref (r 35), .int 0, .ref (r 37), .ref (r 38), .ref (r 39), .ref (r 40), .ref (r 41), .ref (r 42), .ref (r 43), .ref (r 44), .ref (r 45), .ref (r 46), .int 0, .ref (r 48), .ref (r 49), .ref (r 50), .ref (r 51), .long 0])), ((r 0), .inl (cI, 1990, .inl (upd (upd (fun _ => 0) 4 (-1)) 122 9)))] := hD
  refine lv_if_eq (tgt := 179) hx hb dX9_about_135 (by decide) (fun _ => ?_) (fun c => absurd (by decide) c)
  refine lv_iload_n hx hb dX9_about_179 rfl (lv_at hl 1 rfl) ?_
  refine lv_bipush (v := 20) hx hb dX9_about_180 (by decide) ?_
  refine lv_bipush (v := 25) hx hb dX9_about_182 (by decide) ?_
  refine gw_calli (gw_runS (As := [.int p1, .int 20, .int 25]) (rest := []) ⟨hx, hb, hml, hown, hts⟩ (c_X9_in l G cI cJ cZ cB cT p1 20 25  H.size) gX9_about_X9_in rfl e_X9_in ⟨Nat.le_of_ble_eq_true rfl, Nat.le_of_ble_eq_true rfl⟩ hK hP hD [] rfl (by decide) rfl rfl hl.1 rfl (Nat.le_of_ble_eq_true rfl) dX9_about_184 ⟨Nat.le_of_ble_eq_true rfl, Nat.le_of_ble_eq_true rfl⟩) hP hD hS hA [] [0, 1] rfl rfl (by decide) (by decide) (fun r_12 u_12 H locs hw_12 hP hD hS => ?_)
  subst hw_12
  have hP : va_P G vwCl [(m0, .inr (9, [.ref (r 0), .ref (r 1), .ref (r 2), .int 0, .int (-1), .int (-1), .ref (r 6), .ref (r 7), .ref (r 8), .ref (r 9), .ref (r 10), .ref (r 11), .ref (r 12), .ref (r 13), .int 0, .int 0, .int 0, .int 0, .int 0, .int 0, .int 0, .int 0, .int 0, .ref (r 23), .ref (r 24), .int 0, .ref (r 26), .ref (r 27), .int 0, .int 0, .int 0, .ref (r 31), .ref (r 32), .ref (r 33), .ref (r 34), .ref (r 35), .int 0, .ref (r 37), .ref (r 38), .ref (r 39), .ref (r 40), .ref (r 41), .ref (r 42), .ref (r 43), .ref (r 44), .ref (r 45), .ref (r 46), .int 0, .ref (r 48), .ref (r 49), .ref (r 50), .ref (r 51), .long 0])), ((r 0), .inl (cI, 1990, .inl (upd (upd (fun _ => 0) 4 (-1)) 122 9)))] H := hP
  have hD : va_D A [(m0, .inr (9, [.ref (r 0), .ref (r 1), .ref (r 2), .int 0, .int (-1), .int (-1), .ref (r 6), .ref (r 7), .ref (r 8), .ref (r 9), .ref (r 10), .ref (r 11), .ref (r 12), .ref (r 13), .int 0, .int 0, .int 0, .int 0, .int 0, .int 0, .int 0, .int 0, .int 0, .ref (r 23), .ref (r 24), .int 0, .ref (r 26), .ref (r 27), .int 0, .int 0, .int 0, .ref (r 31), .ref (r 32), .ref (r 33), .ref (r 34), .ref (r 35), .int 0, .ref (r 37), .ref (r 38), .ref (r 39), .ref (r 40), .ref (r 41), .ref (r 42), .ref (r 43), .ref (r 44), .ref (r 45), .ref (r 46), .int 0, .ref (r 48), .ref (r 49), .ref (r 50), .ref (r 51), .long 0])), ((r 0), .inl (cI, 1990, .inl (upd (upd (fun _ => 0) 4 (-1)) 122 9)))] := hD
  refine lv_if_eq (tgt := 201) hx hb dX9_about_187 (by decide) (fun c_13 => ?_) (fun c_13 => ?_)
  · refine lv_bipush (v := (-2)) hx hb dX9_about_201 (by decide) ?_
    exact gw_iret () hx hb hr hlocks (hP.sub [] rfl) (hD.sub [] (by decide) rfl) hS (by rw [v_X9_about, if_neg c_1, if_neg c_2, if_neg c_3, if_neg c_4, if_neg c_5, if_neg c_6, if_neg c_7, if_neg c_8, if_neg c_9, if_neg c_10, if_pos c_13]) dX9_about_203
  · refine lv_aload_n hx hb dX9_about_190 rfl (lv_at hl 0 rfl) ?_
    refine lv_iload_n hx hb dX9_about_191 rfl (lv_at hl 1 rfl) ?_
    refine lv_bipush (v := 20) hx hb dX9_about_192 (by decide) ?_
    refine lv_isub hx hb dX9_about_194 ?_
    refine gw_calli (gw_runV (As := [.int (p1 - 20)]) (rest := []) ⟨hx, hb, hml, hown, hts⟩ (c_X9_geeseOf l G cI cJ cZ cB cT m0 r (p1 - 20)  H.size) gX9_about_X9_geeseOf rfl e_X9_geeseOf ⟨Nat.le_of_ble_eq_true rfl, Nat.le_of_ble_eq_true rfl⟩ hK hP hD [0, 1] rfl (by decide) rfl 0 rfl rfl rfl hl.1 rfl (Nat.le_of_ble_eq_true rfl) dX9_about_195 ⟨Nat.le_of_ble_eq_true rfl, Nat.le_of_ble_eq_true rfl⟩) hP hD hS hA [0, 1] [] rfl rfl (by decide) (by decide) (fun r_14 u_14 H locs hw_14 hP hD hS => ?_)
    subst hw_14
    have hP : va_P G vwCl [(m0, .inr (9, [.ref (r 0), .ref (r 1), .ref (r 2), .int 0, .int (-1), .int (-1), .ref (r 6), .ref (r 7), .ref (r 8), .ref (r 9), .ref (r 10), .ref (r 11), .ref (r 12), .ref (r 13), .int 0, .int 0, .int 0, .int 0, .int 0, .int 0, .int 0, .int 0, .int 0, .ref (r 23), .ref (r 24), .int 0, .ref (r 26), .ref (r 27), .int 0, .int 0, .int 0, .ref (r 31), .ref (r 32), .ref (r 33), .ref (r 34), .ref (r 35), .int 0, .ref (r 37), .ref (r 38), .ref (r 39), .ref (r 40), .ref (r 41), .ref (r 42), .ref (r 43), .ref (r 44), .ref (r 45), .ref (r 46), .int 0, .ref (r 48), .ref (r 49), .ref (r 50), .ref (r 51), .long 0])), ((r 0), .inl (cI, 1990, .inl (upd (upd (fun _ => 0) 4 (-1)) 122 9)))] H := hP
    have hD : va_D A [(m0, .inr (9, [.ref (r 0), .ref (r 1), .ref (r 2), .int 0, .int (-1), .int (-1), .ref (r 6), .ref (r 7), .ref (r 8), .ref (r 9), .ref (r 10), .ref (r 11), .ref (r 12), .ref (r 13), .int 0, .int 0, .int 0, .int 0, .int 0, .int 0, .int 0, .int 0, .int 0, .ref (r 23), .ref (r 24), .int 0, .ref (r 26), .ref (r 27), .int 0, .int 0, .int 0, .ref (r 31), .ref (r 32), .ref (r 33), .ref (r 34), .ref (r 35), .int 0, .ref (r 37), .ref (r 38), .ref (r 39), .ref (r 40), .ref (r 41), .ref (r 42), .ref (r 43), .ref (r 44), .ref (r 45), .ref (r 46), .int 0, .ref (r 48), .ref (r 49), .ref (r 50), .ref (r 51), .long 0])), ((r 0), .inl (cI, 1990, .inl (upd (upd (fun _ => 0) 4 (-1)) 122 9)))] := hD
    refine lv_goto (tgt := 203) hx hb dX9_about_198 (by decide) ?_
    exact gw_iret () hx hb hr hlocks (hP.sub [] rfl) (hD.sub [] (by decide) rfl) hS (by rw [v_X9_about, if_neg c_1, if_neg c_2, if_neg c_3, if_neg c_4, if_neg c_5, if_neg c_6, if_neg c_7, if_neg c_8, if_neg c_9, if_neg c_10, if_neg c_13]) dX9_about_203
