def f_X4_hasGoose_23 (h : HS) (y0 : Int32) : Option (Int32 × HS) := (if y0 = 0 ∨ y0 = 1 then (some (y0, h)) else none)
def f_X4_hasGoose_22 (h : HS) : Option (Int32 × HS) := (f_X4_hasGoose_23 h 0)
def f_X4_hasGoose (h : HS) (p1 : Int32) : Option (Int32 × HS) := (if p1 < 0 then (f_X4_hasGoose_22 h) else (if (eI h 1 3) ≤ p1 then (f_X4_hasGoose_22 h) else (if 10 ≤ p1 then (f_X4_hasGoose_22 h) else (f_X4_hasGoose_23 h 1))))
set_option maxHeartbeats 4000000 in
set_option maxRecDepth 100000 in
theorem c_X4_hasGoose (l : Launch) (G : va_G) (cI cJ cZ cB cT : ClassId) (q : Nat → Nat) (h : HS) (p1 : Int32) (rr : Int32) (hh : HS) (hF : f_X4_hasGoose h p1 = some (rr, hh)) : gMi l yX4_hasGoose (gws yX4_hasGoose cX4_hasGoose 2 (some .boolean)) 1 G (gT cI cJ cZ cB cT) [.ref (q 1), .int p1] (wC q cI cJ cZ cB cT h) (fun x (_ : Unit) => x = rr) (fun (_ : Unit) => (wC q cI cJ cZ cB cT hh)) := by
  intro sz
  refine gM_start (y := yX4_hasGoose) (av := [.ref (q 1), .int p1]) (ws := (wC q cI cJ cZ cB cT h)) (Qf := fun A => va_Qi (fun x (_ : Unit) => x = rr) (gB G (fun (_ : Unit) => (wC q cI cJ cZ cB cT hh)) A) A) (cc := cX4_hasGoose) (maxL := 2) (ret := (some .boolean)) (by decide) (Nat.le_of_ble_eq_true rfl) ?_
  intro p e s m args below meth c A ls H hx hb hr hts hown hin hlocks hml hP hK hD hA hS hl hE
  have hl : lv_has ls 2 [(0, .ref (q 1)), (1, .int p1)] := hl
  have hJ_23 : ∀ (h : HS) (y0 : Int32), f_X4_hasGoose_23 h y0 = some (rr, hh) → ∀ (H : Heap) (locs : List Loc) (ls : Array Slot), va_P G vwCl (wC q cI cJ cZ cB cT h) H → va_D A (wC q cI cJ cZ cB cT h) → va_S A s.heap H locs → lv_has ls 2 [] → W p l e (gRm 1) s m args below meth c H locs 0 0 (MQ below (va_Qi (fun x (_ : Unit) => x = rr) (gB G (fun (_ : Unit) => (wC q cI cJ cZ cB cT hh)) A) A) args s 0 0 A) (F0 m 23 ls [.int y0]) := by
    intro h y0 hF H locs ls hP hD hS hl
    unfold f_X4_hasGoose_23 at hF
    obtain ⟨hz_4, hF⟩ := ob_if hF
    obtain ⟨rfl, rfl⟩ := ob_pair hF
    exact gw_zret () hx hb hr hlocks (gz hz_4) hP hD hS rfl dX4_hasGoose_23
  have hJ_22 : ∀ (h : HS), f_X4_hasGoose_22 h = some (rr, hh) → ∀ (H : Heap) (locs : List Loc) (ls : Array Slot), va_P G vwCl (wC q cI cJ cZ cB cT h) H → va_D A (wC q cI cJ cZ cB cT h) → va_S A s.heap H locs → lv_has ls 2 [] → W p l e (gRm 1) s m args below meth c H locs 0 0 (MQ below (va_Qi (fun x (_ : Unit) => x = rr) (gB G (fun (_ : Unit) => (wC q cI cJ cZ cB cT hh)) A) A) args s 0 0 A) (F0 m 22 ls []) := by
    intro h hF H locs ls hP hD hS hl
    unfold f_X4_hasGoose_22 at hF
    refine lv_iconst (v := 0) hx hb dX4_hasGoose_22 (by decide) ?_
    exact hJ_23 h 0 hF H _ ls hP hD hS (lv_sub hl [] rfl)
  unfold f_X4_hasGoose at hF
  refine lv_iload_n hx hb dX4_hasGoose_0 rfl (lv_at hl 1 rfl) ?_
  refine lv_if_lt (tgt := 22) hx hb dX4_hasGoose_1 (by decide) (fun c_1 => ?_) (fun c_1 => ?_)
  · have hF := ob_pos c_1 hF
    exact hJ_22 h hF H _ ls hP hD hS (lv_sub hl [] rfl)
  · have hF := ob_neg c_1 hF
    refine lv_iload_n hx hb dX4_hasGoose_4 rfl (lv_at hl 1 rfl) ?_
    refine lv_aload_n hx hb dX4_hasGoose_5 rfl (lv_at hl 0 rfl) ?_
    refine va_get (D := G) (ci := 4) (v := .int (eI h 1 3)) (C := RX4) (T := TX4) (N := 13) hx hb hts iX4 hown hK hP 1 wC_at1 rfl 3 (by decide) (hts _ m_0) (fun _ h9 => h9) rfl dX4_hasGoose_6 ?_
    refine lv_icmp_ge (tgt := 22) hx hb dX4_hasGoose_9 (by decide) (fun c_2 => ?_) (fun c_2 => ?_)
    · have hF := ob_pos c_2 hF
      exact hJ_22 h hF H _ ls hP hD hS (lv_sub hl [] rfl)
    · have hF := ob_neg c_2 hF
      refine lv_iload_n hx hb dX4_hasGoose_12 rfl (lv_at hl 1 rfl) ?_
      refine lv_bipush (v := 10) hx hb dX4_hasGoose_13 (by decide) ?_
      refine lv_icmp_ge (tgt := 22) hx hb dX4_hasGoose_15 (by decide) (fun c_3 => ?_) (fun c_3 => ?_)
      · have hF := ob_pos c_3 hF
        exact hJ_22 h hF H _ ls hP hD hS (lv_sub hl [] rfl)
      · have hF := ob_neg c_3 hF
        refine lv_iconst (v := 1) hx hb dX4_hasGoose_18 (by decide) ?_
        refine lv_goto (tgt := 23) hx hb dX4_hasGoose_19 (by decide) ?_
        exact hJ_23 h 1 hF H _ ls hP hD hS (lv_sub hl [] rfl)
def f_X4_hasMarket_22 (h : HS) (y0 : Int32) : Option (Int32 × HS) := (if y0 = 0 ∨ y0 = 1 then (some (y0, h)) else none)
def f_X4_hasMarket_21 (h : HS) : Option (Int32 × HS) := (f_X4_hasMarket_22 h 0)
def f_X4_hasMarket (h : HS) (p1 : Int32) : Option (Int32 × HS) := (if p1 < 0 then (f_X4_hasMarket_21 h) else (if (eI h 1 4) ≤ p1 then (f_X4_hasMarket_21 h) else (if 4 ≤ p1 then (f_X4_hasMarket_21 h) else (f_X4_hasMarket_22 h 1))))
set_option maxHeartbeats 4000000 in
set_option maxRecDepth 100000 in
theorem c_X4_hasMarket (l : Launch) (G : va_G) (cI cJ cZ cB cT : ClassId) (q : Nat → Nat) (h : HS) (p1 : Int32) (rr : Int32) (hh : HS) (hF : f_X4_hasMarket h p1 = some (rr, hh)) : gMi l yX4_hasMarket (gws yX4_hasMarket cX4_hasMarket 2 (some .boolean)) 1 G (gT cI cJ cZ cB cT) [.ref (q 1), .int p1] (wC q cI cJ cZ cB cT h) (fun x (_ : Unit) => x = rr) (fun (_ : Unit) => (wC q cI cJ cZ cB cT hh)) := by
  intro sz
  refine gM_start (y := yX4_hasMarket) (av := [.ref (q 1), .int p1]) (ws := (wC q cI cJ cZ cB cT h)) (Qf := fun A => va_Qi (fun x (_ : Unit) => x = rr) (gB G (fun (_ : Unit) => (wC q cI cJ cZ cB cT hh)) A) A) (cc := cX4_hasMarket) (maxL := 2) (ret := (some .boolean)) (by decide) (Nat.le_of_ble_eq_true rfl) ?_
  intro p e s m args below meth c A ls H hx hb hr hts hown hin hlocks hml hP hK hD hA hS hl hE
  have hl : lv_has ls 2 [(0, .ref (q 1)), (1, .int p1)] := hl
  have hJ_22 : ∀ (h : HS) (y0 : Int32), f_X4_hasMarket_22 h y0 = some (rr, hh) → ∀ (H : Heap) (locs : List Loc) (ls : Array Slot), va_P G vwCl (wC q cI cJ cZ cB cT h) H → va_D A (wC q cI cJ cZ cB cT h) → va_S A s.heap H locs → lv_has ls 2 [] → W p l e (gRm 1) s m args below meth c H locs 0 0 (MQ below (va_Qi (fun x (_ : Unit) => x = rr) (gB G (fun (_ : Unit) => (wC q cI cJ cZ cB cT hh)) A) A) args s 0 0 A) (F0 m 22 ls [.int y0]) := by
    intro h y0 hF H locs ls hP hD hS hl
    unfold f_X4_hasMarket_22 at hF
    obtain ⟨hz_4, hF⟩ := ob_if hF
    obtain ⟨rfl, rfl⟩ := ob_pair hF
    exact gw_zret () hx hb hr hlocks (gz hz_4) hP hD hS rfl dX4_hasMarket_22
  have hJ_21 : ∀ (h : HS), f_X4_hasMarket_21 h = some (rr, hh) → ∀ (H : Heap) (locs : List Loc) (ls : Array Slot), va_P G vwCl (wC q cI cJ cZ cB cT h) H → va_D A (wC q cI cJ cZ cB cT h) → va_S A s.heap H locs → lv_has ls 2 [] → W p l e (gRm 1) s m args below meth c H locs 0 0 (MQ below (va_Qi (fun x (_ : Unit) => x = rr) (gB G (fun (_ : Unit) => (wC q cI cJ cZ cB cT hh)) A) A) args s 0 0 A) (F0 m 21 ls []) := by
    intro h hF H locs ls hP hD hS hl
    unfold f_X4_hasMarket_21 at hF
    refine lv_iconst (v := 0) hx hb dX4_hasMarket_21 (by decide) ?_
    exact hJ_22 h 0 hF H _ ls hP hD hS (lv_sub hl [] rfl)
  unfold f_X4_hasMarket at hF
  refine lv_iload_n hx hb dX4_hasMarket_0 rfl (lv_at hl 1 rfl) ?_
  refine lv_if_lt (tgt := 21) hx hb dX4_hasMarket_1 (by decide) (fun c_1 => ?_) (fun c_1 => ?_)
  · have hF := ob_pos c_1 hF
    exact hJ_21 h hF H _ ls hP hD hS (lv_sub hl [] rfl)
  · have hF := ob_neg c_1 hF
    refine lv_iload_n hx hb dX4_hasMarket_4 rfl (lv_at hl 1 rfl) ?_
    refine lv_aload_n hx hb dX4_hasMarket_5 rfl (lv_at hl 0 rfl) ?_
    refine va_get (D := G) (ci := 4) (v := .int (eI h 1 4)) (C := RX4) (T := TX4) (N := 13) hx hb hts iX4 hown hK hP 1 wC_at1 rfl 4 (by decide) (hts _ m_1) (fun _ h9 => h9) rfl dX4_hasMarket_6 ?_
    refine lv_icmp_ge (tgt := 21) hx hb dX4_hasMarket_9 (by decide) (fun c_2 => ?_) (fun c_2 => ?_)
    · have hF := ob_pos c_2 hF
      exact hJ_21 h hF H _ ls hP hD hS (lv_sub hl [] rfl)
    · have hF := ob_neg c_2 hF
      refine lv_iload_n hx hb dX4_hasMarket_12 rfl (lv_at hl 1 rfl) ?_
      refine lv_iconst (v := 4) hx hb dX4_hasMarket_13 (by decide) ?_
      refine lv_icmp_ge (tgt := 21) hx hb dX4_hasMarket_14 (by decide) (fun c_3 => ?_) (fun c_3 => ?_)
      · have hF := ob_pos c_3 hF
        exact hJ_21 h hF H _ ls hP hD hS (lv_sub hl [] rfl)
      · have hF := ob_neg c_3 hF
        refine lv_iconst (v := 1) hx hb dX4_hasMarket_17 (by decide) ?_
        refine lv_goto (tgt := 22) hx hb dX4_hasMarket_18 (by decide) ?_
        exact hJ_22 h 1 hF H _ ls hP hD hS (lv_sub hl [] rfl)
def f_X4_ofGoose_28 (h : HS) : Option (Int32 × HS) := (some ((-1), h))
def f_X4_ofGoose (h : HS) (p1 : Int32) (p2 : Int32) : Option (Int32 × HS) := (if p1 < 0 then (f_X4_ofGoose_28 h) else (if (eI h 1 3) ≤ p1 then (f_X4_ofGoose_28 h) else (if 10 ≤ p1 then (f_X4_ofGoose_28 h) else (if p2 < 0 then (f_X4_ofGoose_28 h) else (if p2 < 9 then (if 0 ≤ (((p1 * 9) + p2)).toInt ∧ (((p1 * 9) + p2)).toInt < 90 then (some (((eA h 1 0) ((((p1 * 9) + p2)).toNatClampNeg)), h)) else none) else (f_X4_ofGoose_28 h))))))
set_option maxHeartbeats 4000000 in
set_option maxRecDepth 100000 in
theorem c_X4_ofGoose (l : Launch) (G : va_G) (cI cJ cZ cB cT : ClassId) (q : Nat → Nat) (h : HS) (p1 : Int32) (p2 : Int32) (rr : Int32) (hh : HS) (hF : f_X4_ofGoose h p1 p2 = some (rr, hh)) : gMi l yX4_ofGoose (gws yX4_ofGoose cX4_ofGoose 3 (some .int)) 1 G (gT cI cJ cZ cB cT) [.ref (q 1), .int p1, .int p2] (wC q cI cJ cZ cB cT h) (fun x (_ : Unit) => x = rr) (fun (_ : Unit) => (wC q cI cJ cZ cB cT hh)) := by
  intro sz
  refine gM_start (y := yX4_ofGoose) (av := [.ref (q 1), .int p1, .int p2]) (ws := (wC q cI cJ cZ cB cT h)) (Qf := fun A => va_Qi (fun x (_ : Unit) => x = rr) (gB G (fun (_ : Unit) => (wC q cI cJ cZ cB cT hh)) A) A) (cc := cX4_ofGoose) (maxL := 3) (ret := (some .int)) (by decide) (Nat.le_of_ble_eq_true rfl) ?_
  intro p e s m args below meth c A ls H hx hb hr hts hown hin hlocks hml hP hK hD hA hS hl hE
  have hl : lv_has ls 3 [(0, .ref (q 1)), (1, .int p1), (2, .int p2)] := hl
  have hJ_28 : ∀ (h : HS), f_X4_ofGoose_28 h = some (rr, hh) → ∀ (H : Heap) (locs : List Loc) (ls : Array Slot), va_P G vwCl (wC q cI cJ cZ cB cT h) H → va_D A (wC q cI cJ cZ cB cT h) → va_S A s.heap H locs → lv_has ls 3 [] → W p l e (gRm 1) s m args below meth c H locs 0 0 (MQ below (va_Qi (fun x (_ : Unit) => x = rr) (gB G (fun (_ : Unit) => (wC q cI cJ cZ cB cT hh)) A) A) args s 0 0 A) (F0 m 28 ls []) := by
    intro h hF H locs ls hP hD hS hl
    unfold f_X4_ofGoose_28 at hF
    refine lv_iconst (v := (-1)) hx hb dX4_ofGoose_28 (by decide) ?_
    obtain ⟨rfl, rfl⟩ := ob_pair hF
    exact gw_iret () hx hb hr hlocks hP hD hS rfl dX4_ofGoose_29
  unfold f_X4_ofGoose at hF
  refine lv_iload_n hx hb dX4_ofGoose_0 rfl (lv_at hl 1 rfl) ?_
  refine lv_if_lt (tgt := 28) hx hb dX4_ofGoose_1 (by decide) (fun c_1 => ?_) (fun c_1 => ?_)
  · have hF := ob_pos c_1 hF
    exact hJ_28 h hF H _ ls hP hD hS (lv_sub hl [] rfl)
  · have hF := ob_neg c_1 hF
    refine lv_iload_n hx hb dX4_ofGoose_4 rfl (lv_at hl 1 rfl) ?_
    refine lv_aload_n hx hb dX4_ofGoose_5 rfl (lv_at hl 0 rfl) ?_
    refine va_get (D := G) (ci := 4) (v := .int (eI h 1 3)) (C := RX4) (T := TX4) (N := 13) hx hb hts iX4 hown hK hP 1 wC_at1 rfl 3 (by decide) (hts _ m_0) (fun _ h9 => h9) rfl dX4_ofGoose_6 ?_
    refine lv_icmp_ge (tgt := 28) hx hb dX4_ofGoose_9 (by decide) (fun c_2 => ?_) (fun c_2 => ?_)
    · have hF := ob_pos c_2 hF
      exact hJ_28 h hF H _ ls hP hD hS (lv_sub hl [] rfl)
    · have hF := ob_neg c_2 hF
      refine lv_iload_n hx hb dX4_ofGoose_12 rfl (lv_at hl 1 rfl) ?_
      refine lv_bipush (v := 10) hx hb dX4_ofGoose_13 (by decide) ?_
      refine lv_icmp_ge (tgt := 28) hx hb dX4_ofGoose_15 (by decide) (fun c_3 => ?_) (fun c_3 => ?_)
      · have hF := ob_pos c_3 hF
        exact hJ_28 h hF H _ ls hP hD hS (lv_sub hl [] rfl)
      · have hF := ob_neg c_3 hF
        refine lv_iload_n hx hb dX4_ofGoose_18 rfl (lv_at hl 2 rfl) ?_
        refine lv_if_lt (tgt := 28) hx hb dX4_ofGoose_19 (by decide) (fun c_4 => ?_) (fun c_4 => ?_)
        · have hF := ob_pos c_4 hF
          exact hJ_28 h hF H _ ls hP hD hS (lv_sub hl [] rfl)
        · have hF := ob_neg c_4 hF
          refine lv_iload_n hx hb dX4_ofGoose_22 rfl (lv_at hl 2 rfl) ?_
          refine lv_bipush (v := 9) hx hb dX4_ofGoose_23 (by decide) ?_
          refine lv_icmp_lt (tgt := 30) hx hb dX4_ofGoose_25 (by decide) (fun c_5 => ?_) (fun c_5 => ?_)
          · have hF := ob_pos c_5 hF
            refine lv_aload_n hx hb dX4_ofGoose_30 rfl (lv_at hl 0 rfl) ?_
            refine va_get (D := G) (ci := 4) (v := .ref (q 2)) (C := RX4) (T := TX4) (N := 13) hx hb hts iX4 hown hK hP 1 wC_at1 rfl 0 (by decide) (hts _ m_2) (fun _ h9 => h9) rfl dX4_ofGoose_31 ?_
            refine lv_iload_n hx hb dX4_ofGoose_34 rfl (lv_at hl 1 rfl) ?_
            refine lv_bipush (v := 9) hx hb dX4_ofGoose_35 (by decide) ?_
            refine lv_imul hx hb dX4_ofGoose_37 ?_
            refine lv_iload_n hx hb dX4_ofGoose_38 rfl (lv_at hl 2 rfl) ?_
            refine lv_iadd hx hb dX4_ofGoose_39 ?_
            obtain ⟨hi_6, hF⟩ := ob_if hF
            refine va_iald (D := G) hx hb hK hP 2 0 wC_at2 rfl (vp_in_iff.mpr hi_6) dX4_ofGoose_40 ?_
            refine gw_topi (y := ((eA h 1 0) ((((p1 * 9) + p2)).toNatClampNeg))) rfl ?_
            obtain ⟨rfl, rfl⟩ := ob_pair hF
            exact gw_iret () hx hb hr hlocks hP hD hS rfl dX4_ofGoose_41
          · have hF := ob_neg c_5 hF
            exact hJ_28 h hF H _ ls hP hD hS (lv_sub hl [] rfl)
def f_X4_setGoose_30 (h : HS) : Option HS := (some h)
def f_X4_setGoose (h : HS) (p1 : Int32) (p2 : Int32) (p3 : Int32) : Option HS := (ob2 (f_X4_hasGoose h p1) (fun r_1 h_1 => (if r_1 = 0 then (f_X4_setGoose_30 h_1) else (if p2 < 0 then (f_X4_setGoose_30 h_1) else (if 9 ≤ p2 then (f_X4_setGoose_30 h_1) else (if 0 ≤ (((p1 * 9) + p2)).toInt ∧ (((p1 * 9) + p2)).toInt < 90 then (f_X4_setGoose_30 (sA h_1 1 0 (upd (eA h_1 1 0) ((((p1 * 9) + p2)).toNatClampNeg) p3))) else none))))))
theorem e_X4_hasGoose : yX4_hasGoose.cls = RX4 ∧ yX4_hasGoose.cls ≠ "java/lang/invoke/MethodHandle" ∧ yX4_hasGoose.cls ≠ "java/lang/invoke/VarHandle" ∧ (parseMethodDescriptor yX4_hasGoose.desc).map (fun d => d.parameters.length) = some 1 := by decide +kernel
set_option maxHeartbeats 4000000 in
set_option maxRecDepth 100000 in
theorem c_X4_setGoose (l : Launch) (G : va_G) (cI cJ cZ cB cT : ClassId) (q : Nat → Nat) (h : HS) (p1 : Int32) (p2 : Int32) (p3 : Int32) (hh : HS) (hF : f_X4_setGoose h p1 p2 p3 = some hh) : gMv l yX4_setGoose (gws yX4_setGoose cX4_setGoose 4 none) 2 G (gT cI cJ cZ cB cT) [.ref (q 1), .int p1, .int p2, .int p3] (wC q cI cJ cZ cB cT h) (fun (_ : Unit) => True) (fun (_ : Unit) => (wC q cI cJ cZ cB cT hh)) := by
  intro sz
  refine gM_start (y := yX4_setGoose) (av := [.ref (q 1), .int p1, .int p2, .int p3]) (ws := (wC q cI cJ cZ cB cT h)) (Qf := fun A => va_Qv (fun (_ : Unit) => True) (gB G (fun (_ : Unit) => (wC q cI cJ cZ cB cT hh)) A) A) (cc := cX4_setGoose) (maxL := 4) (ret := none) (by decide) (Nat.le_of_ble_eq_true rfl) ?_
  intro p e s m args below meth c A ls H hx hb hr hts hown hin hlocks hml hP hK hD hA hS hl hE
  have hl : lv_has ls 4 [(0, .ref (q 1)), (1, .int p1), (2, .int p2), (3, .int p3)] := hl
  have hJ_30 : ∀ (h : HS), f_X4_setGoose_30 h = some hh → ∀ (H : Heap) (locs : List Loc) (ls : Array Slot), va_P G vwCl (wC q cI cJ cZ cB cT h) H → va_D A (wC q cI cJ cZ cB cT h) → va_S A s.heap H locs → lv_has ls 4 [] → W p l e (gRm 2) s m args below meth c H locs 0 0 (MQ below (va_Qv (fun (_ : Unit) => True) (gB G (fun (_ : Unit) => (wC q cI cJ cZ cB cT hh)) A) A) args s 0 0 A) (F0 m 30 ls []) := by
    intro h hF H locs ls hP hD hS hl
    unfold f_X4_setGoose_30 at hF
    obtain rfl := ob_one hF
    exact gw_vret () hx hb hr hlocks hP hD hS trivial dX4_setGoose_30
  unfold f_X4_setGoose at hF
  refine lv_aload_n hx hb dX4_setGoose_0 rfl (lv_at hl 0 rfl) ?_
  refine lv_iload_n hx hb dX4_setGoose_1 rfl (lv_at hl 1 rfl) ?_
  obtain ⟨r_1, h_1, e_1, hF⟩ := ob2_some hF
  refine gx_calli (gx_runV (As := [.int p1]) (rest := []) ⟨hx, hb, hml, hown, hts⟩ (c_X4_hasGoose l G cI cJ cZ cB cT q h p1 r_1 h_1 e_1 H.size) (gG_V m_4 m_5 m_6 m_7 m_3) rfl e_X4_hasGoose ⟨Nat.le_of_ble_eq_true rfl, Nat.le_of_ble_eq_true rfl⟩ hK hP hD hE hS hA 1 wC_at1 rfl rfl hl.1 rfl (Nat.le_of_ble_eq_true rfl) dX4_setGoose_2 ⟨Nat.le_refl _, Nat.le_refl _⟩) hP hD hS hA (fun x_1 u_1 H locs hw_1 hP hD hS => ?_)
  subst x_1
  refine lv_if_eq (tgt := 30) hx hb dX4_setGoose_5 (by decide) (fun c_2 => ?_) (fun c_2 => ?_)
  · have hF := ob_pos c_2 hF
    exact hJ_30 h_1 hF H _ ls hP hD hS (lv_sub hl [] rfl)
  · have hF := ob_neg c_2 hF
    refine lv_iload_n hx hb dX4_setGoose_8 rfl (lv_at hl 2 rfl) ?_
    refine lv_if_lt (tgt := 30) hx hb dX4_setGoose_9 (by decide) (fun c_3 => ?_) (fun c_3 => ?_)
    · have hF := ob_pos c_3 hF
      exact hJ_30 h_1 hF H _ ls hP hD hS (lv_sub hl [] rfl)
    · have hF := ob_neg c_3 hF
      refine lv_iload_n hx hb dX4_setGoose_12 rfl (lv_at hl 2 rfl) ?_
      refine lv_bipush (v := 9) hx hb dX4_setGoose_13 (by decide) ?_
      refine lv_icmp_ge (tgt := 30) hx hb dX4_setGoose_15 (by decide) (fun c_4 => ?_) (fun c_4 => ?_)
      · have hF := ob_pos c_4 hF
        exact hJ_30 h_1 hF H _ ls hP hD hS (lv_sub hl [] rfl)
      · have hF := ob_neg c_4 hF
        refine lv_aload_n hx hb dX4_setGoose_18 rfl (lv_at hl 0 rfl) ?_
        refine va_get (D := G) (ci := 4) (v := .ref (q 2)) (C := RX4) (T := TX4) (N := 13) hx hb hts iX4 hown hK hP 1 wC_at1 rfl 0 (by decide) (hts _ m_2) (fun _ h9 => h9) rfl dX4_setGoose_19 ?_
        refine lv_iload_n hx hb dX4_setGoose_22 rfl (lv_at hl 1 rfl) ?_
        refine lv_bipush (v := 9) hx hb dX4_setGoose_23 (by decide) ?_
        refine lv_imul hx hb dX4_setGoose_25 ?_
        refine lv_iload_n hx hb dX4_setGoose_26 rfl (lv_at hl 2 rfl) ?_
        refine lv_iadd hx hb dX4_setGoose_27 ?_
        refine lv_iload_n hx hb dX4_setGoose_28 rfl (lv_at hl 3 rfl) ?_
        obtain ⟨hi_5, hF⟩ := ob_if hF
        refine va_iast (D := G) hx hb hK hP hD hS 2 0 wC_at2 rfl (vp_in_iff.mpr hi_5) dX4_setGoose_29 (fun H locs hP hD hS => ?_)
        rw [wC_sA2] at hP hD
        have hP : va_P G vwCl (wC q cI cJ cZ cB cT (sA h_1 1 0 (upd (eA h_1 1 0) ((((p1 * 9) + p2)).toNatClampNeg) p3))) H := hP
        have hD : va_D A (wC q cI cJ cZ cB cT (sA h_1 1 0 (upd (eA h_1 1 0) ((((p1 * 9) + p2)).toNatClampNeg) p3))) := hD
        exact hJ_30 (sA h_1 1 0 (upd (eA h_1 1 0) ((((p1 * 9) + p2)).toNatClampNeg) p3)) hF H _ ls hP hD hS (lv_sub hl [] rfl)
def f_X4_ofMarket_26 (h : HS) : Option (Int32 × HS) := (some (0, h))
def f_X4_ofMarket (h : HS) (p1 : Int32) (p2 : Int32) : Option (Int32 × HS) := (if p1 < 0 then (f_X4_ofMarket_26 h) else (if (eI h 1 4) ≤ p1 then (f_X4_ofMarket_26 h) else (if 4 ≤ p1 then (f_X4_ofMarket_26 h) else (if p2 < 0 then (f_X4_ofMarket_26 h) else (if p2 < 3 then (if 0 ≤ (((p1 * 3) + p2)).toInt ∧ (((p1 * 3) + p2)).toInt < 12 then (some (((eA h 1 1) ((((p1 * 3) + p2)).toNatClampNeg)), h)) else none) else (f_X4_ofMarket_26 h))))))
set_option maxHeartbeats 4000000 in
set_option maxRecDepth 100000 in
theorem c_X4_ofMarket (l : Launch) (G : va_G) (cI cJ cZ cB cT : ClassId) (q : Nat → Nat) (h : HS) (p1 : Int32) (p2 : Int32) (rr : Int32) (hh : HS) (hF : f_X4_ofMarket h p1 p2 = some (rr, hh)) : gMi l yX4_ofMarket (gws yX4_ofMarket cX4_ofMarket 3 (some .int)) 1 G (gT cI cJ cZ cB cT) [.ref (q 1), .int p1, .int p2] (wC q cI cJ cZ cB cT h) (fun x (_ : Unit) => x = rr) (fun (_ : Unit) => (wC q cI cJ cZ cB cT hh)) := by
  intro sz
  refine gM_start (y := yX4_ofMarket) (av := [.ref (q 1), .int p1, .int p2]) (ws := (wC q cI cJ cZ cB cT h)) (Qf := fun A => va_Qi (fun x (_ : Unit) => x = rr) (gB G (fun (_ : Unit) => (wC q cI cJ cZ cB cT hh)) A) A) (cc := cX4_ofMarket) (maxL := 3) (ret := (some .int)) (by decide) (Nat.le_of_ble_eq_true rfl) ?_
  intro p e s m args below meth c A ls H hx hb hr hts hown hin hlocks hml hP hK hD hA hS hl hE
  have hl : lv_has ls 3 [(0, .ref (q 1)), (1, .int p1), (2, .int p2)] := hl
  have hJ_26 : ∀ (h : HS), f_X4_ofMarket_26 h = some (rr, hh) → ∀ (H : Heap) (locs : List Loc) (ls : Array Slot), va_P G vwCl (wC q cI cJ cZ cB cT h) H → va_D A (wC q cI cJ cZ cB cT h) → va_S A s.heap H locs → lv_has ls 3 [] → W p l e (gRm 1) s m args below meth c H locs 0 0 (MQ below (va_Qi (fun x (_ : Unit) => x = rr) (gB G (fun (_ : Unit) => (wC q cI cJ cZ cB cT hh)) A) A) args s 0 0 A) (F0 m 26 ls []) := by
    intro h hF H locs ls hP hD hS hl
    unfold f_X4_ofMarket_26 at hF
    refine lv_iconst (v := 0) hx hb dX4_ofMarket_26 (by decide) ?_
    obtain ⟨rfl, rfl⟩ := ob_pair hF
    exact gw_iret () hx hb hr hlocks hP hD hS rfl dX4_ofMarket_27
  unfold f_X4_ofMarket at hF
  refine lv_iload_n hx hb dX4_ofMarket_0 rfl (lv_at hl 1 rfl) ?_
  refine lv_if_lt (tgt := 26) hx hb dX4_ofMarket_1 (by decide) (fun c_1 => ?_) (fun c_1 => ?_)
  · have hF := ob_pos c_1 hF
    exact hJ_26 h hF H _ ls hP hD hS (lv_sub hl [] rfl)
  · have hF := ob_neg c_1 hF
    refine lv_iload_n hx hb dX4_ofMarket_4 rfl (lv_at hl 1 rfl) ?_
    refine lv_aload_n hx hb dX4_ofMarket_5 rfl (lv_at hl 0 rfl) ?_
    refine va_get (D := G) (ci := 4) (v := .int (eI h 1 4)) (C := RX4) (T := TX4) (N := 13) hx hb hts iX4 hown hK hP 1 wC_at1 rfl 4 (by decide) (hts _ m_1) (fun _ h9 => h9) rfl dX4_ofMarket_6 ?_
    refine lv_icmp_ge (tgt := 26) hx hb dX4_ofMarket_9 (by decide) (fun c_2 => ?_) (fun c_2 => ?_)
    · have hF := ob_pos c_2 hF
      exact hJ_26 h hF H _ ls hP hD hS (lv_sub hl [] rfl)
    · have hF := ob_neg c_2 hF
      refine lv_iload_n hx hb dX4_ofMarket_12 rfl (lv_at hl 1 rfl) ?_
      refine lv_iconst (v := 4) hx hb dX4_ofMarket_13 (by decide) ?_
      refine lv_icmp_ge (tgt := 26) hx hb dX4_ofMarket_14 (by decide) (fun c_3 => ?_) (fun c_3 => ?_)
      · have hF := ob_pos c_3 hF
        exact hJ_26 h hF H _ ls hP hD hS (lv_sub hl [] rfl)
      · have hF := ob_neg c_3 hF
        refine lv_iload_n hx hb dX4_ofMarket_17 rfl (lv_at hl 2 rfl) ?_
        refine lv_if_lt (tgt := 26) hx hb dX4_ofMarket_18 (by decide) (fun c_4 => ?_) (fun c_4 => ?_)
        · have hF := ob_pos c_4 hF
          exact hJ_26 h hF H _ ls hP hD hS (lv_sub hl [] rfl)
        · have hF := ob_neg c_4 hF
          refine lv_iload_n hx hb dX4_ofMarket_21 rfl (lv_at hl 2 rfl) ?_
          refine lv_iconst (v := 3) hx hb dX4_ofMarket_22 (by decide) ?_
          refine lv_icmp_lt (tgt := 28) hx hb dX4_ofMarket_23 (by decide) (fun c_5 => ?_) (fun c_5 => ?_)
          · have hF := ob_pos c_5 hF
            refine lv_aload_n hx hb dX4_ofMarket_28 rfl (lv_at hl 0 rfl) ?_
            refine va_get (D := G) (ci := 4) (v := .ref (q 3)) (C := RX4) (T := TX4) (N := 13) hx hb hts iX4 hown hK hP 1 wC_at1 rfl 1 (by decide) (hts _ m_8) (fun _ h9 => h9) rfl dX4_ofMarket_29 ?_
            refine lv_iload_n hx hb dX4_ofMarket_32 rfl (lv_at hl 1 rfl) ?_
            refine lv_iconst (v := 3) hx hb dX4_ofMarket_33 (by decide) ?_
            refine lv_imul hx hb dX4_ofMarket_34 ?_
            refine lv_iload_n hx hb dX4_ofMarket_35 rfl (lv_at hl 2 rfl) ?_
            refine lv_iadd hx hb dX4_ofMarket_36 ?_
            obtain ⟨hi_6, hF⟩ := ob_if hF
            refine va_iald (D := G) hx hb hK hP 3 0 wC_at3 rfl (vp_in_iff.mpr hi_6) dX4_ofMarket_37 ?_
            refine gw_topi (y := ((eA h 1 1) ((((p1 * 3) + p2)).toNatClampNeg))) rfl ?_
            obtain ⟨rfl, rfl⟩ := ob_pair hF
            exact gw_iret () hx hb hr hlocks hP hD hS rfl dX4_ofMarket_38
          · have hF := ob_neg c_5 hF
            exact hJ_26 h hF H _ ls hP hD hS (lv_sub hl [] rfl)
def f_X4_addMarket (h : HS) (p1 : Int32) (p2 : Int32) (p3 : Int32) : Option (Int32 × HS) := (if (eI h 1 4) < 4 then (if 0 ≤ ((((eI h 1 4) * 3) + 0)).toInt ∧ ((((eI h 1 4) * 3) + 0)).toInt < 12 then (if 0 ≤ ((((eI h 1 4) * 3) + 1)).toInt ∧ ((((eI h 1 4) * 3) + 1)).toInt < 12 then (if 0 ≤ ((((eI h 1 4) * 3) + 2)).toInt ∧ ((((eI h 1 4) * 3) + 2)).toInt < 12 then (some ((((eI h 1 4) + 1) - 1), (sI (sA (sA (sA h 1 1 (upd (eA h 1 1) (((((eI h 1 4) * 3) + 0)).toNatClampNeg) p1)) 1 1 (upd (upd (eA h 1 1) (((((eI h 1 4) * 3) + 0)).toNatClampNeg) p1) (((((eI h 1 4) * 3) + 1)).toNatClampNeg) p2)) 1 1 (upd (upd (upd (eA h 1 1) (((((eI h 1 4) * 3) + 0)).toNatClampNeg) p1) (((((eI h 1 4) * 3) + 1)).toNatClampNeg) p2) (((((eI h 1 4) * 3) + 2)).toNatClampNeg) p3)) 1 4 ((eI h 1 4) + 1)))) else none) else none) else none) else (some ((-1), h)))
set_option maxHeartbeats 4000000 in
set_option maxRecDepth 100000 in
theorem c_X4_addMarket (l : Launch) (G : va_G) (cI cJ cZ cB cT : ClassId) (q : Nat → Nat) (h : HS) (p1 : Int32) (p2 : Int32) (p3 : Int32) (rr : Int32) (hh : HS) (hF : f_X4_addMarket h p1 p2 p3 = some (rr, hh)) : gMi l yX4_addMarket (gws yX4_addMarket cX4_addMarket 5 (some .int)) 1 G (gT cI cJ cZ cB cT) [.ref (q 1), .int p1, .int p2, .int p3] (wC q cI cJ cZ cB cT h) (fun x (_ : Unit) => x = rr) (fun (_ : Unit) => (wC q cI cJ cZ cB cT hh)) := by
  intro sz
  refine gM_start (y := yX4_addMarket) (av := [.ref (q 1), .int p1, .int p2, .int p3]) (ws := (wC q cI cJ cZ cB cT h)) (Qf := fun A => va_Qi (fun x (_ : Unit) => x = rr) (gB G (fun (_ : Unit) => (wC q cI cJ cZ cB cT hh)) A) A) (cc := cX4_addMarket) (maxL := 5) (ret := (some .int)) (by decide) (Nat.le_of_ble_eq_true rfl) ?_
  intro p e s m args below meth c A ls H hx hb hr hts hown hin hlocks hml hP hK hD hA hS hl hE
  have hl : lv_has ls 5 [(0, .ref (q 1)), (1, .int p1), (2, .int p2), (3, .int p3)] := hl
  unfold f_X4_addMarket at hF
  refine lv_aload_n hx hb dX4_addMarket_0 rfl (lv_at hl 0 rfl) ?_
  refine va_get (D := G) (ci := 4) (v := .int (eI h 1 4)) (C := RX4) (T := TX4) (N := 13) hx hb hts iX4 hown hK hP 1 wC_at1 rfl 4 (by decide) (hts _ m_1) (fun _ h9 => h9) rfl dX4_addMarket_1 ?_
  refine lv_iconst (v := 4) hx hb dX4_addMarket_4 (by decide) ?_
  refine lv_icmp_lt (tgt := 10) hx hb dX4_addMarket_5 (by decide) (fun c_1 => ?_) (fun c_1 => ?_)
  · have hF := ob_pos c_1 hF
    refine lv_aload_n hx hb dX4_addMarket_10 rfl (lv_at hl 0 rfl) ?_
    refine va_get (D := G) (ci := 4) (v := .int (eI h 1 4)) (C := RX4) (T := TX4) (N := 13) hx hb hts iX4 hown hK hP 1 wC_at1 rfl 4 (by decide) (hts _ m_1) (fun _ h9 => h9) rfl dX4_addMarket_11 ?_
    refine lv_iconst (v := 3) hx hb dX4_addMarket_14 (by decide) ?_
    refine lv_imul hx hb dX4_addMarket_15 ?_
    refine lv_istore (lv' := [(4, .int ((eI h 1 4) * 3)), (0, .ref (q 1)), (1, .int p1), (2, .int p2), (3, .int p3)]) hx hb dX4_addMarket_16 hl (by decide) rfl (fun ls hl => ?_)
    refine lv_aload_n hx hb dX4_addMarket_18 rfl (lv_at hl 1 rfl) ?_
    refine va_get (D := G) (ci := 4) (v := .ref (q 3)) (C := RX4) (T := TX4) (N := 13) hx hb hts iX4 hown hK hP 1 wC_at1 rfl 1 (by decide) (hts _ m_8) (fun _ h9 => h9) rfl dX4_addMarket_19 ?_
    refine lv_iload hx hb dX4_addMarket_22 (lv_at hl 0 rfl) ?_
    refine lv_iconst (v := 0) hx hb dX4_addMarket_24 (by decide) ?_
    refine lv_iadd hx hb dX4_addMarket_25 ?_
    refine lv_iload_n hx hb dX4_addMarket_26 rfl (lv_at hl 2 rfl) ?_
    obtain ⟨hi_2, hF⟩ := ob_if hF
    refine va_iast (D := G) hx hb hK hP hD hS 3 0 wC_at3 rfl (vp_in_iff.mpr hi_2) dX4_addMarket_27 (fun H locs hP hD hS => ?_)
    rw [wC_sA3] at hP hD
    have hP : va_P G vwCl (wC q cI cJ cZ cB cT (sA h 1 1 (upd (eA h 1 1) (((((eI h 1 4) * 3) + 0)).toNatClampNeg) p1))) H := hP
    have hD : va_D A (wC q cI cJ cZ cB cT (sA h 1 1 (upd (eA h 1 1) (((((eI h 1 4) * 3) + 0)).toNatClampNeg) p1))) := hD
    refine lv_aload_n hx hb dX4_addMarket_28 rfl (lv_at hl 1 rfl) ?_
    refine va_get (D := G) (ci := 4) (v := .ref (q 3)) (C := RX4) (T := TX4) (N := 13) hx hb hts iX4 hown hK hP 1 wC_at1 rfl 1 (by decide) (hts _ m_8) (fun _ h9 => h9) rfl dX4_addMarket_29 ?_
    refine lv_iload hx hb dX4_addMarket_32 (lv_at hl 0 rfl) ?_
    refine lv_iconst (v := 1) hx hb dX4_addMarket_34 (by decide) ?_
    refine lv_iadd hx hb dX4_addMarket_35 ?_
    refine lv_iload_n hx hb dX4_addMarket_36 rfl (lv_at hl 3 rfl) ?_
    obtain ⟨hi_3, hF⟩ := ob_if hF
    refine va_iast (D := G) hx hb hK hP hD hS 3 0 wC_at3 rfl (vp_in_iff.mpr hi_3) dX4_addMarket_37 (fun H locs hP hD hS => ?_)
    rw [wC_sA3] at hP hD
    have hP : va_P G vwCl (wC q cI cJ cZ cB cT (sA (sA h 1 1 (upd (eA h 1 1) (((((eI h 1 4) * 3) + 0)).toNatClampNeg) p1)) 1 1 (upd (upd (eA h 1 1) (((((eI h 1 4) * 3) + 0)).toNatClampNeg) p1) (((((eI h 1 4) * 3) + 1)).toNatClampNeg) p2))) H := hP
    have hD : va_D A (wC q cI cJ cZ cB cT (sA (sA h 1 1 (upd (eA h 1 1) (((((eI h 1 4) * 3) + 0)).toNatClampNeg) p1)) 1 1 (upd (upd (eA h 1 1) (((((eI h 1 4) * 3) + 0)).toNatClampNeg) p1) (((((eI h 1 4) * 3) + 1)).toNatClampNeg) p2))) := hD
    refine lv_aload_n hx hb dX4_addMarket_38 rfl (lv_at hl 1 rfl) ?_
    refine va_get (D := G) (ci := 4) (v := .ref (q 3)) (C := RX4) (T := TX4) (N := 13) hx hb hts iX4 hown hK hP 1 wC_at1 rfl 1 (by decide) (hts _ m_8) (fun _ h9 => h9) rfl dX4_addMarket_39 ?_
    refine lv_iload hx hb dX4_addMarket_42 (lv_at hl 0 rfl) ?_
    refine lv_iconst (v := 2) hx hb dX4_addMarket_44 (by decide) ?_
    refine lv_iadd hx hb dX4_addMarket_45 ?_
    refine lv_iload_n hx hb dX4_addMarket_46 rfl (lv_at hl 4 rfl) ?_
    obtain ⟨hi_4, hF⟩ := ob_if hF
    refine va_iast (D := G) hx hb hK hP hD hS 3 0 wC_at3 rfl (vp_in_iff.mpr hi_4) dX4_addMarket_47 (fun H locs hP hD hS => ?_)
    rw [wC_sA3] at hP hD
    have hP : va_P G vwCl (wC q cI cJ cZ cB cT (sA (sA (sA h 1 1 (upd (eA h 1 1) (((((eI h 1 4) * 3) + 0)).toNatClampNeg) p1)) 1 1 (upd (upd (eA h 1 1) (((((eI h 1 4) * 3) + 0)).toNatClampNeg) p1) (((((eI h 1 4) * 3) + 1)).toNatClampNeg) p2)) 1 1 (upd (upd (upd (eA h 1 1) (((((eI h 1 4) * 3) + 0)).toNatClampNeg) p1) (((((eI h 1 4) * 3) + 1)).toNatClampNeg) p2) (((((eI h 1 4) * 3) + 2)).toNatClampNeg) p3))) H := hP
    have hD : va_D A (wC q cI cJ cZ cB cT (sA (sA (sA h 1 1 (upd (eA h 1 1) (((((eI h 1 4) * 3) + 0)).toNatClampNeg) p1)) 1 1 (upd (upd (eA h 1 1) (((((eI h 1 4) * 3) + 0)).toNatClampNeg) p1) (((((eI h 1 4) * 3) + 1)).toNatClampNeg) p2)) 1 1 (upd (upd (upd (eA h 1 1) (((((eI h 1 4) * 3) + 0)).toNatClampNeg) p1) (((((eI h 1 4) * 3) + 1)).toNatClampNeg) p2) (((((eI h 1 4) * 3) + 2)).toNatClampNeg) p3))) := hD
    refine lv_aload_n hx hb dX4_addMarket_48 rfl (lv_at hl 1 rfl) ?_
    refine lv_dup hx hb dX4_addMarket_49 rfl ?_
    refine va_get (D := G) (ci := 4) (v := .int (eI h 1 4)) (C := RX4) (T := TX4) (N := 13) hx hb hts iX4 hown hK hP 1 wC_at1 rfl 4 (by decide) (hts _ m_1) (fun _ h9 => h9) rfl dX4_addMarket_50 ?_
    refine lv_iconst (v := 1) hx hb dX4_addMarket_53 (by decide) ?_
    refine lv_iadd hx hb dX4_addMarket_54 ?_
    refine va_put (D := G) (ci := 4) (v := .int ((eI h 1 4) + 1)) (ty := .int) (C := RX4) (T := TX4) (N := 13) hx hb hts iX4 tyX4 tyX4_ok nmX4 hown hK hP hD hS 1 wC_at1 rfl 4 (by decide) (hts _ m_1) (fun _ h9 => h9) rfl (tyX4_ok 4 (by decide)) rfl rfl (Nat.le_of_ble_eq_true rfl) dX4_addMarket_55 (fun H locs hP hD hS => ?_)
    rw [wC_sI1_4] at hP hD
    refine lv_aload_n hx hb dX4_addMarket_58 rfl (lv_at hl 1 rfl) ?_
    refine va_get (D := G) (ci := 4) (v := .int ((eI h 1 4) + 1)) (C := RX4) (T := TX4) (N := 13) hx hb hts iX4 hown hK hP 1 wC_at1 rfl 4 (by decide) (hts _ m_1) (fun _ h9 => h9) rfl dX4_addMarket_59 ?_
    refine lv_iconst (v := 1) hx hb dX4_addMarket_62 (by decide) ?_
    refine lv_isub hx hb dX4_addMarket_63 ?_
    obtain ⟨rfl, rfl⟩ := ob_pair hF
    exact gw_iret () hx hb hr hlocks hP hD hS rfl dX4_addMarket_64
  · have hF := ob_neg c_1 hF
    refine lv_iconst (v := (-1)) hx hb dX4_addMarket_8 (by decide) ?_
    obtain ⟨rfl, rfl⟩ := ob_pair hF
    exact gw_iret () hx hb hr hlocks hP hD hS rfl dX4_addMarket_9
def f_X4_addGoose (h : HS) (p1 : Int32) (p2 : Int32) : Option (Int32 × HS) := (if (eI h 1 3) < 10 then (ob1 (f_X4_setGoose (sI h 1 3 ((eI h 1 3) + 1)) (eI h 1 3) 0 p1) (fun h_2 => (ob1 (f_X4_setGoose h_2 (eI h 1 3) 1 p2) (fun h_3 => (ob1 (f_X4_setGoose h_3 (eI h 1 3) 2 (-1)) (fun h_4 => (ob1 (f_X4_setGoose h_4 (eI h 1 3) 3 (-1)) (fun h_5 => (ob1 (f_X4_setGoose h_5 (eI h 1 3) 4 0) (fun h_6 => (ob1 (f_X4_setGoose h_6 (eI h 1 3) 5 (-1)) (fun h_7 => (ob1 (f_X4_setGoose h_7 (eI h 1 3) 6 (-1)) (fun h_8 => (ob1 (f_X4_setGoose h_8 (eI h 1 3) 7 (-1)) (fun h_9 => (ob1 (f_X4_setGoose h_9 (eI h 1 3) 8 0) (fun h_10 => (some ((eI h 1 3), h_10)))))))))))))))))))) else (some ((-1), h)))
theorem e_X4_setGoose : yX4_setGoose.cls = RX4 ∧ yX4_setGoose.cls ≠ "java/lang/invoke/MethodHandle" ∧ yX4_setGoose.cls ≠ "java/lang/invoke/VarHandle" ∧ (parseMethodDescriptor yX4_setGoose.desc).map (fun d => d.parameters.length) = some 3 := by decide +kernel
set_option maxHeartbeats 4000000 in
set_option maxRecDepth 100000 in
theorem c_X4_addGoose (l : Launch) (G : va_G) (cI cJ cZ cB cT : ClassId) (q : Nat → Nat) (h : HS) (p1 : Int32) (p2 : Int32) (rr : Int32) (hh : HS) (hF : f_X4_addGoose h p1 p2 = some (rr, hh)) : gMi l yX4_addGoose (gws yX4_addGoose cX4_addGoose 4 (some .int)) 3 G (gT cI cJ cZ cB cT) [.ref (q 1), .int p1, .int p2] (wC q cI cJ cZ cB cT h) (fun x (_ : Unit) => x = rr) (fun (_ : Unit) => (wC q cI cJ cZ cB cT hh)) := by
  intro sz
  refine gM_start (y := yX4_addGoose) (av := [.ref (q 1), .int p1, .int p2]) (ws := (wC q cI cJ cZ cB cT h)) (Qf := fun A => va_Qi (fun x (_ : Unit) => x = rr) (gB G (fun (_ : Unit) => (wC q cI cJ cZ cB cT hh)) A) A) (cc := cX4_addGoose) (maxL := 4) (ret := (some .int)) (by decide) (Nat.le_of_ble_eq_true rfl) ?_
  intro p e s m args below meth c A ls H hx hb hr hts hown hin hlocks hml hP hK hD hA hS hl hE
  have hl : lv_has ls 4 [(0, .ref (q 1)), (1, .int p1), (2, .int p2)] := hl
  unfold f_X4_addGoose at hF
  refine lv_aload_n hx hb dX4_addGoose_0 rfl (lv_at hl 0 rfl) ?_
  refine va_get (D := G) (ci := 4) (v := .int (eI h 1 3)) (C := RX4) (T := TX4) (N := 13) hx hb hts iX4 hown hK hP 1 wC_at1 rfl 3 (by decide) (hts _ m_0) (fun _ h9 => h9) rfl dX4_addGoose_1 ?_
  refine lv_bipush (v := 10) hx hb dX4_addGoose_4 (by decide) ?_
  refine lv_icmp_lt (tgt := 11) hx hb dX4_addGoose_6 (by decide) (fun c_1 => ?_) (fun c_1 => ?_)
  · have hF := ob_pos c_1 hF
    refine lv_aload_n hx hb dX4_addGoose_11 rfl (lv_at hl 0 rfl) ?_
    refine va_get (D := G) (ci := 4) (v := .int (eI h 1 3)) (C := RX4) (T := TX4) (N := 13) hx hb hts iX4 hown hK hP 1 wC_at1 rfl 3 (by decide) (hts _ m_0) (fun _ h9 => h9) rfl dX4_addGoose_12 ?_
    refine lv_istore_n (lv' := [(3, .int (eI h 1 3)), (0, .ref (q 1)), (1, .int p1), (2, .int p2)]) hx hb dX4_addGoose_15 rfl hl (by decide) rfl (fun ls hl => ?_)
    refine lv_aload_n hx hb dX4_addGoose_16 rfl (lv_at hl 1 rfl) ?_
    refine lv_dup hx hb dX4_addGoose_17 rfl ?_
    refine va_get (D := G) (ci := 4) (v := .int (eI h 1 3)) (C := RX4) (T := TX4) (N := 13) hx hb hts iX4 hown hK hP 1 wC_at1 rfl 3 (by decide) (hts _ m_0) (fun _ h9 => h9) rfl dX4_addGoose_18 ?_
    refine lv_iconst (v := 1) hx hb dX4_addGoose_21 (by decide) ?_
    refine lv_iadd hx hb dX4_addGoose_22 ?_
    refine va_put (D := G) (ci := 4) (v := .int ((eI h 1 3) + 1)) (ty := .int) (C := RX4) (T := TX4) (N := 13) hx hb hts iX4 tyX4 tyX4_ok nmX4 hown hK hP hD hS 1 wC_at1 rfl 3 (by decide) (hts _ m_0) (fun _ h9 => h9) rfl (tyX4_ok 3 (by decide)) rfl rfl (Nat.le_of_ble_eq_true rfl) dX4_addGoose_23 (fun H locs hP hD hS => ?_)
    rw [wC_sI1_3] at hP hD
    refine lv_aload_n hx hb dX4_addGoose_26 rfl (lv_at hl 1 rfl) ?_
    refine lv_iload_n hx hb dX4_addGoose_27 rfl (lv_at hl 0 rfl) ?_
    refine lv_iconst (v := 0) hx hb dX4_addGoose_28 (by decide) ?_
    refine lv_iload_n hx hb dX4_addGoose_29 rfl (lv_at hl 2 rfl) ?_
    obtain ⟨h_2, e_2, hF⟩ := ob1_some hF
    refine gx_callv (gx_runV (As := [.int (eI h 1 3), .int 0, .int p1]) (rest := []) ⟨hx, hb, hml, hown, hts⟩ (c_X4_setGoose l G cI cJ cZ cB cT q (sI h 1 3 ((eI h 1 3) + 1)) (eI h 1 3) 0 p1 h_2 e_2 H.size) (gG_V m_10 m_11 m_12 m_7 m_9) rfl e_X4_setGoose ⟨Nat.le_of_ble_eq_true rfl, Nat.le_of_ble_eq_true rfl⟩ hK hP hD hE hS hA 1 wC_at1 rfl rfl hl.1 rfl (Nat.le_of_ble_eq_true rfl) dX4_addGoose_30 ⟨Nat.le_refl _, Nat.le_refl _⟩) hP hD hS hA (fun u_2 H locs hw_2 hP hD hS => ?_)
    refine lv_aload_n hx hb dX4_addGoose_33 rfl (lv_at hl 1 rfl) ?_
    refine lv_iload_n hx hb dX4_addGoose_34 rfl (lv_at hl 0 rfl) ?_
    refine lv_iconst (v := 1) hx hb dX4_addGoose_35 (by decide) ?_
    refine lv_iload_n hx hb dX4_addGoose_36 rfl (lv_at hl 3 rfl) ?_
    obtain ⟨h_3, e_3, hF⟩ := ob1_some hF
    refine gx_callv (gx_runV (As := [.int (eI h 1 3), .int 1, .int p2]) (rest := []) ⟨hx, hb, hml, hown, hts⟩ (c_X4_setGoose l G cI cJ cZ cB cT q h_2 (eI h 1 3) 1 p2 h_3 e_3 H.size) (gG_V m_10 m_11 m_12 m_7 m_9) rfl e_X4_setGoose ⟨Nat.le_of_ble_eq_true rfl, Nat.le_of_ble_eq_true rfl⟩ hK hP hD hE hS hA 1 wC_at1 rfl rfl hl.1 rfl (Nat.le_of_ble_eq_true rfl) dX4_addGoose_37 ⟨Nat.le_refl _, Nat.le_refl _⟩) hP hD hS hA (fun u_3 H locs hw_3 hP hD hS => ?_)
    refine lv_aload_n hx hb dX4_addGoose_40 rfl (lv_at hl 1 rfl) ?_
    refine lv_iload_n hx hb dX4_addGoose_41 rfl (lv_at hl 0 rfl) ?_
    refine lv_iconst (v := 2) hx hb dX4_addGoose_42 (by decide) ?_
    refine lv_iconst (v := (-1)) hx hb dX4_addGoose_43 (by decide) ?_
    obtain ⟨h_4, e_4, hF⟩ := ob1_some hF
    refine gx_callv (gx_runV (As := [.int (eI h 1 3), .int 2, .int (-1)]) (rest := []) ⟨hx, hb, hml, hown, hts⟩ (c_X4_setGoose l G cI cJ cZ cB cT q h_3 (eI h 1 3) 2 (-1) h_4 e_4 H.size) (gG_V m_10 m_11 m_12 m_7 m_9) rfl e_X4_setGoose ⟨Nat.le_of_ble_eq_true rfl, Nat.le_of_ble_eq_true rfl⟩ hK hP hD hE hS hA 1 wC_at1 rfl rfl hl.1 rfl (Nat.le_of_ble_eq_true rfl) dX4_addGoose_44 ⟨Nat.le_refl _, Nat.le_refl _⟩) hP hD hS hA (fun u_4 H locs hw_4 hP hD hS => ?_)
    refine lv_aload_n hx hb dX4_addGoose_47 rfl (lv_at hl 1 rfl) ?_
    refine lv_iload_n hx hb dX4_addGoose_48 rfl (lv_at hl 0 rfl) ?_
    refine lv_iconst (v := 3) hx hb dX4_addGoose_49 (by decide) ?_
    refine lv_iconst (v := (-1)) hx hb dX4_addGoose_50 (by decide) ?_
    obtain ⟨h_5, e_5, hF⟩ := ob1_some hF
    refine gx_callv (gx_runV (As := [.int (eI h 1 3), .int 3, .int (-1)]) (rest := []) ⟨hx, hb, hml, hown, hts⟩ (c_X4_setGoose l G cI cJ cZ cB cT q h_4 (eI h 1 3) 3 (-1) h_5 e_5 H.size) (gG_V m_10 m_11 m_12 m_7 m_9) rfl e_X4_setGoose ⟨Nat.le_of_ble_eq_true rfl, Nat.le_of_ble_eq_true rfl⟩ hK hP hD hE hS hA 1 wC_at1 rfl rfl hl.1 rfl (Nat.le_of_ble_eq_true rfl) dX4_addGoose_51 ⟨Nat.le_refl _, Nat.le_refl _⟩) hP hD hS hA (fun u_5 H locs hw_5 hP hD hS => ?_)
    refine lv_aload_n hx hb dX4_addGoose_54 rfl (lv_at hl 1 rfl) ?_
    refine lv_iload_n hx hb dX4_addGoose_55 rfl (lv_at hl 0 rfl) ?_
    refine lv_iconst (v := 4) hx hb dX4_addGoose_56 (by decide) ?_
    refine lv_iconst (v := 0) hx hb dX4_addGoose_57 (by decide) ?_
    obtain ⟨h_6, e_6, hF⟩ := ob1_some hF
    refine gx_callv (gx_runV (As := [.int (eI h 1 3), .int 4, .int 0]) (rest := []) ⟨hx, hb, hml, hown, hts⟩ (c_X4_setGoose l G cI cJ cZ cB cT q h_5 (eI h 1 3) 4 0 h_6 e_6 H.size) (gG_V m_10 m_11 m_12 m_7 m_9) rfl e_X4_setGoose ⟨Nat.le_of_ble_eq_true rfl, Nat.le_of_ble_eq_true rfl⟩ hK hP hD hE hS hA 1 wC_at1 rfl rfl hl.1 rfl (Nat.le_of_ble_eq_true rfl) dX4_addGoose_58 ⟨Nat.le_refl _, Nat.le_refl _⟩) hP hD hS hA (fun u_6 H locs hw_6 hP hD hS => ?_)
    refine lv_aload_n hx hb dX4_addGoose_61 rfl (lv_at hl 1 rfl) ?_
    refine lv_iload_n hx hb dX4_addGoose_62 rfl (lv_at hl 0 rfl) ?_
    refine lv_iconst (v := 5) hx hb dX4_addGoose_63 (by decide) ?_
    refine lv_iconst (v := (-1)) hx hb dX4_addGoose_64 (by decide) ?_
    obtain ⟨h_7, e_7, hF⟩ := ob1_some hF
    refine gx_callv (gx_runV (As := [.int (eI h 1 3), .int 5, .int (-1)]) (rest := []) ⟨hx, hb, hml, hown, hts⟩ (c_X4_setGoose l G cI cJ cZ cB cT q h_6 (eI h 1 3) 5 (-1) h_7 e_7 H.size) (gG_V m_10 m_11 m_12 m_7 m_9) rfl e_X4_setGoose ⟨Nat.le_of_ble_eq_true rfl, Nat.le_of_ble_eq_true rfl⟩ hK hP hD hE hS hA 1 wC_at1 rfl rfl hl.1 rfl (Nat.le_of_ble_eq_true rfl) dX4_addGoose_65 ⟨Nat.le_refl _, Nat.le_refl _⟩) hP hD hS hA (fun u_7 H locs hw_7 hP hD hS => ?_)
    refine lv_aload_n hx hb dX4_addGoose_68 rfl (lv_at hl 1 rfl) ?_
    refine lv_iload_n hx hb dX4_addGoose_69 rfl (lv_at hl 0 rfl) ?_
    refine lv_bipush (v := 6) hx hb dX4_addGoose_70 (by decide) ?_
    refine lv_iconst (v := (-1)) hx hb dX4_addGoose_72 (by decide) ?_
    obtain ⟨h_8, e_8, hF⟩ := ob1_some hF
    refine gx_callv (gx_runV (As := [.int (eI h 1 3), .int 6, .int (-1)]) (rest := []) ⟨hx, hb, hml, hown, hts⟩ (c_X4_setGoose l G cI cJ cZ cB cT q h_7 (eI h 1 3) 6 (-1) h_8 e_8 H.size) (gG_V m_10 m_11 m_12 m_7 m_9) rfl e_X4_setGoose ⟨Nat.le_of_ble_eq_true rfl, Nat.le_of_ble_eq_true rfl⟩ hK hP hD hE hS hA 1 wC_at1 rfl rfl hl.1 rfl (Nat.le_of_ble_eq_true rfl) dX4_addGoose_73 ⟨Nat.le_refl _, Nat.le_refl _⟩) hP hD hS hA (fun u_8 H locs hw_8 hP hD hS => ?_)
    refine lv_aload_n hx hb dX4_addGoose_76 rfl (lv_at hl 1 rfl) ?_
    refine lv_iload_n hx hb dX4_addGoose_77 rfl (lv_at hl 0 rfl) ?_
    refine lv_bipush (v := 7) hx hb dX4_addGoose_78 (by decide) ?_
    refine lv_iconst (v := (-1)) hx hb dX4_addGoose_80 (by decide) ?_
    obtain ⟨h_9, e_9, hF⟩ := ob1_some hF
    refine gx_callv (gx_runV (As := [.int (eI h 1 3), .int 7, .int (-1)]) (rest := []) ⟨hx, hb, hml, hown, hts⟩ (c_X4_setGoose l G cI cJ cZ cB cT q h_8 (eI h 1 3) 7 (-1) h_9 e_9 H.size) (gG_V m_10 m_11 m_12 m_7 m_9) rfl e_X4_setGoose ⟨Nat.le_of_ble_eq_true rfl, Nat.le_of_ble_eq_true rfl⟩ hK hP hD hE hS hA 1 wC_at1 rfl rfl hl.1 rfl (Nat.le_of_ble_eq_true rfl) dX4_addGoose_81 ⟨Nat.le_refl _, Nat.le_refl _⟩) hP hD hS hA (fun u_9 H locs hw_9 hP hD hS => ?_)
    refine lv_aload_n hx hb dX4_addGoose_84 rfl (lv_at hl 1 rfl) ?_
    refine lv_iload_n hx hb dX4_addGoose_85 rfl (lv_at hl 0 rfl) ?_
    refine lv_bipush (v := 8) hx hb dX4_addGoose_86 (by decide) ?_
    refine lv_iconst (v := 0) hx hb dX4_addGoose_88 (by decide) ?_
    obtain ⟨h_10, e_10, hF⟩ := ob1_some hF
    refine gx_callv (gx_runV (As := [.int (eI h 1 3), .int 8, .int 0]) (rest := []) ⟨hx, hb, hml, hown, hts⟩ (c_X4_setGoose l G cI cJ cZ cB cT q h_9 (eI h 1 3) 8 0 h_10 e_10 H.size) (gG_V m_10 m_11 m_12 m_7 m_9) rfl e_X4_setGoose ⟨Nat.le_of_ble_eq_true rfl, Nat.le_of_ble_eq_true rfl⟩ hK hP hD hE hS hA 1 wC_at1 rfl rfl hl.1 rfl (Nat.le_of_ble_eq_true rfl) dX4_addGoose_89 ⟨Nat.le_refl _, Nat.le_refl _⟩) hP hD hS hA (fun u_10 H locs hw_10 hP hD hS => ?_)
    refine lv_iload_n hx hb dX4_addGoose_92 rfl (lv_at hl 0 rfl) ?_
    obtain ⟨rfl, rfl⟩ := ob_pair hF
    exact gw_iret () hx hb hr hlocks hP hD hS rfl dX4_addGoose_93
  · have hF := ob_neg c_1 hF
    refine lv_iconst (v := (-1)) hx hb dX4_addGoose_9 (by decide) ?_
    obtain ⟨rfl, rfl⟩ := ob_pair hF
    exact gw_iret () hx hb hr hlocks hP hD hS rfl dX4_addGoose_10
def f_X4_isHome_14 (h : HS) (y0 : Int32) : Option (Int32 × HS) := (if y0 = 0 ∨ y0 = 1 then (some (y0, h)) else none)
def f_X4_isHome (h : HS) (p1 : Int32) : Option (Int32 × HS) := (ob2 (f_X4_ofGoose h p1 4) (fun r_1 h_1 => (if r_1 = 0 then (f_X4_isHome_14 h_1 1) else (f_X4_isHome_14 h_1 0))))
theorem e_X4_ofGoose : yX4_ofGoose.cls = RX4 ∧ yX4_ofGoose.cls ≠ "java/lang/invoke/MethodHandle" ∧ yX4_ofGoose.cls ≠ "java/lang/invoke/VarHandle" ∧ (parseMethodDescriptor yX4_ofGoose.desc).map (fun d => d.parameters.length) = some 2 := by decide +kernel
set_option maxHeartbeats 4000000 in
set_option maxRecDepth 100000 in
theorem c_X4_isHome (l : Launch) (G : va_G) (cI cJ cZ cB cT : ClassId) (q : Nat → Nat) (h : HS) (p1 : Int32) (rr : Int32) (hh : HS) (hF : f_X4_isHome h p1 = some (rr, hh)) : gMi l yX4_isHome (gws yX4_isHome cX4_isHome 2 (some .boolean)) 2 G (gT cI cJ cZ cB cT) [.ref (q 1), .int p1] (wC q cI cJ cZ cB cT h) (fun x (_ : Unit) => x = rr) (fun (_ : Unit) => (wC q cI cJ cZ cB cT hh)) := by
  intro sz
  refine gM_start (y := yX4_isHome) (av := [.ref (q 1), .int p1]) (ws := (wC q cI cJ cZ cB cT h)) (Qf := fun A => va_Qi (fun x (_ : Unit) => x = rr) (gB G (fun (_ : Unit) => (wC q cI cJ cZ cB cT hh)) A) A) (cc := cX4_isHome) (maxL := 2) (ret := (some .boolean)) (by decide) (Nat.le_of_ble_eq_true rfl) ?_
  intro p e s m args below meth c A ls H hx hb hr hts hown hin hlocks hml hP hK hD hA hS hl hE
  have hl : lv_has ls 2 [(0, .ref (q 1)), (1, .int p1)] := hl
  have hJ_14 : ∀ (h : HS) (y0 : Int32), f_X4_isHome_14 h y0 = some (rr, hh) → ∀ (H : Heap) (locs : List Loc) (ls : Array Slot), va_P G vwCl (wC q cI cJ cZ cB cT h) H → va_D A (wC q cI cJ cZ cB cT h) → va_S A s.heap H locs → lv_has ls 2 [] → W p l e (gRm 2) s m args below meth c H locs 0 0 (MQ below (va_Qi (fun x (_ : Unit) => x = rr) (gB G (fun (_ : Unit) => (wC q cI cJ cZ cB cT hh)) A) A) args s 0 0 A) (F0 m 14 ls [.int y0]) := by
    intro h y0 hF H locs ls hP hD hS hl
    unfold f_X4_isHome_14 at hF
    obtain ⟨hz_3, hF⟩ := ob_if hF
    obtain ⟨rfl, rfl⟩ := ob_pair hF
    exact gw_zret () hx hb hr hlocks (gz hz_3) hP hD hS rfl dX4_isHome_14
  unfold f_X4_isHome at hF
  refine lv_aload_n hx hb dX4_isHome_0 rfl (lv_at hl 0 rfl) ?_
  refine lv_iload_n hx hb dX4_isHome_1 rfl (lv_at hl 1 rfl) ?_
  refine lv_iconst (v := 4) hx hb dX4_isHome_2 (by decide) ?_
  obtain ⟨r_1, h_1, e_1, hF⟩ := ob2_some hF
  refine gx_calli (gx_runV (As := [.int p1, .int 4]) (rest := []) ⟨hx, hb, hml, hown, hts⟩ (c_X4_ofGoose l G cI cJ cZ cB cT q h p1 4 r_1 h_1 e_1 H.size) (gG_V m_14 m_15 m_16 m_7 m_13) rfl e_X4_ofGoose ⟨Nat.le_of_ble_eq_true rfl, Nat.le_of_ble_eq_true rfl⟩ hK hP hD hE hS hA 1 wC_at1 rfl rfl hl.1 rfl (Nat.le_of_ble_eq_true rfl) dX4_isHome_3 ⟨Nat.le_refl _, Nat.le_refl _⟩) hP hD hS hA (fun x_1 u_1 H locs hw_1 hP hD hS => ?_)
  subst x_1
  refine lv_if_ne (tgt := 13) hx hb dX4_isHome_6 (by decide) (fun c_2 => ?_) (fun c_2 => ?_)
  · have hF := ob_neg c_2 hF
    refine lv_iconst (v := 0) hx hb dX4_isHome_13 (by decide) ?_
    exact hJ_14 h_1 0 hF H _ ls hP hD hS (lv_sub hl [] rfl)
  · have hF := ob_pos c_2 hF
    refine lv_iconst (v := 1) hx hb dX4_isHome_9 (by decide) ?_
    refine lv_goto (tgt := 14) hx hb dX4_isHome_10 (by decide) ?_
    exact hJ_14 h_1 1 hF H _ ls hP hD hS (lv_sub hl [] rfl)
def f_X4_isFree_23 (h : HS) (y0 : Int32) : Option (Int32 × HS) := (if y0 = 0 ∨ y0 = 1 then (some (y0, h)) else none)
def f_X4_isFree_22 (h : HS) : Option (Int32 × HS) := (f_X4_isFree_23 h 0)
def f_X4_isFree (h : HS) (p1 : Int32) : Option (Int32 × HS) := (ob2 (f_X4_isHome h p1) (fun r_1 h_1 => (if r_1 = 0 then (f_X4_isFree_22 h_1) else (ob2 (f_X4_ofGoose h_1 p1 8) (fun r_3 h_3 => (if r_3 = 0 then (f_X4_isFree_23 h_3 1) else (f_X4_isFree_22 h_3)))))))
theorem e_X4_isHome : yX4_isHome.cls = RX4 ∧ yX4_isHome.cls ≠ "java/lang/invoke/MethodHandle" ∧ yX4_isHome.cls ≠ "java/lang/invoke/VarHandle" ∧ (parseMethodDescriptor yX4_isHome.desc).map (fun d => d.parameters.length) = some 1 := by decide +kernel
set_option maxHeartbeats 4000000 in
set_option maxRecDepth 100000 in
theorem c_X4_isFree (l : Launch) (G : va_G) (cI cJ cZ cB cT : ClassId) (q : Nat → Nat) (h : HS) (p1 : Int32) (rr : Int32) (hh : HS) (hF : f_X4_isFree h p1 = some (rr, hh)) : gMi l yX4_isFree (gws yX4_isFree cX4_isFree 2 (some .boolean)) 3 G (gT cI cJ cZ cB cT) [.ref (q 1), .int p1] (wC q cI cJ cZ cB cT h) (fun x (_ : Unit) => x = rr) (fun (_ : Unit) => (wC q cI cJ cZ cB cT hh)) := by
  intro sz
  refine gM_start (y := yX4_isFree) (av := [.ref (q 1), .int p1]) (ws := (wC q cI cJ cZ cB cT h)) (Qf := fun A => va_Qi (fun x (_ : Unit) => x = rr) (gB G (fun (_ : Unit) => (wC q cI cJ cZ cB cT hh)) A) A) (cc := cX4_isFree) (maxL := 2) (ret := (some .boolean)) (by decide) (Nat.le_of_ble_eq_true rfl) ?_
  intro p e s m args below meth c A ls H hx hb hr hts hown hin hlocks hml hP hK hD hA hS hl hE
  have hl : lv_has ls 2 [(0, .ref (q 1)), (1, .int p1)] := hl
  have hJ_23 : ∀ (h : HS) (y0 : Int32), f_X4_isFree_23 h y0 = some (rr, hh) → ∀ (H : Heap) (locs : List Loc) (ls : Array Slot), va_P G vwCl (wC q cI cJ cZ cB cT h) H → va_D A (wC q cI cJ cZ cB cT h) → va_S A s.heap H locs → lv_has ls 2 [] → W p l e (gRm 3) s m args below meth c H locs 0 0 (MQ below (va_Qi (fun x (_ : Unit) => x = rr) (gB G (fun (_ : Unit) => (wC q cI cJ cZ cB cT hh)) A) A) args s 0 0 A) (F0 m 23 ls [.int y0]) := by
    intro h y0 hF H locs ls hP hD hS hl
    unfold f_X4_isFree_23 at hF
    obtain ⟨hz_5, hF⟩ := ob_if hF
    obtain ⟨rfl, rfl⟩ := ob_pair hF
    exact gw_zret () hx hb hr hlocks (gz hz_5) hP hD hS rfl dX4_isFree_23
  have hJ_22 : ∀ (h : HS), f_X4_isFree_22 h = some (rr, hh) → ∀ (H : Heap) (locs : List Loc) (ls : Array Slot), va_P G vwCl (wC q cI cJ cZ cB cT h) H → va_D A (wC q cI cJ cZ cB cT h) → va_S A s.heap H locs → lv_has ls 2 [] → W p l e (gRm 3) s m args below meth c H locs 0 0 (MQ below (va_Qi (fun x (_ : Unit) => x = rr) (gB G (fun (_ : Unit) => (wC q cI cJ cZ cB cT hh)) A) A) args s 0 0 A) (F0 m 22 ls []) := by
    intro h hF H locs ls hP hD hS hl
    unfold f_X4_isFree_22 at hF
    refine lv_iconst (v := 0) hx hb dX4_isFree_22 (by decide) ?_
    exact hJ_23 h 0 hF H _ ls hP hD hS (lv_sub hl [] rfl)
  unfold f_X4_isFree at hF
  refine lv_aload_n hx hb dX4_isFree_0 rfl (lv_at hl 0 rfl) ?_
  refine lv_iload_n hx hb dX4_isFree_1 rfl (lv_at hl 1 rfl) ?_
  obtain ⟨r_1, h_1, e_1, hF⟩ := ob2_some hF
  refine gx_calli (gx_runV (As := [.int p1]) (rest := []) ⟨hx, hb, hml, hown, hts⟩ (c_X4_isHome l G cI cJ cZ cB cT q h p1 r_1 h_1 e_1 H.size) (gG_V m_18 m_19 m_20 m_7 m_17) rfl e_X4_isHome ⟨Nat.le_of_ble_eq_true rfl, Nat.le_of_ble_eq_true rfl⟩ hK hP hD hE hS hA 1 wC_at1 rfl rfl hl.1 rfl (Nat.le_of_ble_eq_true rfl) dX4_isFree_2 ⟨Nat.le_refl _, Nat.le_refl _⟩) hP hD hS hA (fun x_1 u_1 H locs hw_1 hP hD hS => ?_)
  subst x_1
  refine lv_if_eq (tgt := 22) hx hb dX4_isFree_5 (by decide) (fun c_2 => ?_) (fun c_2 => ?_)
  · have hF := ob_pos c_2 hF
    exact hJ_22 h_1 hF H _ ls hP hD hS (lv_sub hl [] rfl)
  · have hF := ob_neg c_2 hF
    refine lv_aload_n hx hb dX4_isFree_8 rfl (lv_at hl 0 rfl) ?_
    refine lv_iload_n hx hb dX4_isFree_9 rfl (lv_at hl 1 rfl) ?_
    refine lv_bipush (v := 8) hx hb dX4_isFree_10 (by decide) ?_
    obtain ⟨r_3, h_3, e_3, hF⟩ := ob2_some hF
    refine gx_calli (gx_runV (As := [.int p1, .int 8]) (rest := []) ⟨hx, hb, hml, hown, hts⟩ (c_X4_ofGoose l G cI cJ cZ cB cT q h_1 p1 8 r_3 h_3 e_3 H.size) (gG_V m_14 m_15 m_16 m_7 m_13) rfl e_X4_ofGoose ⟨Nat.le_of_ble_eq_true rfl, Nat.le_of_ble_eq_true rfl⟩ hK hP hD hE hS hA 1 wC_at1 rfl rfl hl.1 rfl (Nat.le_of_ble_eq_true rfl) dX4_isFree_12 ⟨Nat.le_refl _, Nat.le_refl _⟩) hP hD hS hA (fun x_3 u_3 H locs hw_3 hP hD hS => ?_)
    subst x_3
    refine lv_if_ne (tgt := 22) hx hb dX4_isFree_15 (by decide) (fun c_4 => ?_) (fun c_4 => ?_)
    · have hF := ob_neg c_4 hF
      exact hJ_22 h_3 hF H _ ls hP hD hS (lv_sub hl [] rfl)
    · have hF := ob_pos c_4 hF
      refine lv_iconst (v := 1) hx hb dX4_isFree_18 (by decide) ?_
      refine lv_goto (tgt := 23) hx hb dX4_isFree_19 (by decide) ?_
      exact hJ_23 h_3 1 hF H _ ls hP hD hS (lv_sub hl [] rfl)
def f_X4_settle (h : HS) (p1 : Int32) (p2 : Int32) : Option HS := (ob1 (f_X4_setGoose h p1 4 p2) (fun h_1 => (ob1 (f_X4_setGoose h_1 p1 7 (eI h_1 1 7)) (fun h_2 => (some h_2)))))
set_option maxHeartbeats 4000000 in
set_option maxRecDepth 100000 in
theorem c_X4_settle (l : Launch) (G : va_G) (cI cJ cZ cB cT : ClassId) (q : Nat → Nat) (h : HS) (p1 : Int32) (p2 : Int32) (hh : HS) (hF : f_X4_settle h p1 p2 = some hh) : gMv l yX4_settle (gws yX4_settle cX4_settle 3 none) 3 G (gT cI cJ cZ cB cT) [.ref (q 1), .int p1, .int p2] (wC q cI cJ cZ cB cT h) (fun (_ : Unit) => True) (fun (_ : Unit) => (wC q cI cJ cZ cB cT hh)) := by
  intro sz
  refine gM_start (y := yX4_settle) (av := [.ref (q 1), .int p1, .int p2]) (ws := (wC q cI cJ cZ cB cT h)) (Qf := fun A => va_Qv (fun (_ : Unit) => True) (gB G (fun (_ : Unit) => (wC q cI cJ cZ cB cT hh)) A) A) (cc := cX4_settle) (maxL := 3) (ret := none) (by decide) (Nat.le_of_ble_eq_true rfl) ?_
  intro p e s m args below meth c A ls H hx hb hr hts hown hin hlocks hml hP hK hD hA hS hl hE
  have hl : lv_has ls 3 [(0, .ref (q 1)), (1, .int p1), (2, .int p2)] := hl
  unfold f_X4_settle at hF
  refine lv_aload_n hx hb dX4_settle_0 rfl (lv_at hl 0 rfl) ?_
  refine lv_iload_n hx hb dX4_settle_1 rfl (lv_at hl 1 rfl) ?_
  refine lv_iconst (v := 4) hx hb dX4_settle_2 (by decide) ?_
  refine lv_iload_n hx hb dX4_settle_3 rfl (lv_at hl 2 rfl) ?_
  obtain ⟨h_1, e_1, hF⟩ := ob1_some hF
  refine gx_callv (gx_runV (As := [.int p1, .int 4, .int p2]) (rest := []) ⟨hx, hb, hml, hown, hts⟩ (c_X4_setGoose l G cI cJ cZ cB cT q h p1 4 p2 h_1 e_1 H.size) (gG_V m_10 m_11 m_12 m_7 m_9) rfl e_X4_setGoose ⟨Nat.le_of_ble_eq_true rfl, Nat.le_of_ble_eq_true rfl⟩ hK hP hD hE hS hA 1 wC_at1 rfl rfl hl.1 rfl (Nat.le_of_ble_eq_true rfl) dX4_settle_4 ⟨Nat.le_refl _, Nat.le_refl _⟩) hP hD hS hA (fun u_1 H locs hw_1 hP hD hS => ?_)
  refine lv_aload_n hx hb dX4_settle_7 rfl (lv_at hl 0 rfl) ?_
  refine lv_iload_n hx hb dX4_settle_8 rfl (lv_at hl 1 rfl) ?_
  refine lv_bipush (v := 7) hx hb dX4_settle_9 (by decide) ?_
  refine lv_aload_n hx hb dX4_settle_11 rfl (lv_at hl 0 rfl) ?_
  refine va_get (D := G) (ci := 4) (v := .int (eI h_1 1 7)) (C := RX4) (T := TX4) (N := 13) hx hb hts iX4 hown hK hP 1 wC_at1 rfl 7 (by decide) (hts _ m_21) (fun _ h9 => h9) rfl dX4_settle_12 ?_
  obtain ⟨h_2, e_2, hF⟩ := ob1_some hF
  refine gx_callv (gx_runV (As := [.int p1, .int 7, .int (eI h_1 1 7)]) (rest := []) ⟨hx, hb, hml, hown, hts⟩ (c_X4_setGoose l G cI cJ cZ cB cT q h_1 p1 7 (eI h_1 1 7) h_2 e_2 H.size) (gG_V m_10 m_11 m_12 m_7 m_9) rfl e_X4_setGoose ⟨Nat.le_of_ble_eq_true rfl, Nat.le_of_ble_eq_true rfl⟩ hK hP hD hE hS hA 1 wC_at1 rfl rfl hl.1 rfl (Nat.le_of_ble_eq_true rfl) dX4_settle_15 ⟨Nat.le_refl _, Nat.le_refl _⟩) hP hD hS hA (fun u_2 H locs hw_2 hP hD hS => ?_)
  obtain rfl := ob_one hF
  exact gw_vret () hx hb hr hlocks hP hD hS trivial dX4_settle_18
def f_X4_countFate_25 (k4 : HS → Int32 → Int32 → Int32 → Option (Int32 × HS)) (h : HS) (x1 : Int32) (x2 : Int32) (x3 : Int32) : Option (Int32 × HS) := (k4 h x1 x2 (x3 + 1))
def f_X4_countFate_4 : Nat → HS → Int32 → Int32 → Int32 → Option (Int32 × HS)
  | 0, _, _, _, _ => none
  | n + 1, h, x1, x2, x3 => (if (eI h 1 3) ≤ x3 then (some (x2, h)) else (ob2 (f_X4_ofGoose h x3 4) (fun r_2 h_2 => (if r_2 = x1 then (f_X4_countFate_25 (f_X4_countFate_4 n) h_2 x1 (x2 + 1) x3) else (f_X4_countFate_25 (f_X4_countFate_4 n) h_2 x1 x2 x3)))))
theorem f_X4_countFate_4_s (n : Nat) (h : HS) (x1 : Int32) (x2 : Int32) (x3 : Int32) : f_X4_countFate_4 (n + 1) h x1 x2 x3 = (if (eI h 1 3) ≤ x3 then (some (x2, h)) else (ob2 (f_X4_ofGoose h x3 4) (fun r_2 h_2 => (if r_2 = x1 then (f_X4_countFate_25 (f_X4_countFate_4 n) h_2 x1 (x2 + 1) x3) else (f_X4_countFate_25 (f_X4_countFate_4 n) h_2 x1 x2 x3))))) := rfl
def f_X4_countFate (h : HS) (p1 : Int32) : Option (Int32 × HS) := (f_X4_countFate_4 8589934592 h p1 0 0)
set_option maxHeartbeats 4000000 in
set_option maxRecDepth 100000 in
theorem c_X4_countFate (l : Launch) (G : va_G) (cI cJ cZ cB cT : ClassId) (q : Nat → Nat) (h : HS) (p1 : Int32) (rr : Int32) (hh : HS) (hF : f_X4_countFate h p1 = some (rr, hh)) : gMi l yX4_countFate (gws yX4_countFate cX4_countFate 4 (some .int)) 2 G (gT cI cJ cZ cB cT) [.ref (q 1), .int p1] (wC q cI cJ cZ cB cT h) (fun x (_ : Unit) => x = rr) (fun (_ : Unit) => (wC q cI cJ cZ cB cT hh)) := by
  intro sz
  refine gM_start (y := yX4_countFate) (av := [.ref (q 1), .int p1]) (ws := (wC q cI cJ cZ cB cT h)) (Qf := fun A => va_Qi (fun x (_ : Unit) => x = rr) (gB G (fun (_ : Unit) => (wC q cI cJ cZ cB cT hh)) A) A) (cc := cX4_countFate) (maxL := 4) (ret := (some .int)) (by decide) (Nat.le_of_ble_eq_true rfl) ?_
  intro p e s m args below meth c A ls H hx hb hr hts hown hin hlocks hml hP hK hD hA hS hl hE
  have hl : lv_has ls 4 [(0, .ref (q 1)), (1, .int p1)] := hl
  have hJ_4 : ∀ (n_4 : Nat) (h : HS) (x1 : Int32) (x2 : Int32) (x3 : Int32), f_X4_countFate_4 n_4 h x1 x2 x3 = some (rr, hh) → ∀ (H : Heap) (locs : List Loc) (ls : Array Slot), va_P G vwCl (wC q cI cJ cZ cB cT h) H → va_D A (wC q cI cJ cZ cB cT h) → va_S A s.heap H locs → lv_has ls 4 [(0, .ref (q 1)), (1, .int x1), (2, .int x2), (3, .int x3)] → W p l e (gRm 2) s m args below meth c H locs 0 0 (MQ below (va_Qi (fun x (_ : Unit) => x = rr) (gB G (fun (_ : Unit) => (wC q cI cJ cZ cB cT hh)) A) A) args s 0 0 A) (F0 m 4 ls []) := by
    intro n_4
    induction n_4 with
    | zero =>
      intro h x1 x2 x3 hF
      exact absurd hF (by simp [f_X4_countFate_4])
    | succ n_4 ih_4 =>
      have hJ_25 : ∀ (h : HS) (x1 : Int32) (x2 : Int32) (x3 : Int32), f_X4_countFate_25 (f_X4_countFate_4 n_4) h x1 x2 x3 = some (rr, hh) → ∀ (H : Heap) (locs : List Loc) (ls : Array Slot), va_P G vwCl (wC q cI cJ cZ cB cT h) H → va_D A (wC q cI cJ cZ cB cT h) → va_S A s.heap H locs → lv_has ls 4 [(0, .ref (q 1)), (1, .int x1), (2, .int x2), (3, .int x3)] → W p l e (gRm 2) s m args below meth c H locs 0 0 (MQ below (va_Qi (fun x (_ : Unit) => x = rr) (gB G (fun (_ : Unit) => (wC q cI cJ cZ cB cT hh)) A) A) args s 0 0 A) (F0 m 25 ls []) := by
        intro h x1 x2 x3 hF H locs ls hP hD hS hl
        unfold f_X4_countFate_25 at hF
        refine lv_iinc (v := (x3 + 1)) (lv' := [(3, .int (x3 + 1)), (0, .ref (q 1)), (1, .int x1), (2, .int x2)]) hx hb dX4_countFate_25 hl (k := 3) rfl rfl (by decide) rfl (fun ls hl => ?_)
        refine lv_goto (tgt := 4) hx hb dX4_countFate_28 (by decide) ?_
        exact ih_4 h x1 x2 (x3 + 1) hF H _ ls hP hD hS (lv_sub hl [1, 2, 3, 0] rfl)
      intro h x1 x2 x3 hF H locs ls hP hD hS hl
      rw [f_X4_countFate_4_s] at hF
      refine lv_iload_n hx hb dX4_countFate_4 rfl (lv_at hl 3 rfl) ?_
      refine lv_aload_n hx hb dX4_countFate_5 rfl (lv_at hl 0 rfl) ?_
      refine va_get (D := G) (ci := 4) (v := .int (eI h 1 3)) (C := RX4) (T := TX4) (N := 13) hx hb hts iX4 hown hK hP 1 wC_at1 rfl 3 (by decide) (hts _ m_0) (fun _ h9 => h9) rfl dX4_countFate_6 ?_
      refine lv_icmp_ge (tgt := 31) hx hb dX4_countFate_9 (by decide) (fun c_1 => ?_) (fun c_1 => ?_)
      · have hF := ob_pos c_1 hF
        refine lv_iload_n hx hb dX4_countFate_31 rfl (lv_at hl 2 rfl) ?_
        obtain ⟨rfl, rfl⟩ := ob_pair hF
        exact gw_iret () hx hb hr hlocks hP hD hS rfl dX4_countFate_32
      · have hF := ob_neg c_1 hF
        refine lv_aload_n hx hb dX4_countFate_12 rfl (lv_at hl 0 rfl) ?_
        refine lv_iload_n hx hb dX4_countFate_13 rfl (lv_at hl 3 rfl) ?_
        refine lv_iconst (v := 4) hx hb dX4_countFate_14 (by decide) ?_
        obtain ⟨r_2, h_2, e_2, hF⟩ := ob2_some hF
        refine gx_calli (gx_runV (As := [.int x3, .int 4]) (rest := []) ⟨hx, hb, hml, hown, hts⟩ (c_X4_ofGoose l G cI cJ cZ cB cT q h x3 4 r_2 h_2 e_2 H.size) (gG_V m_14 m_15 m_16 m_7 m_13) rfl e_X4_ofGoose ⟨Nat.le_of_ble_eq_true rfl, Nat.le_of_ble_eq_true rfl⟩ hK hP hD hE hS hA 1 wC_at1 rfl rfl hl.1 rfl (Nat.le_of_ble_eq_true rfl) dX4_countFate_15 ⟨Nat.le_refl _, Nat.le_refl _⟩) hP hD hS hA (fun x_2 u_2 H locs hw_2 hP hD hS => ?_)
        subst x_2
        refine lv_iload_n hx hb dX4_countFate_18 rfl (lv_at hl 1 rfl) ?_
        refine lv_icmp_ne (tgt := 25) hx hb dX4_countFate_19 (by decide) (fun c_3 => ?_) (fun c_3 => ?_)
        · have hF := ob_neg c_3 hF
          exact hJ_25 h_2 x1 x2 x3 hF H _ ls hP hD hS (lv_sub hl [0, 1, 2, 3] rfl)
        · have hF := ob_pos c_3 hF
          refine lv_iinc (v := (x2 + 1)) (lv' := [(2, .int (x2 + 1)), (0, .ref (q 1)), (1, .int x1), (3, .int x3)]) hx hb dX4_countFate_22 hl (k := 2) rfl rfl (by decide) rfl (fun ls hl => ?_)
          exact hJ_25 h_2 x1 (x2 + 1) x3 hF H _ ls hP hD hS (lv_sub hl [1, 2, 0, 3] rfl)
  unfold f_X4_countFate at hF
  refine lv_iconst (v := 0) hx hb dX4_countFate_0 (by decide) ?_
  refine lv_istore_n (lv' := [(2, .int 0), (0, .ref (q 1)), (1, .int p1)]) hx hb dX4_countFate_1 rfl hl (by decide) rfl (fun ls hl => ?_)
  refine lv_iconst (v := 0) hx hb dX4_countFate_2 (by decide) ?_
  refine lv_istore_n (lv' := [(3, .int 0), (2, .int 0), (0, .ref (q 1)), (1, .int p1)]) hx hb dX4_countFate_3 rfl hl (by decide) rfl (fun ls hl => ?_)
  exact hJ_4 8589934592 h p1 0 0 hF H _ ls hP hD hS (lv_sub hl [2, 3, 1, 0] rfl)
def f_X4_dailyNeed (h : HS) : Option (Int32 × HS) := (ob2 (f_X4_countFate h 0) (fun r_1 h_1 => (some (((eI h 1 6) + r_1), h_1))))
theorem e_X4_countFate : yX4_countFate.cls = RX4 ∧ yX4_countFate.cls ≠ "java/lang/invoke/MethodHandle" ∧ yX4_countFate.cls ≠ "java/lang/invoke/VarHandle" ∧ (parseMethodDescriptor yX4_countFate.desc).map (fun d => d.parameters.length) = some 1 := by decide +kernel
set_option maxHeartbeats 4000000 in
set_option maxRecDepth 100000 in
theorem c_X4_dailyNeed (l : Launch) (G : va_G) (cI cJ cZ cB cT : ClassId) (q : Nat → Nat) (h : HS)  (rr : Int32) (hh : HS) (hF : f_X4_dailyNeed h = some (rr, hh)) : gMi l yX4_dailyNeed (gws yX4_dailyNeed cX4_dailyNeed 1 (some .int)) 3 G (gT cI cJ cZ cB cT) [.ref (q 1)] (wC q cI cJ cZ cB cT h) (fun x (_ : Unit) => x = rr) (fun (_ : Unit) => (wC q cI cJ cZ cB cT hh)) := by
  intro sz
  refine gM_start (y := yX4_dailyNeed) (av := [.ref (q 1)]) (ws := (wC q cI cJ cZ cB cT h)) (Qf := fun A => va_Qi (fun x (_ : Unit) => x = rr) (gB G (fun (_ : Unit) => (wC q cI cJ cZ cB cT hh)) A) A) (cc := cX4_dailyNeed) (maxL := 1) (ret := (some .int)) (by decide) (Nat.le_of_ble_eq_true rfl) ?_
  intro p e s m args below meth c A ls H hx hb hr hts hown hin hlocks hml hP hK hD hA hS hl hE
  have hl : lv_has ls 1 [(0, .ref (q 1))] := hl
  unfold f_X4_dailyNeed at hF
  refine lv_aload_n hx hb dX4_dailyNeed_0 rfl (lv_at hl 0 rfl) ?_
  refine va_get (D := G) (ci := 4) (v := .int (eI h 1 6)) (C := RX4) (T := TX4) (N := 13) hx hb hts iX4 hown hK hP 1 wC_at1 rfl 6 (by decide) (hts _ m_22) (fun _ h9 => h9) rfl dX4_dailyNeed_1 ?_
  refine lv_aload_n hx hb dX4_dailyNeed_4 rfl (lv_at hl 0 rfl) ?_
  refine lv_iconst (v := 0) hx hb dX4_dailyNeed_5 (by decide) ?_
  obtain ⟨r_1, h_1, e_1, hF⟩ := ob2_some hF
  refine gx_calli (gx_runV (As := [.int 0]) (rest := [.int (eI h 1 6)]) ⟨hx, hb, hml, hown, hts⟩ (c_X4_countFate l G cI cJ cZ cB cT q h 0 r_1 h_1 e_1 H.size) (gG_V m_24 m_25 m_26 m_7 m_23) rfl e_X4_countFate ⟨Nat.le_of_ble_eq_true rfl, Nat.le_of_ble_eq_true rfl⟩ hK hP hD hE hS hA 1 wC_at1 rfl rfl hl.1 rfl (Nat.le_of_ble_eq_true rfl) dX4_dailyNeed_6 ⟨Nat.le_refl _, Nat.le_refl _⟩) hP hD hS hA (fun x_1 u_1 H locs hw_1 hP hD hS => ?_)
  subst x_1
  refine lv_iadd hx hb dX4_dailyNeed_9 ?_
  obtain ⟨rfl, rfl⟩ := ob_pair hF
  exact gw_iret () hx hb hr hlocks hP hD hS rfl dX4_dailyNeed_10
def f_X4_eatDaily_31 : Nat → HS → Int32 → Option HS
  | 0, _, _ => none
  | n + 1, h, x2 => (if (eI h 1 3) ≤ x2 then (some h) else (ob2 (f_X4_isFree h x2) (fun r_4 h_4 => (if r_4 = 0 then ((f_X4_eatDaily_31 n) h_4 (x2 + 1)) else (ob1 (f_X4_settle h_4 x2 5) (fun h_6 => (ob2 (f_X4_ofGoose h_6 x2 0) (fun r_7 h_7 => (some (sI h_7 1 5 r_7))))))))))
theorem f_X4_eatDaily_31_s (n : Nat) (h : HS) (x2 : Int32) : f_X4_eatDaily_31 (n + 1) h x2 = (if (eI h 1 3) ≤ x2 then (some h) else (ob2 (f_X4_isFree h x2) (fun r_4 h_4 => (if r_4 = 0 then ((f_X4_eatDaily_31 n) h_4 (x2 + 1)) else (ob1 (f_X4_settle h_4 x2 5) (fun h_6 => (ob2 (f_X4_ofGoose h_6 x2 0) (fun r_7 h_7 => (some (sI h_7 1 5 r_7)))))))))) := rfl
def f_X4_eatDaily (h : HS) : Option HS := (ob2 (f_X4_dailyNeed h) (fun r_1 h_1 => (if (eI h_1 1 5) < r_1 then (f_X4_eatDaily_31 8589934592 (sI h_1 1 5 0) 0) else (some (sI h_1 1 5 ((eI h_1 1 5) - r_1))))))
theorem e_X4_dailyNeed : yX4_dailyNeed.cls = RX4 ∧ yX4_dailyNeed.cls ≠ "java/lang/invoke/MethodHandle" ∧ yX4_dailyNeed.cls ≠ "java/lang/invoke/VarHandle" ∧ (parseMethodDescriptor yX4_dailyNeed.desc).map (fun d => d.parameters.length) = some 0 := by decide +kernel
theorem e_X4_isFree : yX4_isFree.cls = RX4 ∧ yX4_isFree.cls ≠ "java/lang/invoke/MethodHandle" ∧ yX4_isFree.cls ≠ "java/lang/invoke/VarHandle" ∧ (parseMethodDescriptor yX4_isFree.desc).map (fun d => d.parameters.length) = some 1 := by decide +kernel
theorem e_X4_settle : yX4_settle.cls = RX4 ∧ yX4_settle.cls ≠ "java/lang/invoke/MethodHandle" ∧ yX4_settle.cls ≠ "java/lang/invoke/VarHandle" ∧ (parseMethodDescriptor yX4_settle.desc).map (fun d => d.parameters.length) = some 2 := by decide +kernel
set_option maxHeartbeats 4000000 in
set_option maxRecDepth 100000 in
theorem c_X4_eatDaily (l : Launch) (G : va_G) (cI cJ cZ cB cT : ClassId) (q : Nat → Nat) (h : HS)  (hh : HS) (hF : f_X4_eatDaily h = some hh) : gMv l yX4_eatDaily (gws yX4_eatDaily cX4_eatDaily 3 none) 4 G (gT cI cJ cZ cB cT) [.ref (q 1)] (wC q cI cJ cZ cB cT h) (fun (_ : Unit) => True) (fun (_ : Unit) => (wC q cI cJ cZ cB cT hh)) := by
  intro sz
  refine gM_start (y := yX4_eatDaily) (av := [.ref (q 1)]) (ws := (wC q cI cJ cZ cB cT h)) (Qf := fun A => va_Qv (fun (_ : Unit) => True) (gB G (fun (_ : Unit) => (wC q cI cJ cZ cB cT hh)) A) A) (cc := cX4_eatDaily) (maxL := 3) (ret := none) (by decide) (Nat.le_of_ble_eq_true rfl) ?_
  intro p e s m args below meth c A ls H hx hb hr hts hown hin hlocks hml hP hK hD hA hS hl hE
  have hl : lv_has ls 3 [(0, .ref (q 1))] := hl
  have hJ_31 : ∀ (n_31 : Nat) (h : HS) (x2 : Int32), f_X4_eatDaily_31 n_31 h x2 = some hh → ∀ (H : Heap) (locs : List Loc) (ls : Array Slot), va_P G vwCl (wC q cI cJ cZ cB cT h) H → va_D A (wC q cI cJ cZ cB cT h) → va_S A s.heap H locs → lv_has ls 3 [(0, .ref (q 1)), (2, .int x2)] → W p l e (gRm 4) s m args below meth c H locs 0 0 (MQ below (va_Qv (fun (_ : Unit) => True) (gB G (fun (_ : Unit) => (wC q cI cJ cZ cB cT hh)) A) A) args s 0 0 A) (F0 m 31 ls []) := by
    intro n_31
    induction n_31 with
    | zero =>
      intro h x2 hF
      exact absurd hF (by simp [f_X4_eatDaily_31])
    | succ n_31 ih_31 =>
      intro h x2 hF H locs ls hP hD hS hl
      rw [f_X4_eatDaily_31_s] at hF
      refine lv_iload_n hx hb dX4_eatDaily_31 rfl (lv_at hl 1 rfl) ?_
      refine lv_aload_n hx hb dX4_eatDaily_32 rfl (lv_at hl 0 rfl) ?_
      refine va_get (D := G) (ci := 4) (v := .int (eI h 1 3)) (C := RX4) (T := TX4) (N := 13) hx hb hts iX4 hown hK hP 1 wC_at1 rfl 3 (by decide) (hts _ m_0) (fun _ h9 => h9) rfl dX4_eatDaily_33 ?_
      refine lv_icmp_ge (tgt := 70) hx hb dX4_eatDaily_36 (by decide) (fun c_3 => ?_) (fun c_3 => ?_)
      · have hF := ob_pos c_3 hF
        obtain rfl := ob_one hF
        exact gw_vret () hx hb hr hlocks hP hD hS trivial dX4_eatDaily_70
      · have hF := ob_neg c_3 hF
        refine lv_aload_n hx hb dX4_eatDaily_39 rfl (lv_at hl 0 rfl) ?_
        refine lv_iload_n hx hb dX4_eatDaily_40 rfl (lv_at hl 1 rfl) ?_
        obtain ⟨r_4, h_4, e_4, hF⟩ := ob2_some hF
        refine gx_calli (gx_runV (As := [.int x2]) (rest := []) ⟨hx, hb, hml, hown, hts⟩ (c_X4_isFree l G cI cJ cZ cB cT q h x2 r_4 h_4 e_4 H.size) (gG_V m_33 m_34 m_35 m_7 m_32) rfl e_X4_isFree ⟨Nat.le_of_ble_eq_true rfl, Nat.le_of_ble_eq_true rfl⟩ hK hP hD hE hS hA 1 wC_at1 rfl rfl hl.1 rfl (Nat.le_of_ble_eq_true rfl) dX4_eatDaily_41 ⟨Nat.le_refl _, Nat.le_refl _⟩) hP hD hS hA (fun x_4 u_4 H locs hw_4 hP hD hS => ?_)
        subst x_4
        refine lv_if_eq (tgt := 64) hx hb dX4_eatDaily_44 (by decide) (fun c_5 => ?_) (fun c_5 => ?_)
        · have hF := ob_pos c_5 hF
          refine lv_iinc (v := (x2 + 1)) (lv' := [(2, .int (x2 + 1)), (0, .ref (q 1))]) hx hb dX4_eatDaily_64 hl (k := 1) rfl rfl (by decide) rfl (fun ls hl => ?_)
          refine lv_goto (tgt := 31) hx hb dX4_eatDaily_67 (by decide) ?_
          exact ih_31 h_4 (x2 + 1) hF H _ ls hP hD hS (lv_sub hl [1, 0] rfl)
        · have hF := ob_neg c_5 hF
          refine lv_aload_n hx hb dX4_eatDaily_47 rfl (lv_at hl 0 rfl) ?_
          refine lv_iload_n hx hb dX4_eatDaily_48 rfl (lv_at hl 1 rfl) ?_
          refine lv_iconst (v := 5) hx hb dX4_eatDaily_49 (by decide) ?_
          obtain ⟨h_6, e_6, hF⟩ := ob1_some hF
          refine gx_callv (gx_runV (As := [.int x2, .int 5]) (rest := []) ⟨hx, hb, hml, hown, hts⟩ (c_X4_settle l G cI cJ cZ cB cT q h_4 x2 5 h_6 e_6 H.size) (gG_V m_37 m_38 m_39 m_7 m_36) rfl e_X4_settle ⟨Nat.le_of_ble_eq_true rfl, Nat.le_of_ble_eq_true rfl⟩ hK hP hD hE hS hA 1 wC_at1 rfl rfl hl.1 rfl (Nat.le_of_ble_eq_true rfl) dX4_eatDaily_50 ⟨Nat.le_refl _, Nat.le_refl _⟩) hP hD hS hA (fun u_6 H locs hw_6 hP hD hS => ?_)
          refine lv_aload_n hx hb dX4_eatDaily_53 rfl (lv_at hl 0 rfl) ?_
          refine lv_aload_n hx hb dX4_eatDaily_54 rfl (lv_at hl 0 rfl) ?_
          refine lv_iload_n hx hb dX4_eatDaily_55 rfl (lv_at hl 1 rfl) ?_
          refine lv_iconst (v := 0) hx hb dX4_eatDaily_56 (by decide) ?_
          obtain ⟨r_7, h_7, e_7, hF⟩ := ob2_some hF
          refine gx_calli (gx_runV (As := [.int x2, .int 0]) (rest := [.ref (q 1)]) ⟨hx, hb, hml, hown, hts⟩ (c_X4_ofGoose l G cI cJ cZ cB cT q h_6 x2 0 r_7 h_7 e_7 H.size) (gG_V m_14 m_15 m_16 m_7 m_13) rfl e_X4_ofGoose ⟨Nat.le_of_ble_eq_true rfl, Nat.le_of_ble_eq_true rfl⟩ hK hP hD hE hS hA 1 wC_at1 rfl rfl hl.1 rfl (Nat.le_of_ble_eq_true rfl) dX4_eatDaily_57 ⟨Nat.le_refl _, Nat.le_refl _⟩) hP hD hS hA (fun x_7 u_7 H locs hw_7 hP hD hS => ?_)
          subst x_7
          refine va_put (D := G) (ci := 4) (v := .int r_7) (ty := .int) (C := RX4) (T := TX4) (N := 13) hx hb hts iX4 tyX4 tyX4_ok nmX4 hown hK hP hD hS 1 wC_at1 rfl 5 (by decide) (hts _ m_31) (fun _ h9 => h9) rfl (tyX4_ok 5 (by decide)) rfl rfl (Nat.le_of_ble_eq_true rfl) dX4_eatDaily_60 (fun H locs hP hD hS => ?_)
          rw [wC_sI1_5] at hP hD
          obtain rfl := ob_one hF
          exact gw_vret () hx hb hr hlocks hP hD hS trivial dX4_eatDaily_63
  unfold f_X4_eatDaily at hF
  refine lv_aload_n hx hb dX4_eatDaily_0 rfl (lv_at hl 0 rfl) ?_
  obtain ⟨r_1, h_1, e_1, hF⟩ := ob2_some hF
  refine gx_calli (gx_runV (As := []) (rest := []) ⟨hx, hb, hml, hown, hts⟩ (c_X4_dailyNeed l G cI cJ cZ cB cT q h  r_1 h_1 e_1 H.size) (gG_V m_28 m_29 m_30 m_7 m_27) rfl e_X4_dailyNeed ⟨Nat.le_of_ble_eq_true rfl, Nat.le_of_ble_eq_true rfl⟩ hK hP hD hE hS hA 1 wC_at1 rfl rfl hl.1 rfl (Nat.le_of_ble_eq_true rfl) dX4_eatDaily_1 ⟨Nat.le_refl _, Nat.le_refl _⟩) hP hD hS hA (fun x_1 u_1 H locs hw_1 hP hD hS => ?_)
  subst x_1
  refine lv_istore_n (lv' := [(1, .int r_1), (0, .ref (q 1))]) hx hb dX4_eatDaily_4 rfl hl (by decide) rfl (fun ls hl => ?_)
  refine lv_iload_n hx hb dX4_eatDaily_5 rfl (lv_at hl 0 rfl) ?_
  refine lv_aload_n hx hb dX4_eatDaily_6 rfl (lv_at hl 1 rfl) ?_
  refine va_get (D := G) (ci := 4) (v := .int (eI h_1 1 5)) (C := RX4) (T := TX4) (N := 13) hx hb hts iX4 hown hK hP 1 wC_at1 rfl 5 (by decide) (hts _ m_31) (fun _ h9 => h9) rfl dX4_eatDaily_7 ?_
  refine lv_icmp_gt (tgt := 24) hx hb dX4_eatDaily_10 (by decide) (fun c_2 => ?_) (fun c_2 => ?_)
  · have hF := ob_pos c_2 hF
    refine lv_aload_n hx hb dX4_eatDaily_24 rfl (lv_at hl 1 rfl) ?_
    refine lv_iconst (v := 0) hx hb dX4_eatDaily_25 (by decide) ?_
    refine va_put (D := G) (ci := 4) (v := .int 0) (ty := .int) (C := RX4) (T := TX4) (N := 13) hx hb hts iX4 tyX4 tyX4_ok nmX4 hown hK hP hD hS 1 wC_at1 rfl 5 (by decide) (hts _ m_31) (fun _ h9 => h9) rfl (tyX4_ok 5 (by decide)) rfl rfl (Nat.le_of_ble_eq_true rfl) dX4_eatDaily_26 (fun H locs hP hD hS => ?_)
    rw [wC_sI1_5] at hP hD
    refine lv_iconst (v := 0) hx hb dX4_eatDaily_29 (by decide) ?_
    refine lv_istore_n (lv' := [(2, .int 0), (1, .int r_1), (0, .ref (q 1))]) hx hb dX4_eatDaily_30 rfl hl (by decide) rfl (fun ls hl => ?_)
    exact hJ_31 8589934592 (sI h_1 1 5 0) 0 hF H _ ls hP hD hS (lv_sub hl [2, 0] rfl)
  · have hF := ob_neg c_2 hF
    refine lv_aload_n hx hb dX4_eatDaily_13 rfl (lv_at hl 1 rfl) ?_
    refine lv_dup hx hb dX4_eatDaily_14 rfl ?_
    refine va_get (D := G) (ci := 4) (v := .int (eI h_1 1 5)) (C := RX4) (T := TX4) (N := 13) hx hb hts iX4 hown hK hP 1 wC_at1 rfl 5 (by decide) (hts _ m_31) (fun _ h9 => h9) rfl dX4_eatDaily_15 ?_
    refine lv_iload_n hx hb dX4_eatDaily_18 rfl (lv_at hl 0 rfl) ?_
    refine lv_isub hx hb dX4_eatDaily_19 ?_
    refine va_put (D := G) (ci := 4) (v := .int ((eI h_1 1 5) - r_1)) (ty := .int) (C := RX4) (T := TX4) (N := 13) hx hb hts iX4 tyX4 tyX4_ok nmX4 hown hK hP hD hS 1 wC_at1 rfl 5 (by decide) (hts _ m_31) (fun _ h9 => h9) rfl (tyX4_ok 5 (by decide)) rfl rfl (Nat.le_of_ble_eq_true rfl) dX4_eatDaily_20 (fun H locs hP hD hS => ?_)
    rw [wC_sI1_5] at hP hD
    obtain rfl := ob_one hF
    exact gw_vret () hx hb hr hlocks hP hD hS trivial dX4_eatDaily_23
def f_X4_draw (h : HS) : Option (Int32 × HS) := (some (((eI h 1 8) - (eI h 1 8) / 10 * 10), (sI h 1 8 ((((eI h 1 8) * 157) + 61) - (((eI h 1 8) * 157) + 61) / 30071 * 30071))))
set_option maxHeartbeats 4000000 in
set_option maxRecDepth 100000 in
theorem c_X4_draw (l : Launch) (G : va_G) (cI cJ cZ cB cT : ClassId) (q : Nat → Nat) (h : HS)  (rr : Int32) (hh : HS) (hF : f_X4_draw h = some (rr, hh)) : gMi l yX4_draw (gws yX4_draw cX4_draw 2 (some .int)) 1 G (gT cI cJ cZ cB cT) [.ref (q 1)] (wC q cI cJ cZ cB cT h) (fun x (_ : Unit) => x = rr) (fun (_ : Unit) => (wC q cI cJ cZ cB cT hh)) := by
  intro sz
  refine gM_start (y := yX4_draw) (av := [.ref (q 1)]) (ws := (wC q cI cJ cZ cB cT h)) (Qf := fun A => va_Qi (fun x (_ : Unit) => x = rr) (gB G (fun (_ : Unit) => (wC q cI cJ cZ cB cT hh)) A) A) (cc := cX4_draw) (maxL := 2) (ret := (some .int)) (by decide) (Nat.le_of_ble_eq_true rfl) ?_
  intro p e s m args below meth c A ls H hx hb hr hts hown hin hlocks hml hP hK hD hA hS hl hE
  have hl : lv_has ls 2 [(0, .ref (q 1))] := hl
  unfold f_X4_draw at hF
  refine lv_aload_n hx hb dX4_draw_0 rfl (lv_at hl 0 rfl) ?_
  refine va_get (D := G) (ci := 4) (v := .int (eI h 1 8)) (C := RX4) (T := TX4) (N := 13) hx hb hts iX4 hown hK hP 1 wC_at1 rfl 8 (by decide) (hts _ m_40) (fun _ h9 => h9) rfl dX4_draw_1 ?_
  refine lv_bipush (v := 10) hx hb dX4_draw_4 (by decide) ?_
  refine lv_irem hx hb dX4_draw_6 (by decide) ?_
  refine lv_istore_n (lv' := [(1, .int ((eI h 1 8) - (eI h 1 8) / 10 * 10)), (0, .ref (q 1))]) hx hb dX4_draw_7 rfl hl (by decide) rfl (fun ls hl => ?_)
  refine lv_aload_n hx hb dX4_draw_8 rfl (lv_at hl 1 rfl) ?_
  refine lv_aload_n hx hb dX4_draw_9 rfl (lv_at hl 1 rfl) ?_
  refine va_get (D := G) (ci := 4) (v := .int (eI h 1 8)) (C := RX4) (T := TX4) (N := 13) hx hb hts iX4 hown hK hP 1 wC_at1 rfl 8 (by decide) (hts _ m_40) (fun _ h9 => h9) rfl dX4_draw_10 ?_
  refine lv_sipush (v := 157) hx hb dX4_draw_13 (by decide) ?_
  refine lv_imul hx hb dX4_draw_16 ?_
  refine lv_bipush (v := 61) hx hb dX4_draw_17 (by decide) ?_
  refine lv_iadd hx hb dX4_draw_19 ?_
  refine lv_sipush (v := 30071) hx hb dX4_draw_20 (by decide) ?_
  refine lv_irem hx hb dX4_draw_23 (by decide) ?_
  refine va_put (D := G) (ci := 4) (v := .int ((((eI h 1 8) * 157) + 61) - (((eI h 1 8) * 157) + 61) / 30071 * 30071)) (ty := .int) (C := RX4) (T := TX4) (N := 13) hx hb hts iX4 tyX4 tyX4_ok nmX4 hown hK hP hD hS 1 wC_at1 rfl 8 (by decide) (hts _ m_40) (fun _ h9 => h9) rfl (tyX4_ok 8 (by decide)) rfl rfl (Nat.le_of_ble_eq_true rfl) dX4_draw_24 (fun H locs hP hD hS => ?_)
  rw [wC_sI1_8] at hP hD
  refine lv_iload_n hx hb dX4_draw_27 rfl (lv_at hl 0 rfl) ?_
  obtain ⟨rfl, rfl⟩ := ob_pair hF
  exact gw_iret () hx hb hr hlocks hP hD hS rfl dX4_draw_28
def f_X4_keepStep_69 (h : HS) : Option HS := (some h)
def f_X4_keepStep_35 (h : HS) : Option HS := (if (((((eI h 1 11) + (eI h 1 12)) - 1) - (((eI h 1 11) + (eI h 1 12)) - 1) / 20 * 20) * 94) < 0 then (f_X4_keepStep_69 h) else (if ((((((eI h 1 11) + (eI h 1 12)) - 1) - (((eI h 1 11) + (eI h 1 12)) - 1) / 20 * 20) * 94) + 94) ≤ 1880 then (if ¬ (((((eI h 1 11) + (eI h 1 12)) - 1) - (((eI h 1 11) + (eI h 1 12)) - 1) / 20 * 20) * 94) < 0 then (if ((((((eI h 1 11) + (eI h 1 12)) - 1) - (((eI h 1 11) + (eI h 1 12)) - 1) / 20 * 20) * 94)).toNatClampNeg + 90 ≤ 1880 then (if 0 ≤ (((((((eI h 1 11) + (eI h 1 12)) - 1) - (((eI h 1 11) + (eI h 1 12)) - 1) / 20 * 20) * 94) + 90)).toInt ∧ (((((((eI h 1 11) + (eI h 1 12)) - 1) - (((eI h 1 11) + (eI h 1 12)) - 1) / 20 * 20) * 94) + 90)).toInt < 1880 then (if 0 ≤ ((((((((eI h 1 11) + (eI h 1 12)) - 1) - (((eI h 1 11) + (eI h 1 12)) - 1) / 20 * 20) * 94) + 90) + 1)).toInt ∧ ((((((((eI h 1 11) + (eI h 1 12)) - 1) - (((eI h 1 11) + (eI h 1 12)) - 1) / 20 * 20) * 94) + 90) + 1)).toInt < 1880 then (if 0 ≤ ((((((((eI h 1 11) + (eI h 1 12)) - 1) - (((eI h 1 11) + (eI h 1 12)) - 1) / 20 * 20) * 94) + 90) + 2)).toInt ∧ ((((((((eI h 1 11) + (eI h 1 12)) - 1) - (((eI h 1 11) + (eI h 1 12)) - 1) / 20 * 20) * 94) + 90) + 2)).toInt < 1880 then (if 0 ≤ ((((((((eI h 1 11) + (eI h 1 12)) - 1) - (((eI h 1 11) + (eI h 1 12)) - 1) / 20 * 20) * 94) + 90) + 3)).toInt ∧ ((((((((eI h 1 11) + (eI h 1 12)) - 1) - (((eI h 1 11) + (eI h 1 12)) - 1) / 20 * 20) * 94) + 90) + 3)).toInt < 1880 then (some (sA (sA (sA (sA (sA h 1 2 (va_cpy (eA h 1 0) (eA h 1 2) 0 (((((((eI h 1 11) + (eI h 1 12)) - 1) - (((eI h 1 11) + (eI h 1 12)) - 1) / 20 * 20) * 94)).toNatClampNeg) 90)) 1 2 (upd (va_cpy (eA h 1 0) (eA h 1 2) 0 (((((((eI h 1 11) + (eI h 1 12)) - 1) - (((eI h 1 11) + (eI h 1 12)) - 1) / 20 * 20) * 94)).toNatClampNeg) 90) ((((((((eI h 1 11) + (eI h 1 12)) - 1) - (((eI h 1 11) + (eI h 1 12)) - 1) / 20 * 20) * 94) + 90)).toNatClampNeg) (eI h 1 3))) 1 2 (upd (upd (va_cpy (eA h 1 0) (eA h 1 2) 0 (((((((eI h 1 11) + (eI h 1 12)) - 1) - (((eI h 1 11) + (eI h 1 12)) - 1) / 20 * 20) * 94)).toNatClampNeg) 90) ((((((((eI h 1 11) + (eI h 1 12)) - 1) - (((eI h 1 11) + (eI h 1 12)) - 1) / 20 * 20) * 94) + 90)).toNatClampNeg) (eI h 1 3)) (((((((((eI h 1 11) + (eI h 1 12)) - 1) - (((eI h 1 11) + (eI h 1 12)) - 1) / 20 * 20) * 94) + 90) + 1)).toNatClampNeg) (eI h 1 5))) 1 2 (upd (upd (upd (va_cpy (eA h 1 0) (eA h 1 2) 0 (((((((eI h 1 11) + (eI h 1 12)) - 1) - (((eI h 1 11) + (eI h 1 12)) - 1) / 20 * 20) * 94)).toNatClampNeg) 90) ((((((((eI h 1 11) + (eI h 1 12)) - 1) - (((eI h 1 11) + (eI h 1 12)) - 1) / 20 * 20) * 94) + 90)).toNatClampNeg) (eI h 1 3)) (((((((((eI h 1 11) + (eI h 1 12)) - 1) - (((eI h 1 11) + (eI h 1 12)) - 1) / 20 * 20) * 94) + 90) + 1)).toNatClampNeg) (eI h 1 5)) (((((((((eI h 1 11) + (eI h 1 12)) - 1) - (((eI h 1 11) + (eI h 1 12)) - 1) / 20 * 20) * 94) + 90) + 2)).toNatClampNeg) (eI h 1 7))) 1 2 (upd (upd (upd (upd (va_cpy (eA h 1 0) (eA h 1 2) 0 (((((((eI h 1 11) + (eI h 1 12)) - 1) - (((eI h 1 11) + (eI h 1 12)) - 1) / 20 * 20) * 94)).toNatClampNeg) 90) ((((((((eI h 1 11) + (eI h 1 12)) - 1) - (((eI h 1 11) + (eI h 1 12)) - 1) / 20 * 20) * 94) + 90)).toNatClampNeg) (eI h 1 3)) (((((((((eI h 1 11) + (eI h 1 12)) - 1) - (((eI h 1 11) + (eI h 1 12)) - 1) / 20 * 20) * 94) + 90) + 1)).toNatClampNeg) (eI h 1 5)) (((((((((eI h 1 11) + (eI h 1 12)) - 1) - (((eI h 1 11) + (eI h 1 12)) - 1) / 20 * 20) * 94) + 90) + 2)).toNatClampNeg) (eI h 1 7)) (((((((((eI h 1 11) + (eI h 1 12)) - 1) - (((eI h 1 11) + (eI h 1 12)) - 1) / 20 * 20) * 94) + 90) + 3)).toNatClampNeg) (eI h 1 8)))) else none) else none) else none) else none) else none) else none) else (f_X4_keepStep_69 h)))
def f_X4_keepStep (h : HS) : Option HS := (if 20 ≤ (eI h 1 12) then (f_X4_keepStep_35 (sI h 1 11 (((eI h 1 11) + 1) - ((eI h 1 11) + 1) / 20 * 20))) else (f_X4_keepStep_35 (sI h 1 12 ((eI h 1 12) + 1))))
set_option maxHeartbeats 4000000 in
set_option maxRecDepth 100000 in
theorem c_X4_keepStep (l : Launch) (G : va_G) (cI cJ cZ cB cT : ClassId) (q : Nat → Nat) (h : HS)  (hh : HS) (hF : f_X4_keepStep h = some hh) : gMv l yX4_keepStep (gws yX4_keepStep cX4_keepStep 2 none) 1 G (gT cI cJ cZ cB cT) [.ref (q 1)] (wC q cI cJ cZ cB cT h) (fun (_ : Unit) => True) (fun (_ : Unit) => (wC q cI cJ cZ cB cT hh)) := by
  intro sz
  refine gM_start (y := yX4_keepStep) (av := [.ref (q 1)]) (ws := (wC q cI cJ cZ cB cT h)) (Qf := fun A => va_Qv (fun (_ : Unit) => True) (gB G (fun (_ : Unit) => (wC q cI cJ cZ cB cT hh)) A) A) (cc := cX4_keepStep) (maxL := 2) (ret := none) (by decide) (Nat.le_of_ble_eq_true rfl) ?_
  intro p e s m args below meth c A ls H hx hb hr hts hown hin hlocks hml hP hK hD hA hS hl hE
  have hl : lv_has ls 2 [(0, .ref (q 1))] := hl
  have hJ_69 : ∀ (h : HS), f_X4_keepStep_69 h = some hh → ∀ (H : Heap) (locs : List Loc) (ls : Array Slot), va_P G vwCl (wC q cI cJ cZ cB cT h) H → va_D A (wC q cI cJ cZ cB cT h) → va_S A s.heap H locs → lv_has ls 2 [] → W p l e (gRm 1) s m args below meth c H locs 0 0 (MQ below (va_Qv (fun (_ : Unit) => True) (gB G (fun (_ : Unit) => (wC q cI cJ cZ cB cT hh)) A) A) args s 0 0 A) (F0 m 69 ls []) := by
    intro h hF H locs ls hP hD hS hl
    unfold f_X4_keepStep_69 at hF
    obtain rfl := ob_one hF
    exact gw_vret () hx hb hr hlocks hP hD hS trivial dX4_keepStep_69
  have hJ_35 : ∀ (h : HS), f_X4_keepStep_35 h = some hh → ∀ (H : Heap) (locs : List Loc) (ls : Array Slot), va_P G vwCl (wC q cI cJ cZ cB cT h) H → va_D A (wC q cI cJ cZ cB cT h) → va_S A s.heap H locs → lv_has ls 2 [(0, .ref (q 1))] → W p l e (gRm 1) s m args below meth c H locs 0 0 (MQ below (va_Qv (fun (_ : Unit) => True) (gB G (fun (_ : Unit) => (wC q cI cJ cZ cB cT hh)) A) A) args s 0 0 A) (F0 m 35 ls []) := by
    intro h hF H locs ls hP hD hS hl
    unfold f_X4_keepStep_35 at hF
    refine lv_aload_n hx hb dX4_keepStep_35 rfl (lv_at hl 0 rfl) ?_
    refine va_get (D := G) (ci := 4) (v := .int (eI h 1 11)) (C := RX4) (T := TX4) (N := 13) hx hb hts iX4 hown hK hP 1 wC_at1 rfl 11 (by decide) (hts _ m_42) (fun _ h9 => h9) rfl dX4_keepStep_36 ?_
    refine lv_aload_n hx hb dX4_keepStep_39 rfl (lv_at hl 0 rfl) ?_
    refine va_get (D := G) (ci := 4) (v := .int (eI h 1 12)) (C := RX4) (T := TX4) (N := 13) hx hb hts iX4 hown hK hP 1 wC_at1 rfl 12 (by decide) (hts _ m_41) (fun _ h9 => h9) rfl dX4_keepStep_40 ?_
    refine lv_iadd hx hb dX4_keepStep_43 ?_
    refine lv_iconst (v := 1) hx hb dX4_keepStep_44 (by decide) ?_
    refine lv_isub hx hb dX4_keepStep_45 ?_
    refine lv_bipush (v := 20) hx hb dX4_keepStep_46 (by decide) ?_
    refine lv_irem hx hb dX4_keepStep_48 (by decide) ?_
    refine lv_bipush (v := 94) hx hb dX4_keepStep_49 (by decide) ?_
    refine lv_imul hx hb dX4_keepStep_51 ?_
    refine lv_istore_n (lv' := [(1, .int (((((eI h 1 11) + (eI h 1 12)) - 1) - (((eI h 1 11) + (eI h 1 12)) - 1) / 20 * 20) * 94)), (0, .ref (q 1))]) hx hb dX4_keepStep_52 rfl hl (by decide) rfl (fun ls hl => ?_)
    refine lv_iload_n hx hb dX4_keepStep_53 rfl (lv_at hl 0 rfl) ?_
    refine lv_if_lt (tgt := 69) hx hb dX4_keepStep_54 (by decide) (fun c_2 => ?_) (fun c_2 => ?_)
    · have hF := ob_pos c_2 hF
      exact hJ_69 h hF H _ ls hP hD hS (lv_sub hl [] rfl)
    · have hF := ob_neg c_2 hF
      refine lv_iload_n hx hb dX4_keepStep_57 rfl (lv_at hl 0 rfl) ?_
      refine lv_bipush (v := 94) hx hb dX4_keepStep_58 (by decide) ?_
      refine lv_iadd hx hb dX4_keepStep_60 ?_
      refine lv_aload_n hx hb dX4_keepStep_61 rfl (lv_at hl 1 rfl) ?_
      refine va_get (D := G) (ci := 4) (v := .ref (q 4)) (C := RX4) (T := TX4) (N := 13) hx hb hts iX4 hown hK hP 1 wC_at1 rfl 2 (by decide) (hts _ m_43) (fun _ h9 => h9) rfl dX4_keepStep_62 ?_
      refine va_alen (D := G) hx hb hK hP 4 0 wC_at4 rfl (v := 1880) rfl dX4_keepStep_65 ?_
      refine lv_icmp_le (tgt := 70) hx hb dX4_keepStep_66 (by decide) (fun c_3 => ?_) (fun c_3 => ?_)
      · have hF := ob_pos c_3 hF
        refine lv_aload_n hx hb dX4_keepStep_70 rfl (lv_at hl 1 rfl) ?_
        refine va_get (D := G) (ci := 4) (v := .ref (q 2)) (C := RX4) (T := TX4) (N := 13) hx hb hts iX4 hown hK hP 1 wC_at1 rfl 0 (by decide) (hts _ m_2) (fun _ h9 => h9) rfl dX4_keepStep_71 ?_
        refine lv_iconst (v := 0) hx hb dX4_keepStep_74 (by decide) ?_
        refine lv_aload_n hx hb dX4_keepStep_75 rfl (lv_at hl 1 rfl) ?_
        refine va_get (D := G) (ci := 4) (v := .ref (q 4)) (C := RX4) (T := TX4) (N := 13) hx hb hts iX4 hown hK hP 1 wC_at1 rfl 2 (by decide) (hts _ m_43) (fun _ h9 => h9) rfl dX4_keepStep_76 ?_
        refine lv_iload_n hx hb dX4_keepStep_79 rfl (lv_at hl 0 rfl) ?_
        refine lv_bipush (v := 90) hx hb dX4_keepStep_80 (by decide) ?_
        obtain ⟨hn_4, hF⟩ := ob_if hF
        obtain ⟨hq_5, hF⟩ := ob_if hF
        refine va_copyi (D := G) hx hb (by rw [hml]; exact hl.1.symm) hown (hts _ m_44) (hts _ m_45) (hts _ m_46) (hts _ m_47) hK hP hD hS 2 4 0 0 wC_at2 wC_at4 rfl rfl rfl (by decide) hn_4 (by decide) (by decide) hq_5 (fun _ _ => rfl) (Nat.le_of_ble_eq_true rfl) (Nat.le_of_ble_eq_true rfl) dX4_keepStep_82 (fun H locs hP hD hS => ?_)
        rw [wC_sA4] at hP hD
        have hP : va_P G vwCl (wC q cI cJ cZ cB cT (sA h 1 2 (va_cpy (eA h 1 0) (eA h 1 2) 0 (((((((eI h 1 11) + (eI h 1 12)) - 1) - (((eI h 1 11) + (eI h 1 12)) - 1) / 20 * 20) * 94)).toNatClampNeg) 90))) H := hP
        have hD : va_D A (wC q cI cJ cZ cB cT (sA h 1 2 (va_cpy (eA h 1 0) (eA h 1 2) 0 (((((((eI h 1 11) + (eI h 1 12)) - 1) - (((eI h 1 11) + (eI h 1 12)) - 1) / 20 * 20) * 94)).toNatClampNeg) 90))) := hD
        refine lv_aload_n hx hb dX4_keepStep_85 rfl (lv_at hl 1 rfl) ?_
        refine va_get (D := G) (ci := 4) (v := .ref (q 4)) (C := RX4) (T := TX4) (N := 13) hx hb hts iX4 hown hK hP 1 wC_at1 rfl 2 (by decide) (hts _ m_43) (fun _ h9 => h9) rfl dX4_keepStep_86 ?_
        refine lv_iload_n hx hb dX4_keepStep_89 rfl (lv_at hl 0 rfl) ?_
        refine lv_bipush (v := 90) hx hb dX4_keepStep_90 (by decide) ?_
        refine lv_iadd hx hb dX4_keepStep_92 ?_
        refine lv_aload_n hx hb dX4_keepStep_93 rfl (lv_at hl 1 rfl) ?_
        refine va_get (D := G) (ci := 4) (v := .int (eI h 1 3)) (C := RX4) (T := TX4) (N := 13) hx hb hts iX4 hown hK hP 1 wC_at1 rfl 3 (by decide) (hts _ m_0) (fun _ h9 => h9) rfl dX4_keepStep_94 ?_
        obtain ⟨hi_6, hF⟩ := ob_if hF
        refine va_iast (D := G) hx hb hK hP hD hS 4 0 wC_at4 rfl (vp_in_iff.mpr hi_6) dX4_keepStep_97 (fun H locs hP hD hS => ?_)
        rw [wC_sA4] at hP hD
        have hP : va_P G vwCl (wC q cI cJ cZ cB cT (sA (sA h 1 2 (va_cpy (eA h 1 0) (eA h 1 2) 0 (((((((eI h 1 11) + (eI h 1 12)) - 1) - (((eI h 1 11) + (eI h 1 12)) - 1) / 20 * 20) * 94)).toNatClampNeg) 90)) 1 2 (upd (va_cpy (eA h 1 0) (eA h 1 2) 0 (((((((eI h 1 11) + (eI h 1 12)) - 1) - (((eI h 1 11) + (eI h 1 12)) - 1) / 20 * 20) * 94)).toNatClampNeg) 90) ((((((((eI h 1 11) + (eI h 1 12)) - 1) - (((eI h 1 11) + (eI h 1 12)) - 1) / 20 * 20) * 94) + 90)).toNatClampNeg) (eI h 1 3)))) H := hP
        have hD : va_D A (wC q cI cJ cZ cB cT (sA (sA h 1 2 (va_cpy (eA h 1 0) (eA h 1 2) 0 (((((((eI h 1 11) + (eI h 1 12)) - 1) - (((eI h 1 11) + (eI h 1 12)) - 1) / 20 * 20) * 94)).toNatClampNeg) 90)) 1 2 (upd (va_cpy (eA h 1 0) (eA h 1 2) 0 (((((((eI h 1 11) + (eI h 1 12)) - 1) - (((eI h 1 11) + (eI h 1 12)) - 1) / 20 * 20) * 94)).toNatClampNeg) 90) ((((((((eI h 1 11) + (eI h 1 12)) - 1) - (((eI h 1 11) + (eI h 1 12)) - 1) / 20 * 20) * 94) + 90)).toNatClampNeg) (eI h 1 3)))) := hD
        refine lv_aload_n hx hb dX4_keepStep_98 rfl (lv_at hl 1 rfl) ?_
        refine va_get (D := G) (ci := 4) (v := .ref (q 4)) (C := RX4) (T := TX4) (N := 13) hx hb hts iX4 hown hK hP 1 wC_at1 rfl 2 (by decide) (hts _ m_43) (fun _ h9 => h9) rfl dX4_keepStep_99 ?_
        refine lv_iload_n hx hb dX4_keepStep_102 rfl (lv_at hl 0 rfl) ?_
        refine lv_bipush (v := 90) hx hb dX4_keepStep_103 (by decide) ?_
        refine lv_iadd hx hb dX4_keepStep_105 ?_
        refine lv_iconst (v := 1) hx hb dX4_keepStep_106 (by decide) ?_
        refine lv_iadd hx hb dX4_keepStep_107 ?_
        refine lv_aload_n hx hb dX4_keepStep_108 rfl (lv_at hl 1 rfl) ?_
        refine va_get (D := G) (ci := 4) (v := .int (eI h 1 5)) (C := RX4) (T := TX4) (N := 13) hx hb hts iX4 hown hK hP 1 wC_at1 rfl 5 (by decide) (hts _ m_31) (fun _ h9 => h9) rfl dX4_keepStep_109 ?_
        obtain ⟨hi_7, hF⟩ := ob_if hF
        refine va_iast (D := G) hx hb hK hP hD hS 4 0 wC_at4 rfl (vp_in_iff.mpr hi_7) dX4_keepStep_112 (fun H locs hP hD hS => ?_)
        rw [wC_sA4] at hP hD
        have hP : va_P G vwCl (wC q cI cJ cZ cB cT (sA (sA (sA h 1 2 (va_cpy (eA h 1 0) (eA h 1 2) 0 (((((((eI h 1 11) + (eI h 1 12)) - 1) - (((eI h 1 11) + (eI h 1 12)) - 1) / 20 * 20) * 94)).toNatClampNeg) 90)) 1 2 (upd (va_cpy (eA h 1 0) (eA h 1 2) 0 (((((((eI h 1 11) + (eI h 1 12)) - 1) - (((eI h 1 11) + (eI h 1 12)) - 1) / 20 * 20) * 94)).toNatClampNeg) 90) ((((((((eI h 1 11) + (eI h 1 12)) - 1) - (((eI h 1 11) + (eI h 1 12)) - 1) / 20 * 20) * 94) + 90)).toNatClampNeg) (eI h 1 3))) 1 2 (upd (upd (va_cpy (eA h 1 0) (eA h 1 2) 0 (((((((eI h 1 11) + (eI h 1 12)) - 1) - (((eI h 1 11) + (eI h 1 12)) - 1) / 20 * 20) * 94)).toNatClampNeg) 90) ((((((((eI h 1 11) + (eI h 1 12)) - 1) - (((eI h 1 11) + (eI h 1 12)) - 1) / 20 * 20) * 94) + 90)).toNatClampNeg) (eI h 1 3)) (((((((((eI h 1 11) + (eI h 1 12)) - 1) - (((eI h 1 11) + (eI h 1 12)) - 1) / 20 * 20) * 94) + 90) + 1)).toNatClampNeg) (eI h 1 5)))) H := hP
        have hD : va_D A (wC q cI cJ cZ cB cT (sA (sA (sA h 1 2 (va_cpy (eA h 1 0) (eA h 1 2) 0 (((((((eI h 1 11) + (eI h 1 12)) - 1) - (((eI h 1 11) + (eI h 1 12)) - 1) / 20 * 20) * 94)).toNatClampNeg) 90)) 1 2 (upd (va_cpy (eA h 1 0) (eA h 1 2) 0 (((((((eI h 1 11) + (eI h 1 12)) - 1) - (((eI h 1 11) + (eI h 1 12)) - 1) / 20 * 20) * 94)).toNatClampNeg) 90) ((((((((eI h 1 11) + (eI h 1 12)) - 1) - (((eI h 1 11) + (eI h 1 12)) - 1) / 20 * 20) * 94) + 90)).toNatClampNeg) (eI h 1 3))) 1 2 (upd (upd (va_cpy (eA h 1 0) (eA h 1 2) 0 (((((((eI h 1 11) + (eI h 1 12)) - 1) - (((eI h 1 11) + (eI h 1 12)) - 1) / 20 * 20) * 94)).toNatClampNeg) 90) ((((((((eI h 1 11) + (eI h 1 12)) - 1) - (((eI h 1 11) + (eI h 1 12)) - 1) / 20 * 20) * 94) + 90)).toNatClampNeg) (eI h 1 3)) (((((((((eI h 1 11) + (eI h 1 12)) - 1) - (((eI h 1 11) + (eI h 1 12)) - 1) / 20 * 20) * 94) + 90) + 1)).toNatClampNeg) (eI h 1 5)))) := hD
        refine lv_aload_n hx hb dX4_keepStep_113 rfl (lv_at hl 1 rfl) ?_
        refine va_get (D := G) (ci := 4) (v := .ref (q 4)) (C := RX4) (T := TX4) (N := 13) hx hb hts iX4 hown hK hP 1 wC_at1 rfl 2 (by decide) (hts _ m_43) (fun _ h9 => h9) rfl dX4_keepStep_114 ?_
        refine lv_iload_n hx hb dX4_keepStep_117 rfl (lv_at hl 0 rfl) ?_
        refine lv_bipush (v := 90) hx hb dX4_keepStep_118 (by decide) ?_
        refine lv_iadd hx hb dX4_keepStep_120 ?_
        refine lv_iconst (v := 2) hx hb dX4_keepStep_121 (by decide) ?_
        refine lv_iadd hx hb dX4_keepStep_122 ?_
        refine lv_aload_n hx hb dX4_keepStep_123 rfl (lv_at hl 1 rfl) ?_
        refine va_get (D := G) (ci := 4) (v := .int (eI h 1 7)) (C := RX4) (T := TX4) (N := 13) hx hb hts iX4 hown hK hP 1 wC_at1 rfl 7 (by decide) (hts _ m_21) (fun _ h9 => h9) rfl dX4_keepStep_124 ?_
        obtain ⟨hi_8, hF⟩ := ob_if hF
        refine va_iast (D := G) hx hb hK hP hD hS 4 0 wC_at4 rfl (vp_in_iff.mpr hi_8) dX4_keepStep_127 (fun H locs hP hD hS => ?_)
        rw [wC_sA4] at hP hD
        have hP : va_P G vwCl (wC q cI cJ cZ cB cT (sA (sA (sA (sA h 1 2 (va_cpy (eA h 1 0) (eA h 1 2) 0 (((((((eI h 1 11) + (eI h 1 12)) - 1) - (((eI h 1 11) + (eI h 1 12)) - 1) / 20 * 20) * 94)).toNatClampNeg) 90)) 1 2 (upd (va_cpy (eA h 1 0) (eA h 1 2) 0 (((((((eI h 1 11) + (eI h 1 12)) - 1) - (((eI h 1 11) + (eI h 1 12)) - 1) / 20 * 20) * 94)).toNatClampNeg) 90) ((((((((eI h 1 11) + (eI h 1 12)) - 1) - (((eI h 1 11) + (eI h 1 12)) - 1) / 20 * 20) * 94) + 90)).toNatClampNeg) (eI h 1 3))) 1 2 (upd (upd (va_cpy (eA h 1 0) (eA h 1 2) 0 (((((((eI h 1 11) + (eI h 1 12)) - 1) - (((eI h 1 11) + (eI h 1 12)) - 1) / 20 * 20) * 94)).toNatClampNeg) 90) ((((((((eI h 1 11) + (eI h 1 12)) - 1) - (((eI h 1 11) + (eI h 1 12)) - 1) / 20 * 20) * 94) + 90)).toNatClampNeg) (eI h 1 3)) (((((((((eI h 1 11) + (eI h 1 12)) - 1) - (((eI h 1 11) + (eI h 1 12)) - 1) / 20 * 20) * 94) + 90) + 1)).toNatClampNeg) (eI h 1 5))) 1 2 (upd (upd (upd (va_cpy (eA h 1 0) (eA h 1 2) 0 (((((((eI h 1 11) + (eI h 1 12)) - 1) - (((eI h 1 11) + (eI h 1 12)) - 1) / 20 * 20) * 94)).toNatClampNeg) 90) ((((((((eI h 1 11) + (eI h 1 12)) - 1) - (((eI h 1 11) + (eI h 1 12)) - 1) / 20 * 20) * 94) + 90)).toNatClampNeg) (eI h 1 3)) (((((((((eI h 1 11) + (eI h 1 12)) - 1) - (((eI h 1 11) + (eI h 1 12)) - 1) / 20 * 20) * 94) + 90) + 1)).toNatClampNeg) (eI h 1 5)) (((((((((eI h 1 11) + (eI h 1 12)) - 1) - (((eI h 1 11) + (eI h 1 12)) - 1) / 20 * 20) * 94) + 90) + 2)).toNatClampNeg) (eI h 1 7)))) H := hP
        have hD : va_D A (wC q cI cJ cZ cB cT (sA (sA (sA (sA h 1 2 (va_cpy (eA h 1 0) (eA h 1 2) 0 (((((((eI h 1 11) + (eI h 1 12)) - 1) - (((eI h 1 11) + (eI h 1 12)) - 1) / 20 * 20) * 94)).toNatClampNeg) 90)) 1 2 (upd (va_cpy (eA h 1 0) (eA h 1 2) 0 (((((((eI h 1 11) + (eI h 1 12)) - 1) - (((eI h 1 11) + (eI h 1 12)) - 1) / 20 * 20) * 94)).toNatClampNeg) 90) ((((((((eI h 1 11) + (eI h 1 12)) - 1) - (((eI h 1 11) + (eI h 1 12)) - 1) / 20 * 20) * 94) + 90)).toNatClampNeg) (eI h 1 3))) 1 2 (upd (upd (va_cpy (eA h 1 0) (eA h 1 2) 0 (((((((eI h 1 11) + (eI h 1 12)) - 1) - (((eI h 1 11) + (eI h 1 12)) - 1) / 20 * 20) * 94)).toNatClampNeg) 90) ((((((((eI h 1 11) + (eI h 1 12)) - 1) - (((eI h 1 11) + (eI h 1 12)) - 1) / 20 * 20) * 94) + 90)).toNatClampNeg) (eI h 1 3)) (((((((((eI h 1 11) + (eI h 1 12)) - 1) - (((eI h 1 11) + (eI h 1 12)) - 1) / 20 * 20) * 94) + 90) + 1)).toNatClampNeg) (eI h 1 5))) 1 2 (upd (upd (upd (va_cpy (eA h 1 0) (eA h 1 2) 0 (((((((eI h 1 11) + (eI h 1 12)) - 1) - (((eI h 1 11) + (eI h 1 12)) - 1) / 20 * 20) * 94)).toNatClampNeg) 90) ((((((((eI h 1 11) + (eI h 1 12)) - 1) - (((eI h 1 11) + (eI h 1 12)) - 1) / 20 * 20) * 94) + 90)).toNatClampNeg) (eI h 1 3)) (((((((((eI h 1 11) + (eI h 1 12)) - 1) - (((eI h 1 11) + (eI h 1 12)) - 1) / 20 * 20) * 94) + 90) + 1)).toNatClampNeg) (eI h 1 5)) (((((((((eI h 1 11) + (eI h 1 12)) - 1) - (((eI h 1 11) + (eI h 1 12)) - 1) / 20 * 20) * 94) + 90) + 2)).toNatClampNeg) (eI h 1 7)))) := hD
        refine lv_aload_n hx hb dX4_keepStep_128 rfl (lv_at hl 1 rfl) ?_
        refine va_get (D := G) (ci := 4) (v := .ref (q 4)) (C := RX4) (T := TX4) (N := 13) hx hb hts iX4 hown hK hP 1 wC_at1 rfl 2 (by decide) (hts _ m_43) (fun _ h9 => h9) rfl dX4_keepStep_129 ?_
        refine lv_iload_n hx hb dX4_keepStep_132 rfl (lv_at hl 0 rfl) ?_
        refine lv_bipush (v := 90) hx hb dX4_keepStep_133 (by decide) ?_
        refine lv_iadd hx hb dX4_keepStep_135 ?_
        refine lv_iconst (v := 3) hx hb dX4_keepStep_136 (by decide) ?_
        refine lv_iadd hx hb dX4_keepStep_137 ?_
        refine lv_aload_n hx hb dX4_keepStep_138 rfl (lv_at hl 1 rfl) ?_
        refine va_get (D := G) (ci := 4) (v := .int (eI h 1 8)) (C := RX4) (T := TX4) (N := 13) hx hb hts iX4 hown hK hP 1 wC_at1 rfl 8 (by decide) (hts _ m_40) (fun _ h9 => h9) rfl dX4_keepStep_139 ?_
        obtain ⟨hi_9, hF⟩ := ob_if hF
        refine va_iast (D := G) hx hb hK hP hD hS 4 0 wC_at4 rfl (vp_in_iff.mpr hi_9) dX4_keepStep_142 (fun H locs hP hD hS => ?_)
        rw [wC_sA4] at hP hD
        have hP : va_P G vwCl (wC q cI cJ cZ cB cT (sA (sA (sA (sA (sA h 1 2 (va_cpy (eA h 1 0) (eA h 1 2) 0 (((((((eI h 1 11) + (eI h 1 12)) - 1) - (((eI h 1 11) + (eI h 1 12)) - 1) / 20 * 20) * 94)).toNatClampNeg) 90)) 1 2 (upd (va_cpy (eA h 1 0) (eA h 1 2) 0 (((((((eI h 1 11) + (eI h 1 12)) - 1) - (((eI h 1 11) + (eI h 1 12)) - 1) / 20 * 20) * 94)).toNatClampNeg) 90) ((((((((eI h 1 11) + (eI h 1 12)) - 1) - (((eI h 1 11) + (eI h 1 12)) - 1) / 20 * 20) * 94) + 90)).toNatClampNeg) (eI h 1 3))) 1 2 (upd (upd (va_cpy (eA h 1 0) (eA h 1 2) 0 (((((((eI h 1 11) + (eI h 1 12)) - 1) - (((eI h 1 11) + (eI h 1 12)) - 1) / 20 * 20) * 94)).toNatClampNeg) 90) ((((((((eI h 1 11) + (eI h 1 12)) - 1) - (((eI h 1 11) + (eI h 1 12)) - 1) / 20 * 20) * 94) + 90)).toNatClampNeg) (eI h 1 3)) (((((((((eI h 1 11) + (eI h 1 12)) - 1) - (((eI h 1 11) + (eI h 1 12)) - 1) / 20 * 20) * 94) + 90) + 1)).toNatClampNeg) (eI h 1 5))) 1 2 (upd (upd (upd (va_cpy (eA h 1 0) (eA h 1 2) 0 (((((((eI h 1 11) + (eI h 1 12)) - 1) - (((eI h 1 11) + (eI h 1 12)) - 1) / 20 * 20) * 94)).toNatClampNeg) 90) ((((((((eI h 1 11) + (eI h 1 12)) - 1) - (((eI h 1 11) + (eI h 1 12)) - 1) / 20 * 20) * 94) + 90)).toNatClampNeg) (eI h 1 3)) (((((((((eI h 1 11) + (eI h 1 12)) - 1) - (((eI h 1 11) + (eI h 1 12)) - 1) / 20 * 20) * 94) + 90) + 1)).toNatClampNeg) (eI h 1 5)) (((((((((eI h 1 11) + (eI h 1 12)) - 1) - (((eI h 1 11) + (eI h 1 12)) - 1) / 20 * 20) * 94) + 90) + 2)).toNatClampNeg) (eI h 1 7))) 1 2 (upd (upd (upd (upd (va_cpy (eA h 1 0) (eA h 1 2) 0 (((((((eI h 1 11) + (eI h 1 12)) - 1) - (((eI h 1 11) + (eI h 1 12)) - 1) / 20 * 20) * 94)).toNatClampNeg) 90) ((((((((eI h 1 11) + (eI h 1 12)) - 1) - (((eI h 1 11) + (eI h 1 12)) - 1) / 20 * 20) * 94) + 90)).toNatClampNeg) (eI h 1 3)) (((((((((eI h 1 11) + (eI h 1 12)) - 1) - (((eI h 1 11) + (eI h 1 12)) - 1) / 20 * 20) * 94) + 90) + 1)).toNatClampNeg) (eI h 1 5)) (((((((((eI h 1 11) + (eI h 1 12)) - 1) - (((eI h 1 11) + (eI h 1 12)) - 1) / 20 * 20) * 94) + 90) + 2)).toNatClampNeg) (eI h 1 7)) (((((((((eI h 1 11) + (eI h 1 12)) - 1) - (((eI h 1 11) + (eI h 1 12)) - 1) / 20 * 20) * 94) + 90) + 3)).toNatClampNeg) (eI h 1 8)))) H := hP
        have hD : va_D A (wC q cI cJ cZ cB cT (sA (sA (sA (sA (sA h 1 2 (va_cpy (eA h 1 0) (eA h 1 2) 0 (((((((eI h 1 11) + (eI h 1 12)) - 1) - (((eI h 1 11) + (eI h 1 12)) - 1) / 20 * 20) * 94)).toNatClampNeg) 90)) 1 2 (upd (va_cpy (eA h 1 0) (eA h 1 2) 0 (((((((eI h 1 11) + (eI h 1 12)) - 1) - (((eI h 1 11) + (eI h 1 12)) - 1) / 20 * 20) * 94)).toNatClampNeg) 90) ((((((((eI h 1 11) + (eI h 1 12)) - 1) - (((eI h 1 11) + (eI h 1 12)) - 1) / 20 * 20) * 94) + 90)).toNatClampNeg) (eI h 1 3))) 1 2 (upd (upd (va_cpy (eA h 1 0) (eA h 1 2) 0 (((((((eI h 1 11) + (eI h 1 12)) - 1) - (((eI h 1 11) + (eI h 1 12)) - 1) / 20 * 20) * 94)).toNatClampNeg) 90) ((((((((eI h 1 11) + (eI h 1 12)) - 1) - (((eI h 1 11) + (eI h 1 12)) - 1) / 20 * 20) * 94) + 90)).toNatClampNeg) (eI h 1 3)) (((((((((eI h 1 11) + (eI h 1 12)) - 1) - (((eI h 1 11) + (eI h 1 12)) - 1) / 20 * 20) * 94) + 90) + 1)).toNatClampNeg) (eI h 1 5))) 1 2 (upd (upd (upd (va_cpy (eA h 1 0) (eA h 1 2) 0 (((((((eI h 1 11) + (eI h 1 12)) - 1) - (((eI h 1 11) + (eI h 1 12)) - 1) / 20 * 20) * 94)).toNatClampNeg) 90) ((((((((eI h 1 11) + (eI h 1 12)) - 1) - (((eI h 1 11) + (eI h 1 12)) - 1) / 20 * 20) * 94) + 90)).toNatClampNeg) (eI h 1 3)) (((((((((eI h 1 11) + (eI h 1 12)) - 1) - (((eI h 1 11) + (eI h 1 12)) - 1) / 20 * 20) * 94) + 90) + 1)).toNatClampNeg) (eI h 1 5)) (((((((((eI h 1 11) + (eI h 1 12)) - 1) - (((eI h 1 11) + (eI h 1 12)) - 1) / 20 * 20) * 94) + 90) + 2)).toNatClampNeg) (eI h 1 7))) 1 2 (upd (upd (upd (upd (va_cpy (eA h 1 0) (eA h 1 2) 0 (((((((eI h 1 11) + (eI h 1 12)) - 1) - (((eI h 1 11) + (eI h 1 12)) - 1) / 20 * 20) * 94)).toNatClampNeg) 90) ((((((((eI h 1 11) + (eI h 1 12)) - 1) - (((eI h 1 11) + (eI h 1 12)) - 1) / 20 * 20) * 94) + 90)).toNatClampNeg) (eI h 1 3)) (((((((((eI h 1 11) + (eI h 1 12)) - 1) - (((eI h 1 11) + (eI h 1 12)) - 1) / 20 * 20) * 94) + 90) + 1)).toNatClampNeg) (eI h 1 5)) (((((((((eI h 1 11) + (eI h 1 12)) - 1) - (((eI h 1 11) + (eI h 1 12)) - 1) / 20 * 20) * 94) + 90) + 2)).toNatClampNeg) (eI h 1 7)) (((((((((eI h 1 11) + (eI h 1 12)) - 1) - (((eI h 1 11) + (eI h 1 12)) - 1) / 20 * 20) * 94) + 90) + 3)).toNatClampNeg) (eI h 1 8)))) := hD
        obtain rfl := ob_one hF
        exact gw_vret () hx hb hr hlocks hP hD hS trivial dX4_keepStep_143
      · have hF := ob_neg c_3 hF
        exact hJ_69 h hF H _ ls hP hD hS (lv_sub hl [] rfl)
  unfold f_X4_keepStep at hF
  refine lv_aload_n hx hb dX4_keepStep_0 rfl (lv_at hl 0 rfl) ?_
  refine va_get (D := G) (ci := 4) (v := .int (eI h 1 12)) (C := RX4) (T := TX4) (N := 13) hx hb hts iX4 hown hK hP 1 wC_at1 rfl 12 (by decide) (hts _ m_41) (fun _ h9 => h9) rfl dX4_keepStep_1 ?_
  refine lv_bipush (v := 20) hx hb dX4_keepStep_4 (by decide) ?_
  refine lv_icmp_ge (tgt := 22) hx hb dX4_keepStep_6 (by decide) (fun c_1 => ?_) (fun c_1 => ?_)
  · have hF := ob_pos c_1 hF
    refine lv_aload_n hx hb dX4_keepStep_22 rfl (lv_at hl 0 rfl) ?_
    refine lv_aload_n hx hb dX4_keepStep_23 rfl (lv_at hl 0 rfl) ?_
    refine va_get (D := G) (ci := 4) (v := .int (eI h 1 11)) (C := RX4) (T := TX4) (N := 13) hx hb hts iX4 hown hK hP 1 wC_at1 rfl 11 (by decide) (hts _ m_42) (fun _ h9 => h9) rfl dX4_keepStep_24 ?_
    refine lv_iconst (v := 1) hx hb dX4_keepStep_27 (by decide) ?_
    refine lv_iadd hx hb dX4_keepStep_28 ?_
    refine lv_bipush (v := 20) hx hb dX4_keepStep_29 (by decide) ?_
    refine lv_irem hx hb dX4_keepStep_31 (by decide) ?_
    refine va_put (D := G) (ci := 4) (v := .int (((eI h 1 11) + 1) - ((eI h 1 11) + 1) / 20 * 20)) (ty := .int) (C := RX4) (T := TX4) (N := 13) hx hb hts iX4 tyX4 tyX4_ok nmX4 hown hK hP hD hS 1 wC_at1 rfl 11 (by decide) (hts _ m_42) (fun _ h9 => h9) rfl (tyX4_ok 11 (by decide)) rfl rfl (Nat.le_of_ble_eq_true rfl) dX4_keepStep_32 (fun H locs hP hD hS => ?_)
    rw [wC_sI1_11] at hP hD
    exact hJ_35 (sI h 1 11 (((eI h 1 11) + 1) - ((eI h 1 11) + 1) / 20 * 20)) hF H _ ls hP hD hS (lv_sub hl [0] rfl)
  · have hF := ob_neg c_1 hF
    refine lv_aload_n hx hb dX4_keepStep_9 rfl (lv_at hl 0 rfl) ?_
    refine lv_dup hx hb dX4_keepStep_10 rfl ?_
    refine va_get (D := G) (ci := 4) (v := .int (eI h 1 12)) (C := RX4) (T := TX4) (N := 13) hx hb hts iX4 hown hK hP 1 wC_at1 rfl 12 (by decide) (hts _ m_41) (fun _ h9 => h9) rfl dX4_keepStep_11 ?_
    refine lv_iconst (v := 1) hx hb dX4_keepStep_14 (by decide) ?_
    refine lv_iadd hx hb dX4_keepStep_15 ?_
    refine va_put (D := G) (ci := 4) (v := .int ((eI h 1 12) + 1)) (ty := .int) (C := RX4) (T := TX4) (N := 13) hx hb hts iX4 tyX4 tyX4_ok nmX4 hown hK hP hD hS 1 wC_at1 rfl 12 (by decide) (hts _ m_41) (fun _ h9 => h9) rfl (tyX4_ok 12 (by decide)) rfl rfl (Nat.le_of_ble_eq_true rfl) dX4_keepStep_16 (fun H locs hP hD hS => ?_)
    rw [wC_sI1_12] at hP hD
    refine lv_goto (tgt := 35) hx hb dX4_keepStep_19 (by decide) ?_
    exact hJ_35 (sI h 1 12 ((eI h 1 12) + 1)) hF H _ ls hP hD hS (lv_sub hl [0] rfl)
def f_X4_takeStepBack_42 (h : HS) : Option (Int32 × HS) := (some (0, h))
def f_X4_takeStepBack (h : HS) : Option (Int32 × HS) := (if (eI h 1 12) < 1 then (f_X4_takeStepBack_42 h) else (if (((((eI h 1 11) + (eI h 1 12)) - 1) - (((eI h 1 11) + (eI h 1 12)) - 1) / 20 * 20) * 94) < 0 then (f_X4_takeStepBack_42 h) else (if ((((((eI h 1 11) + (eI h 1 12)) - 1) - (((eI h 1 11) + (eI h 1 12)) - 1) / 20 * 20) * 94) + 94) ≤ 1880 then (if 0 ≤ (((((((eI h 1 11) + (eI h 1 12)) - 1) - (((eI h 1 11) + (eI h 1 12)) - 1) / 20 * 20) * 94) + 90)).toInt ∧ (((((((eI h 1 11) + (eI h 1 12)) - 1) - (((eI h 1 11) + (eI h 1 12)) - 1) / 20 * 20) * 94) + 90)).toInt < 1880 then (if ¬ (((((eI h 1 11) + (eI h 1 12)) - 1) - (((eI h 1 11) + (eI h 1 12)) - 1) / 20 * 20) * 94) < 0 then (if ¬ (if (if 0 < (((eA h 1 2) ((((((((eI h 1 11) + (eI h 1 12)) - 1) - (((eI h 1 11) + (eI h 1 12)) - 1) / 20 * 20) * 94) + 90)).toNatClampNeg)) * 9) then (((eA h 1 2) ((((((((eI h 1 11) + (eI h 1 12)) - 1) - (((eI h 1 11) + (eI h 1 12)) - 1) / 20 * 20) * 94) + 90)).toNatClampNeg)) * 9) else 0) < 90 then (if 0 < (((eA h 1 2) ((((((((eI h 1 11) + (eI h 1 12)) - 1) - (((eI h 1 11) + (eI h 1 12)) - 1) / 20 * 20) * 94) + 90)).toNatClampNeg)) * 9) then (((eA h 1 2) ((((((((eI h 1 11) + (eI h 1 12)) - 1) - (((eI h 1 11) + (eI h 1 12)) - 1) / 20 * 20) * 94) + 90)).toNatClampNeg)) * 9) else 0) else 90) < 0 then (if ((((((eI h 1 11) + (eI h 1 12)) - 1) - (((eI h 1 11) + (eI h 1 12)) - 1) / 20 * 20) * 94)).toNatClampNeg + ((if (if 0 < (((eA h 1 2) ((((((((eI h 1 11) + (eI h 1 12)) - 1) - (((eI h 1 11) + (eI h 1 12)) - 1) / 20 * 20) * 94) + 90)).toNatClampNeg)) * 9) then (((eA h 1 2) ((((((((eI h 1 11) + (eI h 1 12)) - 1) - (((eI h 1 11) + (eI h 1 12)) - 1) / 20 * 20) * 94) + 90)).toNatClampNeg)) * 9) else 0) < 90 then (if 0 < (((eA h 1 2) ((((((((eI h 1 11) + (eI h 1 12)) - 1) - (((eI h 1 11) + (eI h 1 12)) - 1) / 20 * 20) * 94) + 90)).toNatClampNeg)) * 9) then (((eA h 1 2) ((((((((eI h 1 11) + (eI h 1 12)) - 1) - (((eI h 1 11) + (eI h 1 12)) - 1) / 20 * 20) * 94) + 90)).toNatClampNeg)) * 9) else 0) else 90)).toNatClampNeg ≤ 1880 then (if 0 + ((if (if 0 < (((eA h 1 2) ((((((((eI h 1 11) + (eI h 1 12)) - 1) - (((eI h 1 11) + (eI h 1 12)) - 1) / 20 * 20) * 94) + 90)).toNatClampNeg)) * 9) then (((eA h 1 2) ((((((((eI h 1 11) + (eI h 1 12)) - 1) - (((eI h 1 11) + (eI h 1 12)) - 1) / 20 * 20) * 94) + 90)).toNatClampNeg)) * 9) else 0) < 90 then (if 0 < (((eA h 1 2) ((((((((eI h 1 11) + (eI h 1 12)) - 1) - (((eI h 1 11) + (eI h 1 12)) - 1) / 20 * 20) * 94) + 90)).toNatClampNeg)) * 9) then (((eA h 1 2) ((((((((eI h 1 11) + (eI h 1 12)) - 1) - (((eI h 1 11) + (eI h 1 12)) - 1) / 20 * 20) * 94) + 90)).toNatClampNeg)) * 9) else 0) else 90)).toNatClampNeg ≤ 90 then (if 0 ≤ ((((((((eI h 1 11) + (eI h 1 12)) - 1) - (((eI h 1 11) + (eI h 1 12)) - 1) / 20 * 20) * 94) + 90) + 1)).toInt ∧ ((((((((eI h 1 11) + (eI h 1 12)) - 1) - (((eI h 1 11) + (eI h 1 12)) - 1) / 20 * 20) * 94) + 90) + 1)).toInt < 1880 then (if 0 ≤ ((((((((eI h 1 11) + (eI h 1 12)) - 1) - (((eI h 1 11) + (eI h 1 12)) - 1) / 20 * 20) * 94) + 90) + 2)).toInt ∧ ((((((((eI h 1 11) + (eI h 1 12)) - 1) - (((eI h 1 11) + (eI h 1 12)) - 1) / 20 * 20) * 94) + 90) + 2)).toInt < 1880 then (if 0 ≤ ((((((((eI h 1 11) + (eI h 1 12)) - 1) - (((eI h 1 11) + (eI h 1 12)) - 1) / 20 * 20) * 94) + 90) + 3)).toInt ∧ ((((((((eI h 1 11) + (eI h 1 12)) - 1) - (((eI h 1 11) + (eI h 1 12)) - 1) / 20 * 20) * 94) + 90) + 3)).toInt < 1880 then (some (1, (sI (sI (sI (sA (sI h 1 12 ((eI h 1 12) - 1)) 1 0 (va_cpy (eA h 1 2) (eA h 1 0) (((((((eI h 1 11) + (eI h 1 12)) - 1) - (((eI h 1 11) + (eI h 1 12)) - 1) / 20 * 20) * 94)).toNatClampNeg) 0 (((if (if 0 < (((eA h 1 2) ((((((((eI h 1 11) + (eI h 1 12)) - 1) - (((eI h 1 11) + (eI h 1 12)) - 1) / 20 * 20) * 94) + 90)).toNatClampNeg)) * 9) then (((eA h 1 2) ((((((((eI h 1 11) + (eI h 1 12)) - 1) - (((eI h 1 11) + (eI h 1 12)) - 1) / 20 * 20) * 94) + 90)).toNatClampNeg)) * 9) else 0) < 90 then (if 0 < (((eA h 1 2) ((((((((eI h 1 11) + (eI h 1 12)) - 1) - (((eI h 1 11) + (eI h 1 12)) - 1) / 20 * 20) * 94) + 90)).toNatClampNeg)) * 9) then (((eA h 1 2) ((((((((eI h 1 11) + (eI h 1 12)) - 1) - (((eI h 1 11) + (eI h 1 12)) - 1) / 20 * 20) * 94) + 90)).toNatClampNeg)) * 9) else 0) else 90)).toNatClampNeg))) 1 5 ((eA h 1 2) (((((((((eI h 1 11) + (eI h 1 12)) - 1) - (((eI h 1 11) + (eI h 1 12)) - 1) / 20 * 20) * 94) + 90) + 1)).toNatClampNeg))) 1 7 ((eA h 1 2) (((((((((eI h 1 11) + (eI h 1 12)) - 1) - (((eI h 1 11) + (eI h 1 12)) - 1) / 20 * 20) * 94) + 90) + 2)).toNatClampNeg))) 1 8 ((eA h 1 2) (((((((((eI h 1 11) + (eI h 1 12)) - 1) - (((eI h 1 11) + (eI h 1 12)) - 1) / 20 * 20) * 94) + 90) + 3)).toNatClampNeg))))) else none) else none) else none) else none) else none) else none) else none) else none) else (f_X4_takeStepBack_42 h))))
set_option maxHeartbeats 4000000 in
set_option maxRecDepth 100000 in
theorem c_X4_takeStepBack (l : Launch) (G : va_G) (cI cJ cZ cB cT : ClassId) (q : Nat → Nat) (h : HS)  (rr : Int32) (hh : HS) (hF : f_X4_takeStepBack h = some (rr, hh)) : gMi l yX4_takeStepBack (gws yX4_takeStepBack cX4_takeStepBack 3 (some .boolean)) 1 G (gT cI cJ cZ cB cT) [.ref (q 1)] (wC q cI cJ cZ cB cT h) (fun x (_ : Unit) => x = rr) (fun (_ : Unit) => (wC q cI cJ cZ cB cT hh)) := by
  intro sz
  refine gM_start (y := yX4_takeStepBack) (av := [.ref (q 1)]) (ws := (wC q cI cJ cZ cB cT h)) (Qf := fun A => va_Qi (fun x (_ : Unit) => x = rr) (gB G (fun (_ : Unit) => (wC q cI cJ cZ cB cT hh)) A) A) (cc := cX4_takeStepBack) (maxL := 3) (ret := (some .boolean)) (by decide) (Nat.le_of_ble_eq_true rfl) ?_
  intro p e s m args below meth c A ls H hx hb hr hts hown hin hlocks hml hP hK hD hA hS hl hE
  have hl : lv_has ls 3 [(0, .ref (q 1))] := hl
  have hJ_42 : ∀ (h : HS), f_X4_takeStepBack_42 h = some (rr, hh) → ∀ (H : Heap) (locs : List Loc) (ls : Array Slot), va_P G vwCl (wC q cI cJ cZ cB cT h) H → va_D A (wC q cI cJ cZ cB cT h) → va_S A s.heap H locs → lv_has ls 3 [] → W p l e (gRm 1) s m args below meth c H locs 0 0 (MQ below (va_Qi (fun x (_ : Unit) => x = rr) (gB G (fun (_ : Unit) => (wC q cI cJ cZ cB cT hh)) A) A) args s 0 0 A) (F0 m 42 ls []) := by
    intro h hF H locs ls hP hD hS hl
    unfold f_X4_takeStepBack_42 at hF
    refine lv_iconst (v := 0) hx hb dX4_takeStepBack_42 (by decide) ?_
    obtain ⟨rfl, rfl⟩ := ob_pair hF
    exact gw_zret () hx hb hr hlocks rfl hP hD hS rfl dX4_takeStepBack_43
  unfold f_X4_takeStepBack at hF
  refine lv_aload_n hx hb dX4_takeStepBack_0 rfl (lv_at hl 0 rfl) ?_
  refine va_get (D := G) (ci := 4) (v := .int (eI h 1 11)) (C := RX4) (T := TX4) (N := 13) hx hb hts iX4 hown hK hP 1 wC_at1 rfl 11 (by decide) (hts _ m_42) (fun _ h9 => h9) rfl dX4_takeStepBack_1 ?_
  refine lv_aload_n hx hb dX4_takeStepBack_4 rfl (lv_at hl 0 rfl) ?_
  refine va_get (D := G) (ci := 4) (v := .int (eI h 1 12)) (C := RX4) (T := TX4) (N := 13) hx hb hts iX4 hown hK hP 1 wC_at1 rfl 12 (by decide) (hts _ m_41) (fun _ h9 => h9) rfl dX4_takeStepBack_5 ?_
  refine lv_iadd hx hb dX4_takeStepBack_8 ?_
  refine lv_iconst (v := 1) hx hb dX4_takeStepBack_9 (by decide) ?_
  refine lv_isub hx hb dX4_takeStepBack_10 ?_
  refine lv_bipush (v := 20) hx hb dX4_takeStepBack_11 (by decide) ?_
  refine lv_irem hx hb dX4_takeStepBack_13 (by decide) ?_
  refine lv_bipush (v := 94) hx hb dX4_takeStepBack_14 (by decide) ?_
  refine lv_imul hx hb dX4_takeStepBack_16 ?_
  refine lv_istore_n (lv' := [(1, .int (((((eI h 1 11) + (eI h 1 12)) - 1) - (((eI h 1 11) + (eI h 1 12)) - 1) / 20 * 20) * 94)), (0, .ref (q 1))]) hx hb dX4_takeStepBack_17 rfl hl (by decide) rfl (fun ls hl => ?_)
  refine lv_aload_n hx hb dX4_takeStepBack_18 rfl (lv_at hl 1 rfl) ?_
  refine va_get (D := G) (ci := 4) (v := .int (eI h 1 12)) (C := RX4) (T := TX4) (N := 13) hx hb hts iX4 hown hK hP 1 wC_at1 rfl 12 (by decide) (hts _ m_41) (fun _ h9 => h9) rfl dX4_takeStepBack_19 ?_
  refine lv_iconst (v := 1) hx hb dX4_takeStepBack_22 (by decide) ?_
  refine lv_icmp_lt (tgt := 42) hx hb dX4_takeStepBack_23 (by decide) (fun c_1 => ?_) (fun c_1 => ?_)
  · have hF := ob_pos c_1 hF
    exact hJ_42 h hF H _ ls hP hD hS (lv_sub hl [] rfl)
  · have hF := ob_neg c_1 hF
    refine lv_iload_n hx hb dX4_takeStepBack_26 rfl (lv_at hl 0 rfl) ?_
    refine lv_if_lt (tgt := 42) hx hb dX4_takeStepBack_27 (by decide) (fun c_2 => ?_) (fun c_2 => ?_)
    · have hF := ob_pos c_2 hF
      exact hJ_42 h hF H _ ls hP hD hS (lv_sub hl [] rfl)
    · have hF := ob_neg c_2 hF
      refine lv_iload_n hx hb dX4_takeStepBack_30 rfl (lv_at hl 0 rfl) ?_
      refine lv_bipush (v := 94) hx hb dX4_takeStepBack_31 (by decide) ?_
      refine lv_iadd hx hb dX4_takeStepBack_33 ?_
      refine lv_aload_n hx hb dX4_takeStepBack_34 rfl (lv_at hl 1 rfl) ?_
      refine va_get (D := G) (ci := 4) (v := .ref (q 4)) (C := RX4) (T := TX4) (N := 13) hx hb hts iX4 hown hK hP 1 wC_at1 rfl 2 (by decide) (hts _ m_43) (fun _ h9 => h9) rfl dX4_takeStepBack_35 ?_
      refine va_alen (D := G) hx hb hK hP 4 0 wC_at4 rfl (v := 1880) rfl dX4_takeStepBack_38 ?_
      refine lv_icmp_le (tgt := 44) hx hb dX4_takeStepBack_39 (by decide) (fun c_3 => ?_) (fun c_3 => ?_)
      · have hF := ob_pos c_3 hF
        refine lv_aload_n hx hb dX4_takeStepBack_44 rfl (lv_at hl 1 rfl) ?_
        refine lv_dup hx hb dX4_takeStepBack_45 rfl ?_
        refine va_get (D := G) (ci := 4) (v := .int (eI h 1 12)) (C := RX4) (T := TX4) (N := 13) hx hb hts iX4 hown hK hP 1 wC_at1 rfl 12 (by decide) (hts _ m_41) (fun _ h9 => h9) rfl dX4_takeStepBack_46 ?_
        refine lv_iconst (v := 1) hx hb dX4_takeStepBack_49 (by decide) ?_
        refine lv_isub hx hb dX4_takeStepBack_50 ?_
        refine va_put (D := G) (ci := 4) (v := .int ((eI h 1 12) - 1)) (ty := .int) (C := RX4) (T := TX4) (N := 13) hx hb hts iX4 tyX4 tyX4_ok nmX4 hown hK hP hD hS 1 wC_at1 rfl 12 (by decide) (hts _ m_41) (fun _ h9 => h9) rfl (tyX4_ok 12 (by decide)) rfl rfl (Nat.le_of_ble_eq_true rfl) dX4_takeStepBack_51 (fun H locs hP hD hS => ?_)
        rw [wC_sI1_12] at hP hD
        refine lv_bipush (v := 90) hx hb dX4_takeStepBack_54 (by decide) ?_
        refine lv_iconst (v := 0) hx hb dX4_takeStepBack_56 (by decide) ?_
        refine lv_aload_n hx hb dX4_takeStepBack_57 rfl (lv_at hl 1 rfl) ?_
        refine va_get (D := G) (ci := 4) (v := .ref (q 4)) (C := RX4) (T := TX4) (N := 13) hx hb hts iX4 hown hK hP 1 wC_at1 rfl 2 (by decide) (hts _ m_43) (fun _ h9 => h9) rfl dX4_takeStepBack_58 ?_
        refine lv_iload_n hx hb dX4_takeStepBack_61 rfl (lv_at hl 0 rfl) ?_
        refine lv_bipush (v := 90) hx hb dX4_takeStepBack_62 (by decide) ?_
        refine lv_iadd hx hb dX4_takeStepBack_64 ?_
        obtain ⟨hi_4, hF⟩ := ob_if hF
        refine va_iald (D := G) hx hb hK hP 4 0 wC_at4 rfl (vp_in_iff.mpr hi_4) dX4_takeStepBack_65 ?_
        refine gw_topi (y := ((eA h 1 2) ((((((((eI h 1 11) + (eI h 1 12)) - 1) - (((eI h 1 11) + (eI h 1 12)) - 1) / 20 * 20) * 94) + 90)).toNatClampNeg))) rfl ?_
        refine lv_bipush (v := 9) hx hb dX4_takeStepBack_66 (by decide) ?_
        refine lv_imul hx hb dX4_takeStepBack_68 ?_
        refine va_mmax hx hb (by rw [hml]; exact hl.1.symm) hown (hts _ m_48) (hts _ m_49) (hts _ m_50) (hts _ m_51) (Nat.le_of_ble_eq_true rfl) (Nat.le_of_ble_eq_true rfl) (Nat.le_of_ble_eq_true rfl) (Nat.le_of_ble_eq_true rfl) dX4_takeStepBack_69 ?_
        refine va_mmin hx hb (by rw [hml]; exact hl.1.symm) hown (hts _ m_52) (hts _ m_53) (hts _ m_50) (hts _ m_54) (Nat.le_of_ble_eq_true rfl) (Nat.le_of_ble_eq_true rfl) (Nat.le_of_ble_eq_true rfl) (Nat.le_of_ble_eq_true rfl) dX4_takeStepBack_72 ?_
        refine lv_istore_n (lv' := [(2, .int (if (if 0 < (((eA h 1 2) ((((((((eI h 1 11) + (eI h 1 12)) - 1) - (((eI h 1 11) + (eI h 1 12)) - 1) / 20 * 20) * 94) + 90)).toNatClampNeg)) * 9) then (((eA h 1 2) ((((((((eI h 1 11) + (eI h 1 12)) - 1) - (((eI h 1 11) + (eI h 1 12)) - 1) / 20 * 20) * 94) + 90)).toNatClampNeg)) * 9) else 0) < 90 then (if 0 < (((eA h 1 2) ((((((((eI h 1 11) + (eI h 1 12)) - 1) - (((eI h 1 11) + (eI h 1 12)) - 1) / 20 * 20) * 94) + 90)).toNatClampNeg)) * 9) then (((eA h 1 2) ((((((((eI h 1 11) + (eI h 1 12)) - 1) - (((eI h 1 11) + (eI h 1 12)) - 1) / 20 * 20) * 94) + 90)).toNatClampNeg)) * 9) else 0) else 90)), (1, .int (((((eI h 1 11) + (eI h 1 12)) - 1) - (((eI h 1 11) + (eI h 1 12)) - 1) / 20 * 20) * 94)), (0, .ref (q 1))]) hx hb dX4_takeStepBack_75 rfl hl (by decide) rfl (fun ls hl => ?_)
        refine lv_aload_n hx hb dX4_takeStepBack_76 rfl (lv_at hl 2 rfl) ?_
        refine va_get (D := G) (ci := 4) (v := .ref (q 4)) (C := RX4) (T := TX4) (N := 13) hx hb hts iX4 hown hK hP 1 wC_at1 rfl 2 (by decide) (hts _ m_43) (fun _ h9 => h9) rfl dX4_takeStepBack_77 ?_
        refine lv_iload_n hx hb dX4_takeStepBack_80 rfl (lv_at hl 1 rfl) ?_
        refine lv_aload_n hx hb dX4_takeStepBack_81 rfl (lv_at hl 2 rfl) ?_
        refine va_get (D := G) (ci := 4) (v := .ref (q 2)) (C := RX4) (T := TX4) (N := 13) hx hb hts iX4 hown hK hP 1 wC_at1 rfl 0 (by decide) (hts _ m_2) (fun _ h9 => h9) rfl dX4_takeStepBack_82 ?_
        refine lv_iconst (v := 0) hx hb dX4_takeStepBack_85 (by decide) ?_
        refine lv_iload_n hx hb dX4_takeStepBack_86 rfl (lv_at hl 0 rfl) ?_
        obtain ⟨hn_5, hF⟩ := ob_if hF
        obtain ⟨hn_6, hF⟩ := ob_if hF
        obtain ⟨hq_7, hF⟩ := ob_if hF
        obtain ⟨hq_8, hF⟩ := ob_if hF
        refine va_copyi (D := G) hx hb (by rw [hml]; exact hl.1.symm) hown (hts _ m_44) (hts _ m_45) (hts _ m_46) (hts _ m_47) hK hP hD hS 4 2 0 0 wC_at4 wC_at2 rfl rfl rfl hn_5 (by decide) hn_6 hq_7 hq_8 (fun _ _ => rfl) (Nat.le_of_ble_eq_true rfl) (Nat.le_of_ble_eq_true rfl) dX4_takeStepBack_87 (fun H locs hP hD hS => ?_)
        rw [wC_sA2] at hP hD
        have hP : va_P G vwCl (wC q cI cJ cZ cB cT (sA (sI h 1 12 ((eI h 1 12) - 1)) 1 0 (va_cpy (eA h 1 2) (eA h 1 0) (((((((eI h 1 11) + (eI h 1 12)) - 1) - (((eI h 1 11) + (eI h 1 12)) - 1) / 20 * 20) * 94)).toNatClampNeg) 0 (((if (if 0 < (((eA h 1 2) ((((((((eI h 1 11) + (eI h 1 12)) - 1) - (((eI h 1 11) + (eI h 1 12)) - 1) / 20 * 20) * 94) + 90)).toNatClampNeg)) * 9) then (((eA h 1 2) ((((((((eI h 1 11) + (eI h 1 12)) - 1) - (((eI h 1 11) + (eI h 1 12)) - 1) / 20 * 20) * 94) + 90)).toNatClampNeg)) * 9) else 0) < 90 then (if 0 < (((eA h 1 2) ((((((((eI h 1 11) + (eI h 1 12)) - 1) - (((eI h 1 11) + (eI h 1 12)) - 1) / 20 * 20) * 94) + 90)).toNatClampNeg)) * 9) then (((eA h 1 2) ((((((((eI h 1 11) + (eI h 1 12)) - 1) - (((eI h 1 11) + (eI h 1 12)) - 1) / 20 * 20) * 94) + 90)).toNatClampNeg)) * 9) else 0) else 90)).toNatClampNeg)))) H := hP
        have hD : va_D A (wC q cI cJ cZ cB cT (sA (sI h 1 12 ((eI h 1 12) - 1)) 1 0 (va_cpy (eA h 1 2) (eA h 1 0) (((((((eI h 1 11) + (eI h 1 12)) - 1) - (((eI h 1 11) + (eI h 1 12)) - 1) / 20 * 20) * 94)).toNatClampNeg) 0 (((if (if 0 < (((eA h 1 2) ((((((((eI h 1 11) + (eI h 1 12)) - 1) - (((eI h 1 11) + (eI h 1 12)) - 1) / 20 * 20) * 94) + 90)).toNatClampNeg)) * 9) then (((eA h 1 2) ((((((((eI h 1 11) + (eI h 1 12)) - 1) - (((eI h 1 11) + (eI h 1 12)) - 1) / 20 * 20) * 94) + 90)).toNatClampNeg)) * 9) else 0) < 90 then (if 0 < (((eA h 1 2) ((((((((eI h 1 11) + (eI h 1 12)) - 1) - (((eI h 1 11) + (eI h 1 12)) - 1) / 20 * 20) * 94) + 90)).toNatClampNeg)) * 9) then (((eA h 1 2) ((((((((eI h 1 11) + (eI h 1 12)) - 1) - (((eI h 1 11) + (eI h 1 12)) - 1) / 20 * 20) * 94) + 90)).toNatClampNeg)) * 9) else 0) else 90)).toNatClampNeg)))) := hD
        refine lv_aload_n hx hb dX4_takeStepBack_90 rfl (lv_at hl 2 rfl) ?_
        refine lv_aload_n hx hb dX4_takeStepBack_91 rfl (lv_at hl 2 rfl) ?_
        refine va_get (D := G) (ci := 4) (v := .ref (q 4)) (C := RX4) (T := TX4) (N := 13) hx hb hts iX4 hown hK hP 1 wC_at1 rfl 2 (by decide) (hts _ m_43) (fun _ h9 => h9) rfl dX4_takeStepBack_92 ?_
        refine lv_iload_n hx hb dX4_takeStepBack_95 rfl (lv_at hl 1 rfl) ?_
        refine lv_bipush (v := 90) hx hb dX4_takeStepBack_96 (by decide) ?_
        refine lv_iadd hx hb dX4_takeStepBack_98 ?_
        refine lv_iconst (v := 1) hx hb dX4_takeStepBack_99 (by decide) ?_
        refine lv_iadd hx hb dX4_takeStepBack_100 ?_
        obtain ⟨hi_9, hF⟩ := ob_if hF
        refine va_iald (D := G) hx hb hK hP 4 0 wC_at4 rfl (vp_in_iff.mpr hi_9) dX4_takeStepBack_101 ?_
        refine gw_topi (y := ((eA h 1 2) (((((((((eI h 1 11) + (eI h 1 12)) - 1) - (((eI h 1 11) + (eI h 1 12)) - 1) / 20 * 20) * 94) + 90) + 1)).toNatClampNeg))) rfl ?_
        refine va_put (D := G) (ci := 4) (v := .int ((eA h 1 2) (((((((((eI h 1 11) + (eI h 1 12)) - 1) - (((eI h 1 11) + (eI h 1 12)) - 1) / 20 * 20) * 94) + 90) + 1)).toNatClampNeg))) (ty := .int) (C := RX4) (T := TX4) (N := 13) hx hb hts iX4 tyX4 tyX4_ok nmX4 hown hK hP hD hS 1 wC_at1 rfl 5 (by decide) (hts _ m_31) (fun _ h9 => h9) rfl (tyX4_ok 5 (by decide)) rfl rfl (Nat.le_of_ble_eq_true rfl) dX4_takeStepBack_102 (fun H locs hP hD hS => ?_)
        rw [wC_sI1_5] at hP hD
        refine lv_aload_n hx hb dX4_takeStepBack_105 rfl (lv_at hl 2 rfl) ?_
        refine lv_aload_n hx hb dX4_takeStepBack_106 rfl (lv_at hl 2 rfl) ?_
        refine va_get (D := G) (ci := 4) (v := .ref (q 4)) (C := RX4) (T := TX4) (N := 13) hx hb hts iX4 hown hK hP 1 wC_at1 rfl 2 (by decide) (hts _ m_43) (fun _ h9 => h9) rfl dX4_takeStepBack_107 ?_
        refine lv_iload_n hx hb dX4_takeStepBack_110 rfl (lv_at hl 1 rfl) ?_
        refine lv_bipush (v := 90) hx hb dX4_takeStepBack_111 (by decide) ?_
        refine lv_iadd hx hb dX4_takeStepBack_113 ?_
        refine lv_iconst (v := 2) hx hb dX4_takeStepBack_114 (by decide) ?_
        refine lv_iadd hx hb dX4_takeStepBack_115 ?_
        obtain ⟨hi_10, hF⟩ := ob_if hF
        refine va_iald (D := G) hx hb hK hP 4 0 wC_at4 rfl (vp_in_iff.mpr hi_10) dX4_takeStepBack_116 ?_
        refine gw_topi (y := ((eA h 1 2) (((((((((eI h 1 11) + (eI h 1 12)) - 1) - (((eI h 1 11) + (eI h 1 12)) - 1) / 20 * 20) * 94) + 90) + 2)).toNatClampNeg))) rfl ?_
        refine va_put (D := G) (ci := 4) (v := .int ((eA h 1 2) (((((((((eI h 1 11) + (eI h 1 12)) - 1) - (((eI h 1 11) + (eI h 1 12)) - 1) / 20 * 20) * 94) + 90) + 2)).toNatClampNeg))) (ty := .int) (C := RX4) (T := TX4) (N := 13) hx hb hts iX4 tyX4 tyX4_ok nmX4 hown hK hP hD hS 1 wC_at1 rfl 7 (by decide) (hts _ m_21) (fun _ h9 => h9) rfl (tyX4_ok 7 (by decide)) rfl rfl (Nat.le_of_ble_eq_true rfl) dX4_takeStepBack_117 (fun H locs hP hD hS => ?_)
        rw [wC_sI1_7] at hP hD
        refine lv_aload_n hx hb dX4_takeStepBack_120 rfl (lv_at hl 2 rfl) ?_
        refine lv_aload_n hx hb dX4_takeStepBack_121 rfl (lv_at hl 2 rfl) ?_
        refine va_get (D := G) (ci := 4) (v := .ref (q 4)) (C := RX4) (T := TX4) (N := 13) hx hb hts iX4 hown hK hP 1 wC_at1 rfl 2 (by decide) (hts _ m_43) (fun _ h9 => h9) rfl dX4_takeStepBack_122 ?_
        refine lv_iload_n hx hb dX4_takeStepBack_125 rfl (lv_at hl 1 rfl) ?_
        refine lv_bipush (v := 90) hx hb dX4_takeStepBack_126 (by decide) ?_
        refine lv_iadd hx hb dX4_takeStepBack_128 ?_
        refine lv_iconst (v := 3) hx hb dX4_takeStepBack_129 (by decide) ?_
        refine lv_iadd hx hb dX4_takeStepBack_130 ?_
        obtain ⟨hi_11, hF⟩ := ob_if hF
        refine va_iald (D := G) hx hb hK hP 4 0 wC_at4 rfl (vp_in_iff.mpr hi_11) dX4_takeStepBack_131 ?_
        refine gw_topi (y := ((eA h 1 2) (((((((((eI h 1 11) + (eI h 1 12)) - 1) - (((eI h 1 11) + (eI h 1 12)) - 1) / 20 * 20) * 94) + 90) + 3)).toNatClampNeg))) rfl ?_
        refine va_put (D := G) (ci := 4) (v := .int ((eA h 1 2) (((((((((eI h 1 11) + (eI h 1 12)) - 1) - (((eI h 1 11) + (eI h 1 12)) - 1) / 20 * 20) * 94) + 90) + 3)).toNatClampNeg))) (ty := .int) (C := RX4) (T := TX4) (N := 13) hx hb hts iX4 tyX4 tyX4_ok nmX4 hown hK hP hD hS 1 wC_at1 rfl 8 (by decide) (hts _ m_40) (fun _ h9 => h9) rfl (tyX4_ok 8 (by decide)) rfl rfl (Nat.le_of_ble_eq_true rfl) dX4_takeStepBack_132 (fun H locs hP hD hS => ?_)
        rw [wC_sI1_8] at hP hD
        refine lv_iconst (v := 1) hx hb dX4_takeStepBack_135 (by decide) ?_
        obtain ⟨rfl, rfl⟩ := ob_pair hF
        exact gw_zret () hx hb hr hlocks rfl hP hD hS rfl dX4_takeStepBack_136
      · have hF := ob_neg c_3 hF
        exact hJ_42 h hF H _ ls hP hD hS (lv_sub hl [] rfl)
def f_X4_copyFrom_i (h : HS) : Option HS := (some (sI (sI (sI (sI (sI (sI (sI (sI (sI (sI (sA (sA (sA h 2 0 (va_cpy (eA h 1 0) (eA h 2 0) 0 0 90)) 2 1 (va_cpy (eA h 1 1) (eA h 2 1) 0 0 12)) 2 2 (va_cpy (eA h 1 2) (eA h 2 2) 0 0 1880)) 2 3 (eI h 1 3)) 2 4 (eI h 1 4)) 2 5 (eI h 1 5)) 2 6 (eI h 1 6)) 2 7 (eI h 1 7)) 2 8 (eI h 1 8)) 2 9 (eI h 1 9)) 2 10 (eI h 1 10)) 2 11 (eI h 1 11)) 2 12 (eI h 1 12)))
set_option maxHeartbeats 4000000 in
set_option maxRecDepth 100000 in
theorem c_X4_copyFrom_i (l : Launch) (G : va_G) (cI cJ cZ cB cT : ClassId) (q : Nat → Nat) (h : HS)  (hh : HS) (hF : f_X4_copyFrom_i h = some hh) : gMv l yX4_copyFrom (gws yX4_copyFrom cX4_copyFrom 2 none) 1 G (gT cI cJ cZ cB cT) [.ref (q 5), .ref (q 1)] (wC q cI cJ cZ cB cT h) (fun (_ : Unit) => True) (fun (_ : Unit) => (wC q cI cJ cZ cB cT hh)) := by
  intro sz
  refine gM_start (y := yX4_copyFrom) (av := [.ref (q 5), .ref (q 1)]) (ws := (wC q cI cJ cZ cB cT h)) (Qf := fun A => va_Qv (fun (_ : Unit) => True) (gB G (fun (_ : Unit) => (wC q cI cJ cZ cB cT hh)) A) A) (cc := cX4_copyFrom) (maxL := 2) (ret := none) (by decide) (Nat.le_of_ble_eq_true rfl) ?_
  intro p e s m args below meth c A ls H hx hb hr hts hown hin hlocks hml hP hK hD hA hS hl hE
  have hl : lv_has ls 2 [(0, .ref (q 5)), (1, .ref (q 1))] := hl
  unfold f_X4_copyFrom_i at hF
  refine lv_aload_n hx hb dX4_copyFrom_0 rfl (lv_at hl 1 rfl) ?_
  refine va_get (D := G) (ci := 4) (v := .ref (q 2)) (C := RX4) (T := TX4) (N := 13) hx hb hts iX4 hown hK hP 1 wC_at1 rfl 0 (by decide) (hts _ m_2) (fun _ h9 => h9) rfl dX4_copyFrom_1 ?_
  refine lv_iconst (v := 0) hx hb dX4_copyFrom_4 (by decide) ?_
  refine lv_aload_n hx hb dX4_copyFrom_5 rfl (lv_at hl 0 rfl) ?_
  refine va_get (D := G) (ci := 4) (v := .ref (q 6)) (C := RX4) (T := TX4) (N := 13) hx hb hts iX4 hown hK hP 5 wC_at5 rfl 0 (by decide) (hts _ m_2) (fun _ h9 => h9) rfl dX4_copyFrom_6 ?_
  refine lv_iconst (v := 0) hx hb dX4_copyFrom_9 (by decide) ?_
  refine lv_aload_n hx hb dX4_copyFrom_10 rfl (lv_at hl 0 rfl) ?_
  refine va_get (D := G) (ci := 4) (v := .ref (q 6)) (C := RX4) (T := TX4) (N := 13) hx hb hts iX4 hown hK hP 5 wC_at5 rfl 0 (by decide) (hts _ m_2) (fun _ h9 => h9) rfl dX4_copyFrom_11 ?_
  refine va_alen (D := G) hx hb hK hP 6 0 wC_at6 rfl (v := 90) rfl dX4_copyFrom_14 ?_
  refine va_copyi (D := G) hx hb (by rw [hml]; exact hl.1.symm) hown (hts _ m_44) (hts _ m_45) (hts _ m_46) (hts _ m_47) hK hP hD hS 2 6 0 0 wC_at2 wC_at6 rfl rfl rfl (by decide) (by decide) (by decide) (by decide) (by decide) (fun _ _ => rfl) (Nat.le_of_ble_eq_true rfl) (Nat.le_of_ble_eq_true rfl) dX4_copyFrom_15 (fun H locs hP hD hS => ?_)
  rw [wC_sA6] at hP hD
  have hP : va_P G vwCl (wC q cI cJ cZ cB cT (sA h 2 0 (va_cpy (eA h 1 0) (eA h 2 0) 0 0 90))) H := hP
  have hD : va_D A (wC q cI cJ cZ cB cT (sA h 2 0 (va_cpy (eA h 1 0) (eA h 2 0) 0 0 90))) := hD
  refine lv_aload_n hx hb dX4_copyFrom_18 rfl (lv_at hl 1 rfl) ?_
  refine va_get (D := G) (ci := 4) (v := .ref (q 3)) (C := RX4) (T := TX4) (N := 13) hx hb hts iX4 hown hK hP 1 wC_at1 rfl 1 (by decide) (hts _ m_8) (fun _ h9 => h9) rfl dX4_copyFrom_19 ?_
  refine lv_iconst (v := 0) hx hb dX4_copyFrom_22 (by decide) ?_
  refine lv_aload_n hx hb dX4_copyFrom_23 rfl (lv_at hl 0 rfl) ?_
  refine va_get (D := G) (ci := 4) (v := .ref (q 7)) (C := RX4) (T := TX4) (N := 13) hx hb hts iX4 hown hK hP 5 wC_at5 rfl 1 (by decide) (hts _ m_8) (fun _ h9 => h9) rfl dX4_copyFrom_24 ?_
  refine lv_iconst (v := 0) hx hb dX4_copyFrom_27 (by decide) ?_
  refine lv_aload_n hx hb dX4_copyFrom_28 rfl (lv_at hl 0 rfl) ?_
  refine va_get (D := G) (ci := 4) (v := .ref (q 7)) (C := RX4) (T := TX4) (N := 13) hx hb hts iX4 hown hK hP 5 wC_at5 rfl 1 (by decide) (hts _ m_8) (fun _ h9 => h9) rfl dX4_copyFrom_29 ?_
  refine va_alen (D := G) hx hb hK hP 7 0 wC_at7 rfl (v := 12) rfl dX4_copyFrom_32 ?_
  refine va_copyi (D := G) hx hb (by rw [hml]; exact hl.1.symm) hown (hts _ m_44) (hts _ m_45) (hts _ m_46) (hts _ m_47) hK hP hD hS 3 7 0 0 wC_at3 wC_at7 rfl rfl rfl (by decide) (by decide) (by decide) (by decide) (by decide) (fun _ _ => rfl) (Nat.le_of_ble_eq_true rfl) (Nat.le_of_ble_eq_true rfl) dX4_copyFrom_33 (fun H locs hP hD hS => ?_)
  rw [wC_sA7] at hP hD
  have hP : va_P G vwCl (wC q cI cJ cZ cB cT (sA (sA h 2 0 (va_cpy (eA h 1 0) (eA h 2 0) 0 0 90)) 2 1 (va_cpy (eA h 1 1) (eA h 2 1) 0 0 12))) H := hP
  have hD : va_D A (wC q cI cJ cZ cB cT (sA (sA h 2 0 (va_cpy (eA h 1 0) (eA h 2 0) 0 0 90)) 2 1 (va_cpy (eA h 1 1) (eA h 2 1) 0 0 12))) := hD
  refine lv_aload_n hx hb dX4_copyFrom_36 rfl (lv_at hl 1 rfl) ?_
  refine va_get (D := G) (ci := 4) (v := .ref (q 4)) (C := RX4) (T := TX4) (N := 13) hx hb hts iX4 hown hK hP 1 wC_at1 rfl 2 (by decide) (hts _ m_43) (fun _ h9 => h9) rfl dX4_copyFrom_37 ?_
  refine lv_iconst (v := 0) hx hb dX4_copyFrom_40 (by decide) ?_
  refine lv_aload_n hx hb dX4_copyFrom_41 rfl (lv_at hl 0 rfl) ?_
  refine va_get (D := G) (ci := 4) (v := .ref (q 8)) (C := RX4) (T := TX4) (N := 13) hx hb hts iX4 hown hK hP 5 wC_at5 rfl 2 (by decide) (hts _ m_43) (fun _ h9 => h9) rfl dX4_copyFrom_42 ?_
  refine lv_iconst (v := 0) hx hb dX4_copyFrom_45 (by decide) ?_
  refine lv_aload_n hx hb dX4_copyFrom_46 rfl (lv_at hl 0 rfl) ?_
  refine va_get (D := G) (ci := 4) (v := .ref (q 8)) (C := RX4) (T := TX4) (N := 13) hx hb hts iX4 hown hK hP 5 wC_at5 rfl 2 (by decide) (hts _ m_43) (fun _ h9 => h9) rfl dX4_copyFrom_47 ?_
  refine va_alen (D := G) hx hb hK hP 8 0 wC_at8 rfl (v := 1880) rfl dX4_copyFrom_50 ?_
  refine va_copyi (D := G) hx hb (by rw [hml]; exact hl.1.symm) hown (hts _ m_44) (hts _ m_45) (hts _ m_46) (hts _ m_47) hK hP hD hS 4 8 0 0 wC_at4 wC_at8 rfl rfl rfl (by decide) (by decide) (by decide) (by decide) (by decide) (fun _ _ => rfl) (Nat.le_of_ble_eq_true rfl) (Nat.le_of_ble_eq_true rfl) dX4_copyFrom_51 (fun H locs hP hD hS => ?_)
  rw [wC_sA8] at hP hD
  have hP : va_P G vwCl (wC q cI cJ cZ cB cT (sA (sA (sA h 2 0 (va_cpy (eA h 1 0) (eA h 2 0) 0 0 90)) 2 1 (va_cpy (eA h 1 1) (eA h 2 1) 0 0 12)) 2 2 (va_cpy (eA h 1 2) (eA h 2 2) 0 0 1880))) H := hP
  have hD : va_D A (wC q cI cJ cZ cB cT (sA (sA (sA h 2 0 (va_cpy (eA h 1 0) (eA h 2 0) 0 0 90)) 2 1 (va_cpy (eA h 1 1) (eA h 2 1) 0 0 12)) 2 2 (va_cpy (eA h 1 2) (eA h 2 2) 0 0 1880))) := hD
  refine lv_aload_n hx hb dX4_copyFrom_54 rfl (lv_at hl 0 rfl) ?_
  refine lv_aload_n hx hb dX4_copyFrom_55 rfl (lv_at hl 1 rfl) ?_
  refine va_get (D := G) (ci := 4) (v := .int (eI h 1 3)) (C := RX4) (T := TX4) (N := 13) hx hb hts iX4 hown hK hP 1 wC_at1 rfl 3 (by decide) (hts _ m_0) (fun _ h9 => h9) rfl dX4_copyFrom_56 ?_
  refine va_put (D := G) (ci := 4) (v := .int (eI h 1 3)) (ty := .int) (C := RX4) (T := TX4) (N := 13) hx hb hts iX4 tyX4 tyX4_ok nmX4 hown hK hP hD hS 5 wC_at5 rfl 3 (by decide) (hts _ m_0) (fun _ h9 => h9) rfl (tyX4_ok 3 (by decide)) rfl rfl (Nat.le_of_ble_eq_true rfl) dX4_copyFrom_59 (fun H locs hP hD hS => ?_)
  rw [wC_sI5_3] at hP hD
  refine lv_aload_n hx hb dX4_copyFrom_62 rfl (lv_at hl 0 rfl) ?_
  refine lv_aload_n hx hb dX4_copyFrom_63 rfl (lv_at hl 1 rfl) ?_
  refine va_get (D := G) (ci := 4) (v := .int (eI h 1 4)) (C := RX4) (T := TX4) (N := 13) hx hb hts iX4 hown hK hP 1 wC_at1 rfl 4 (by decide) (hts _ m_1) (fun _ h9 => h9) rfl dX4_copyFrom_64 ?_
  refine va_put (D := G) (ci := 4) (v := .int (eI h 1 4)) (ty := .int) (C := RX4) (T := TX4) (N := 13) hx hb hts iX4 tyX4 tyX4_ok nmX4 hown hK hP hD hS 5 wC_at5 rfl 4 (by decide) (hts _ m_1) (fun _ h9 => h9) rfl (tyX4_ok 4 (by decide)) rfl rfl (Nat.le_of_ble_eq_true rfl) dX4_copyFrom_67 (fun H locs hP hD hS => ?_)
  rw [wC_sI5_4] at hP hD
  refine lv_aload_n hx hb dX4_copyFrom_70 rfl (lv_at hl 0 rfl) ?_
  refine lv_aload_n hx hb dX4_copyFrom_71 rfl (lv_at hl 1 rfl) ?_
  refine va_get (D := G) (ci := 4) (v := .int (eI h 1 5)) (C := RX4) (T := TX4) (N := 13) hx hb hts iX4 hown hK hP 1 wC_at1 rfl 5 (by decide) (hts _ m_31) (fun _ h9 => h9) rfl dX4_copyFrom_72 ?_
  refine va_put (D := G) (ci := 4) (v := .int (eI h 1 5)) (ty := .int) (C := RX4) (T := TX4) (N := 13) hx hb hts iX4 tyX4 tyX4_ok nmX4 hown hK hP hD hS 5 wC_at5 rfl 5 (by decide) (hts _ m_31) (fun _ h9 => h9) rfl (tyX4_ok 5 (by decide)) rfl rfl (Nat.le_of_ble_eq_true rfl) dX4_copyFrom_75 (fun H locs hP hD hS => ?_)
  rw [wC_sI5_5] at hP hD
  refine lv_aload_n hx hb dX4_copyFrom_78 rfl (lv_at hl 0 rfl) ?_
  refine lv_aload_n hx hb dX4_copyFrom_79 rfl (lv_at hl 1 rfl) ?_
  refine va_get (D := G) (ci := 4) (v := .int (eI h 1 6)) (C := RX4) (T := TX4) (N := 13) hx hb hts iX4 hown hK hP 1 wC_at1 rfl 6 (by decide) (hts _ m_22) (fun _ h9 => h9) rfl dX4_copyFrom_80 ?_
  refine va_put (D := G) (ci := 4) (v := .int (eI h 1 6)) (ty := .int) (C := RX4) (T := TX4) (N := 13) hx hb hts iX4 tyX4 tyX4_ok nmX4 hown hK hP hD hS 5 wC_at5 rfl 6 (by decide) (hts _ m_22) (fun _ h9 => h9) rfl (tyX4_ok 6 (by decide)) rfl rfl (Nat.le_of_ble_eq_true rfl) dX4_copyFrom_83 (fun H locs hP hD hS => ?_)
  rw [wC_sI5_6] at hP hD
  refine lv_aload_n hx hb dX4_copyFrom_86 rfl (lv_at hl 0 rfl) ?_
  refine lv_aload_n hx hb dX4_copyFrom_87 rfl (lv_at hl 1 rfl) ?_
  refine va_get (D := G) (ci := 4) (v := .int (eI h 1 7)) (C := RX4) (T := TX4) (N := 13) hx hb hts iX4 hown hK hP 1 wC_at1 rfl 7 (by decide) (hts _ m_21) (fun _ h9 => h9) rfl dX4_copyFrom_88 ?_
  refine va_put (D := G) (ci := 4) (v := .int (eI h 1 7)) (ty := .int) (C := RX4) (T := TX4) (N := 13) hx hb hts iX4 tyX4 tyX4_ok nmX4 hown hK hP hD hS 5 wC_at5 rfl 7 (by decide) (hts _ m_21) (fun _ h9 => h9) rfl (tyX4_ok 7 (by decide)) rfl rfl (Nat.le_of_ble_eq_true rfl) dX4_copyFrom_91 (fun H locs hP hD hS => ?_)
  rw [wC_sI5_7] at hP hD
  refine lv_aload_n hx hb dX4_copyFrom_94 rfl (lv_at hl 0 rfl) ?_
  refine lv_aload_n hx hb dX4_copyFrom_95 rfl (lv_at hl 1 rfl) ?_
  refine va_get (D := G) (ci := 4) (v := .int (eI h 1 8)) (C := RX4) (T := TX4) (N := 13) hx hb hts iX4 hown hK hP 1 wC_at1 rfl 8 (by decide) (hts _ m_40) (fun _ h9 => h9) rfl dX4_copyFrom_96 ?_
  refine va_put (D := G) (ci := 4) (v := .int (eI h 1 8)) (ty := .int) (C := RX4) (T := TX4) (N := 13) hx hb hts iX4 tyX4 tyX4_ok nmX4 hown hK hP hD hS 5 wC_at5 rfl 8 (by decide) (hts _ m_40) (fun _ h9 => h9) rfl (tyX4_ok 8 (by decide)) rfl rfl (Nat.le_of_ble_eq_true rfl) dX4_copyFrom_99 (fun H locs hP hD hS => ?_)
  rw [wC_sI5_8] at hP hD
  refine lv_aload_n hx hb dX4_copyFrom_102 rfl (lv_at hl 0 rfl) ?_
  refine lv_aload_n hx hb dX4_copyFrom_103 rfl (lv_at hl 1 rfl) ?_
  refine va_get (D := G) (ci := 4) (v := .int (eI h 1 9)) (C := RX4) (T := TX4) (N := 13) hx hb hts iX4 hown hK hP 1 wC_at1 rfl 9 (by decide) (hts _ m_55) (fun _ h9 => h9) rfl dX4_copyFrom_104 ?_
  refine va_put (D := G) (ci := 4) (v := .int (eI h 1 9)) (ty := .int) (C := RX4) (T := TX4) (N := 13) hx hb hts iX4 tyX4 tyX4_ok nmX4 hown hK hP hD hS 5 wC_at5 rfl 9 (by decide) (hts _ m_55) (fun _ h9 => h9) rfl (tyX4_ok 9 (by decide)) rfl rfl (Nat.le_of_ble_eq_true rfl) dX4_copyFrom_107 (fun H locs hP hD hS => ?_)
  rw [wC_sI5_9] at hP hD
  refine lv_aload_n hx hb dX4_copyFrom_110 rfl (lv_at hl 0 rfl) ?_
  refine lv_aload_n hx hb dX4_copyFrom_111 rfl (lv_at hl 1 rfl) ?_
  refine va_get (D := G) (ci := 4) (v := .int (eI h 1 10)) (C := RX4) (T := TX4) (N := 13) hx hb hts iX4 hown hK hP 1 wC_at1 rfl 10 (by decide) (hts _ m_56) (fun _ h9 => h9) rfl dX4_copyFrom_112 ?_
  refine va_put (D := G) (ci := 4) (v := .int (eI h 1 10)) (ty := .int) (C := RX4) (T := TX4) (N := 13) hx hb hts iX4 tyX4 tyX4_ok nmX4 hown hK hP hD hS 5 wC_at5 rfl 10 (by decide) (hts _ m_56) (fun _ h9 => h9) rfl (tyX4_ok 10 (by decide)) rfl rfl (Nat.le_of_ble_eq_true rfl) dX4_copyFrom_115 (fun H locs hP hD hS => ?_)
  rw [wC_sI5_10] at hP hD
  refine lv_aload_n hx hb dX4_copyFrom_118 rfl (lv_at hl 0 rfl) ?_
  refine lv_aload_n hx hb dX4_copyFrom_119 rfl (lv_at hl 1 rfl) ?_
  refine va_get (D := G) (ci := 4) (v := .int (eI h 1 11)) (C := RX4) (T := TX4) (N := 13) hx hb hts iX4 hown hK hP 1 wC_at1 rfl 11 (by decide) (hts _ m_42) (fun _ h9 => h9) rfl dX4_copyFrom_120 ?_
  refine va_put (D := G) (ci := 4) (v := .int (eI h 1 11)) (ty := .int) (C := RX4) (T := TX4) (N := 13) hx hb hts iX4 tyX4 tyX4_ok nmX4 hown hK hP hD hS 5 wC_at5 rfl 11 (by decide) (hts _ m_42) (fun _ h9 => h9) rfl (tyX4_ok 11 (by decide)) rfl rfl (Nat.le_of_ble_eq_true rfl) dX4_copyFrom_123 (fun H locs hP hD hS => ?_)
  rw [wC_sI5_11] at hP hD
  refine lv_aload_n hx hb dX4_copyFrom_126 rfl (lv_at hl 0 rfl) ?_
  refine lv_aload_n hx hb dX4_copyFrom_127 rfl (lv_at hl 1 rfl) ?_
  refine va_get (D := G) (ci := 4) (v := .int (eI h 1 12)) (C := RX4) (T := TX4) (N := 13) hx hb hts iX4 hown hK hP 1 wC_at1 rfl 12 (by decide) (hts _ m_41) (fun _ h9 => h9) rfl dX4_copyFrom_128 ?_
  refine va_put (D := G) (ci := 4) (v := .int (eI h 1 12)) (ty := .int) (C := RX4) (T := TX4) (N := 13) hx hb hts iX4 tyX4 tyX4_ok nmX4 hown hK hP hD hS 5 wC_at5 rfl 12 (by decide) (hts _ m_41) (fun _ h9 => h9) rfl (tyX4_ok 12 (by decide)) rfl rfl (Nat.le_of_ble_eq_true rfl) dX4_copyFrom_131 (fun H locs hP hD hS => ?_)
  rw [wC_sI5_12] at hP hD
  obtain rfl := ob_one hF
  exact gw_vret () hx hb hr hlocks hP hD hS trivial dX4_copyFrom_134
def f_X4_copyFrom_b (h : HS) : Option HS := (some (sI (sI (sI (sI (sI (sI (sI (sI (sI (sI (sA (sA (sA h 1 0 (va_cpy (eA h 2 0) (eA h 1 0) 0 0 90)) 1 1 (va_cpy (eA h 2 1) (eA h 1 1) 0 0 12)) 1 2 (va_cpy (eA h 2 2) (eA h 1 2) 0 0 1880)) 1 3 (eI h 2 3)) 1 4 (eI h 2 4)) 1 5 (eI h 2 5)) 1 6 (eI h 2 6)) 1 7 (eI h 2 7)) 1 8 (eI h 2 8)) 1 9 (eI h 2 9)) 1 10 (eI h 2 10)) 1 11 (eI h 2 11)) 1 12 (eI h 2 12)))
set_option maxHeartbeats 4000000 in
set_option maxRecDepth 100000 in
theorem c_X4_copyFrom_b (l : Launch) (G : va_G) (cI cJ cZ cB cT : ClassId) (q : Nat → Nat) (h : HS)  (hh : HS) (hF : f_X4_copyFrom_b h = some hh) : gMv l yX4_copyFrom (gws yX4_copyFrom cX4_copyFrom 2 none) 1 G (gT cI cJ cZ cB cT) [.ref (q 1), .ref (q 5)] (wC q cI cJ cZ cB cT h) (fun (_ : Unit) => True) (fun (_ : Unit) => (wC q cI cJ cZ cB cT hh)) := by
  intro sz
  refine gM_start (y := yX4_copyFrom) (av := [.ref (q 1), .ref (q 5)]) (ws := (wC q cI cJ cZ cB cT h)) (Qf := fun A => va_Qv (fun (_ : Unit) => True) (gB G (fun (_ : Unit) => (wC q cI cJ cZ cB cT hh)) A) A) (cc := cX4_copyFrom) (maxL := 2) (ret := none) (by decide) (Nat.le_of_ble_eq_true rfl) ?_
  intro p e s m args below meth c A ls H hx hb hr hts hown hin hlocks hml hP hK hD hA hS hl hE
  have hl : lv_has ls 2 [(0, .ref (q 1)), (1, .ref (q 5))] := hl
  unfold f_X4_copyFrom_b at hF
  refine lv_aload_n hx hb dX4_copyFrom_0 rfl (lv_at hl 1 rfl) ?_
  refine va_get (D := G) (ci := 4) (v := .ref (q 6)) (C := RX4) (T := TX4) (N := 13) hx hb hts iX4 hown hK hP 5 wC_at5 rfl 0 (by decide) (hts _ m_2) (fun _ h9 => h9) rfl dX4_copyFrom_1 ?_
  refine lv_iconst (v := 0) hx hb dX4_copyFrom_4 (by decide) ?_
  refine lv_aload_n hx hb dX4_copyFrom_5 rfl (lv_at hl 0 rfl) ?_
  refine va_get (D := G) (ci := 4) (v := .ref (q 2)) (C := RX4) (T := TX4) (N := 13) hx hb hts iX4 hown hK hP 1 wC_at1 rfl 0 (by decide) (hts _ m_2) (fun _ h9 => h9) rfl dX4_copyFrom_6 ?_
  refine lv_iconst (v := 0) hx hb dX4_copyFrom_9 (by decide) ?_
  refine lv_aload_n hx hb dX4_copyFrom_10 rfl (lv_at hl 0 rfl) ?_
  refine va_get (D := G) (ci := 4) (v := .ref (q 2)) (C := RX4) (T := TX4) (N := 13) hx hb hts iX4 hown hK hP 1 wC_at1 rfl 0 (by decide) (hts _ m_2) (fun _ h9 => h9) rfl dX4_copyFrom_11 ?_
  refine va_alen (D := G) hx hb hK hP 2 0 wC_at2 rfl (v := 90) rfl dX4_copyFrom_14 ?_
  refine va_copyi (D := G) hx hb (by rw [hml]; exact hl.1.symm) hown (hts _ m_44) (hts _ m_45) (hts _ m_46) (hts _ m_47) hK hP hD hS 6 2 0 0 wC_at6 wC_at2 rfl rfl rfl (by decide) (by decide) (by decide) (by decide) (by decide) (fun _ _ => rfl) (Nat.le_of_ble_eq_true rfl) (Nat.le_of_ble_eq_true rfl) dX4_copyFrom_15 (fun H locs hP hD hS => ?_)
  rw [wC_sA2] at hP hD
  have hP : va_P G vwCl (wC q cI cJ cZ cB cT (sA h 1 0 (va_cpy (eA h 2 0) (eA h 1 0) 0 0 90))) H := hP
  have hD : va_D A (wC q cI cJ cZ cB cT (sA h 1 0 (va_cpy (eA h 2 0) (eA h 1 0) 0 0 90))) := hD
  refine lv_aload_n hx hb dX4_copyFrom_18 rfl (lv_at hl 1 rfl) ?_
  refine va_get (D := G) (ci := 4) (v := .ref (q 7)) (C := RX4) (T := TX4) (N := 13) hx hb hts iX4 hown hK hP 5 wC_at5 rfl 1 (by decide) (hts _ m_8) (fun _ h9 => h9) rfl dX4_copyFrom_19 ?_
  refine lv_iconst (v := 0) hx hb dX4_copyFrom_22 (by decide) ?_
  refine lv_aload_n hx hb dX4_copyFrom_23 rfl (lv_at hl 0 rfl) ?_
  refine va_get (D := G) (ci := 4) (v := .ref (q 3)) (C := RX4) (T := TX4) (N := 13) hx hb hts iX4 hown hK hP 1 wC_at1 rfl 1 (by decide) (hts _ m_8) (fun _ h9 => h9) rfl dX4_copyFrom_24 ?_
  refine lv_iconst (v := 0) hx hb dX4_copyFrom_27 (by decide) ?_
  refine lv_aload_n hx hb dX4_copyFrom_28 rfl (lv_at hl 0 rfl) ?_
  refine va_get (D := G) (ci := 4) (v := .ref (q 3)) (C := RX4) (T := TX4) (N := 13) hx hb hts iX4 hown hK hP 1 wC_at1 rfl 1 (by decide) (hts _ m_8) (fun _ h9 => h9) rfl dX4_copyFrom_29 ?_
  refine va_alen (D := G) hx hb hK hP 3 0 wC_at3 rfl (v := 12) rfl dX4_copyFrom_32 ?_
  refine va_copyi (D := G) hx hb (by rw [hml]; exact hl.1.symm) hown (hts _ m_44) (hts _ m_45) (hts _ m_46) (hts _ m_47) hK hP hD hS 7 3 0 0 wC_at7 wC_at3 rfl rfl rfl (by decide) (by decide) (by decide) (by decide) (by decide) (fun _ _ => rfl) (Nat.le_of_ble_eq_true rfl) (Nat.le_of_ble_eq_true rfl) dX4_copyFrom_33 (fun H locs hP hD hS => ?_)
  rw [wC_sA3] at hP hD
  have hP : va_P G vwCl (wC q cI cJ cZ cB cT (sA (sA h 1 0 (va_cpy (eA h 2 0) (eA h 1 0) 0 0 90)) 1 1 (va_cpy (eA h 2 1) (eA h 1 1) 0 0 12))) H := hP
  have hD : va_D A (wC q cI cJ cZ cB cT (sA (sA h 1 0 (va_cpy (eA h 2 0) (eA h 1 0) 0 0 90)) 1 1 (va_cpy (eA h 2 1) (eA h 1 1) 0 0 12))) := hD
  refine lv_aload_n hx hb dX4_copyFrom_36 rfl (lv_at hl 1 rfl) ?_
  refine va_get (D := G) (ci := 4) (v := .ref (q 8)) (C := RX4) (T := TX4) (N := 13) hx hb hts iX4 hown hK hP 5 wC_at5 rfl 2 (by decide) (hts _ m_43) (fun _ h9 => h9) rfl dX4_copyFrom_37 ?_
  refine lv_iconst (v := 0) hx hb dX4_copyFrom_40 (by decide) ?_
  refine lv_aload_n hx hb dX4_copyFrom_41 rfl (lv_at hl 0 rfl) ?_
  refine va_get (D := G) (ci := 4) (v := .ref (q 4)) (C := RX4) (T := TX4) (N := 13) hx hb hts iX4 hown hK hP 1 wC_at1 rfl 2 (by decide) (hts _ m_43) (fun _ h9 => h9) rfl dX4_copyFrom_42 ?_
  refine lv_iconst (v := 0) hx hb dX4_copyFrom_45 (by decide) ?_
  refine lv_aload_n hx hb dX4_copyFrom_46 rfl (lv_at hl 0 rfl) ?_
  refine va_get (D := G) (ci := 4) (v := .ref (q 4)) (C := RX4) (T := TX4) (N := 13) hx hb hts iX4 hown hK hP 1 wC_at1 rfl 2 (by decide) (hts _ m_43) (fun _ h9 => h9) rfl dX4_copyFrom_47 ?_
  refine va_alen (D := G) hx hb hK hP 4 0 wC_at4 rfl (v := 1880) rfl dX4_copyFrom_50 ?_
  refine va_copyi (D := G) hx hb (by rw [hml]; exact hl.1.symm) hown (hts _ m_44) (hts _ m_45) (hts _ m_46) (hts _ m_47) hK hP hD hS 8 4 0 0 wC_at8 wC_at4 rfl rfl rfl (by decide) (by decide) (by decide) (by decide) (by decide) (fun _ _ => rfl) (Nat.le_of_ble_eq_true rfl) (Nat.le_of_ble_eq_true rfl) dX4_copyFrom_51 (fun H locs hP hD hS => ?_)
  rw [wC_sA4] at hP hD
  have hP : va_P G vwCl (wC q cI cJ cZ cB cT (sA (sA (sA h 1 0 (va_cpy (eA h 2 0) (eA h 1 0) 0 0 90)) 1 1 (va_cpy (eA h 2 1) (eA h 1 1) 0 0 12)) 1 2 (va_cpy (eA h 2 2) (eA h 1 2) 0 0 1880))) H := hP
  have hD : va_D A (wC q cI cJ cZ cB cT (sA (sA (sA h 1 0 (va_cpy (eA h 2 0) (eA h 1 0) 0 0 90)) 1 1 (va_cpy (eA h 2 1) (eA h 1 1) 0 0 12)) 1 2 (va_cpy (eA h 2 2) (eA h 1 2) 0 0 1880))) := hD
  refine lv_aload_n hx hb dX4_copyFrom_54 rfl (lv_at hl 0 rfl) ?_
  refine lv_aload_n hx hb dX4_copyFrom_55 rfl (lv_at hl 1 rfl) ?_
  refine va_get (D := G) (ci := 4) (v := .int (eI h 2 3)) (C := RX4) (T := TX4) (N := 13) hx hb hts iX4 hown hK hP 5 wC_at5 rfl 3 (by decide) (hts _ m_0) (fun _ h9 => h9) rfl dX4_copyFrom_56 ?_
  refine va_put (D := G) (ci := 4) (v := .int (eI h 2 3)) (ty := .int) (C := RX4) (T := TX4) (N := 13) hx hb hts iX4 tyX4 tyX4_ok nmX4 hown hK hP hD hS 1 wC_at1 rfl 3 (by decide) (hts _ m_0) (fun _ h9 => h9) rfl (tyX4_ok 3 (by decide)) rfl rfl (Nat.le_of_ble_eq_true rfl) dX4_copyFrom_59 (fun H locs hP hD hS => ?_)
  rw [wC_sI1_3] at hP hD
  refine lv_aload_n hx hb dX4_copyFrom_62 rfl (lv_at hl 0 rfl) ?_
  refine lv_aload_n hx hb dX4_copyFrom_63 rfl (lv_at hl 1 rfl) ?_
  refine va_get (D := G) (ci := 4) (v := .int (eI h 2 4)) (C := RX4) (T := TX4) (N := 13) hx hb hts iX4 hown hK hP 5 wC_at5 rfl 4 (by decide) (hts _ m_1) (fun _ h9 => h9) rfl dX4_copyFrom_64 ?_
  refine va_put (D := G) (ci := 4) (v := .int (eI h 2 4)) (ty := .int) (C := RX4) (T := TX4) (N := 13) hx hb hts iX4 tyX4 tyX4_ok nmX4 hown hK hP hD hS 1 wC_at1 rfl 4 (by decide) (hts _ m_1) (fun _ h9 => h9) rfl (tyX4_ok 4 (by decide)) rfl rfl (Nat.le_of_ble_eq_true rfl) dX4_copyFrom_67 (fun H locs hP hD hS => ?_)
  rw [wC_sI1_4] at hP hD
  refine lv_aload_n hx hb dX4_copyFrom_70 rfl (lv_at hl 0 rfl) ?_
  refine lv_aload_n hx hb dX4_copyFrom_71 rfl (lv_at hl 1 rfl) ?_
  refine va_get (D := G) (ci := 4) (v := .int (eI h 2 5)) (C := RX4) (T := TX4) (N := 13) hx hb hts iX4 hown hK hP 5 wC_at5 rfl 5 (by decide) (hts _ m_31) (fun _ h9 => h9) rfl dX4_copyFrom_72 ?_
  refine va_put (D := G) (ci := 4) (v := .int (eI h 2 5)) (ty := .int) (C := RX4) (T := TX4) (N := 13) hx hb hts iX4 tyX4 tyX4_ok nmX4 hown hK hP hD hS 1 wC_at1 rfl 5 (by decide) (hts _ m_31) (fun _ h9 => h9) rfl (tyX4_ok 5 (by decide)) rfl rfl (Nat.le_of_ble_eq_true rfl) dX4_copyFrom_75 (fun H locs hP hD hS => ?_)
  rw [wC_sI1_5] at hP hD
  refine lv_aload_n hx hb dX4_copyFrom_78 rfl (lv_at hl 0 rfl) ?_
  refine lv_aload_n hx hb dX4_copyFrom_79 rfl (lv_at hl 1 rfl) ?_
  refine va_get (D := G) (ci := 4) (v := .int (eI h 2 6)) (C := RX4) (T := TX4) (N := 13) hx hb hts iX4 hown hK hP 5 wC_at5 rfl 6 (by decide) (hts _ m_22) (fun _ h9 => h9) rfl dX4_copyFrom_80 ?_
  refine va_put (D := G) (ci := 4) (v := .int (eI h 2 6)) (ty := .int) (C := RX4) (T := TX4) (N := 13) hx hb hts iX4 tyX4 tyX4_ok nmX4 hown hK hP hD hS 1 wC_at1 rfl 6 (by decide) (hts _ m_22) (fun _ h9 => h9) rfl (tyX4_ok 6 (by decide)) rfl rfl (Nat.le_of_ble_eq_true rfl) dX4_copyFrom_83 (fun H locs hP hD hS => ?_)
  rw [wC_sI1_6] at hP hD
  refine lv_aload_n hx hb dX4_copyFrom_86 rfl (lv_at hl 0 rfl) ?_
  refine lv_aload_n hx hb dX4_copyFrom_87 rfl (lv_at hl 1 rfl) ?_
  refine va_get (D := G) (ci := 4) (v := .int (eI h 2 7)) (C := RX4) (T := TX4) (N := 13) hx hb hts iX4 hown hK hP 5 wC_at5 rfl 7 (by decide) (hts _ m_21) (fun _ h9 => h9) rfl dX4_copyFrom_88 ?_
  refine va_put (D := G) (ci := 4) (v := .int (eI h 2 7)) (ty := .int) (C := RX4) (T := TX4) (N := 13) hx hb hts iX4 tyX4 tyX4_ok nmX4 hown hK hP hD hS 1 wC_at1 rfl 7 (by decide) (hts _ m_21) (fun _ h9 => h9) rfl (tyX4_ok 7 (by decide)) rfl rfl (Nat.le_of_ble_eq_true rfl) dX4_copyFrom_91 (fun H locs hP hD hS => ?_)
  rw [wC_sI1_7] at hP hD
  refine lv_aload_n hx hb dX4_copyFrom_94 rfl (lv_at hl 0 rfl) ?_
  refine lv_aload_n hx hb dX4_copyFrom_95 rfl (lv_at hl 1 rfl) ?_
  refine va_get (D := G) (ci := 4) (v := .int (eI h 2 8)) (C := RX4) (T := TX4) (N := 13) hx hb hts iX4 hown hK hP 5 wC_at5 rfl 8 (by decide) (hts _ m_40) (fun _ h9 => h9) rfl dX4_copyFrom_96 ?_
  refine va_put (D := G) (ci := 4) (v := .int (eI h 2 8)) (ty := .int) (C := RX4) (T := TX4) (N := 13) hx hb hts iX4 tyX4 tyX4_ok nmX4 hown hK hP hD hS 1 wC_at1 rfl 8 (by decide) (hts _ m_40) (fun _ h9 => h9) rfl (tyX4_ok 8 (by decide)) rfl rfl (Nat.le_of_ble_eq_true rfl) dX4_copyFrom_99 (fun H locs hP hD hS => ?_)
  rw [wC_sI1_8] at hP hD
  refine lv_aload_n hx hb dX4_copyFrom_102 rfl (lv_at hl 0 rfl) ?_
  refine lv_aload_n hx hb dX4_copyFrom_103 rfl (lv_at hl 1 rfl) ?_
  refine va_get (D := G) (ci := 4) (v := .int (eI h 2 9)) (C := RX4) (T := TX4) (N := 13) hx hb hts iX4 hown hK hP 5 wC_at5 rfl 9 (by decide) (hts _ m_55) (fun _ h9 => h9) rfl dX4_copyFrom_104 ?_
  refine va_put (D := G) (ci := 4) (v := .int (eI h 2 9)) (ty := .int) (C := RX4) (T := TX4) (N := 13) hx hb hts iX4 tyX4 tyX4_ok nmX4 hown hK hP hD hS 1 wC_at1 rfl 9 (by decide) (hts _ m_55) (fun _ h9 => h9) rfl (tyX4_ok 9 (by decide)) rfl rfl (Nat.le_of_ble_eq_true rfl) dX4_copyFrom_107 (fun H locs hP hD hS => ?_)
  rw [wC_sI1_9] at hP hD
  refine lv_aload_n hx hb dX4_copyFrom_110 rfl (lv_at hl 0 rfl) ?_
  refine lv_aload_n hx hb dX4_copyFrom_111 rfl (lv_at hl 1 rfl) ?_
  refine va_get (D := G) (ci := 4) (v := .int (eI h 2 10)) (C := RX4) (T := TX4) (N := 13) hx hb hts iX4 hown hK hP 5 wC_at5 rfl 10 (by decide) (hts _ m_56) (fun _ h9 => h9) rfl dX4_copyFrom_112 ?_
  refine va_put (D := G) (ci := 4) (v := .int (eI h 2 10)) (ty := .int) (C := RX4) (T := TX4) (N := 13) hx hb hts iX4 tyX4 tyX4_ok nmX4 hown hK hP hD hS 1 wC_at1 rfl 10 (by decide) (hts _ m_56) (fun _ h9 => h9) rfl (tyX4_ok 10 (by decide)) rfl rfl (Nat.le_of_ble_eq_true rfl) dX4_copyFrom_115 (fun H locs hP hD hS => ?_)
  rw [wC_sI1_10] at hP hD
  refine lv_aload_n hx hb dX4_copyFrom_118 rfl (lv_at hl 0 rfl) ?_
  refine lv_aload_n hx hb dX4_copyFrom_119 rfl (lv_at hl 1 rfl) ?_
  refine va_get (D := G) (ci := 4) (v := .int (eI h 2 11)) (C := RX4) (T := TX4) (N := 13) hx hb hts iX4 hown hK hP 5 wC_at5 rfl 11 (by decide) (hts _ m_42) (fun _ h9 => h9) rfl dX4_copyFrom_120 ?_
  refine va_put (D := G) (ci := 4) (v := .int (eI h 2 11)) (ty := .int) (C := RX4) (T := TX4) (N := 13) hx hb hts iX4 tyX4 tyX4_ok nmX4 hown hK hP hD hS 1 wC_at1 rfl 11 (by decide) (hts _ m_42) (fun _ h9 => h9) rfl (tyX4_ok 11 (by decide)) rfl rfl (Nat.le_of_ble_eq_true rfl) dX4_copyFrom_123 (fun H locs hP hD hS => ?_)
  rw [wC_sI1_11] at hP hD
  refine lv_aload_n hx hb dX4_copyFrom_126 rfl (lv_at hl 0 rfl) ?_
  refine lv_aload_n hx hb dX4_copyFrom_127 rfl (lv_at hl 1 rfl) ?_
  refine va_get (D := G) (ci := 4) (v := .int (eI h 2 12)) (C := RX4) (T := TX4) (N := 13) hx hb hts iX4 hown hK hP 5 wC_at5 rfl 12 (by decide) (hts _ m_41) (fun _ h9 => h9) rfl dX4_copyFrom_128 ?_
  refine va_put (D := G) (ci := 4) (v := .int (eI h 2 12)) (ty := .int) (C := RX4) (T := TX4) (N := 13) hx hb hts iX4 tyX4 tyX4_ok nmX4 hown hK hP hD hS 1 wC_at1 rfl 12 (by decide) (hts _ m_41) (fun _ h9 => h9) rfl (tyX4_ok 12 (by decide)) rfl rfl (Nat.le_of_ble_eq_true rfl) dX4_copyFrom_131 (fun H locs hP hD hS => ?_)
  rw [wC_sI1_12] at hP hD
  obtain rfl := ob_one hF
  exact gw_vret () hx hb hr hlocks hP hD hS trivial dX4_copyFrom_134
def f_X8_isDigit_15 (y0 : Int32) : Option Int32 := (if y0 = 0 ∨ y0 = 1 then (some y0) else none)
def f_X8_isDigit_14 : Option Int32 := (f_X8_isDigit_15 0)
def f_X8_isDigit (p1 : Int32) : Option Int32 := (if p1 < 0 then (f_X8_isDigit_14) else (if 9 < p1 then (f_X8_isDigit_14) else (f_X8_isDigit_15 1)))
set_option maxHeartbeats 4000000 in
set_option maxRecDepth 100000 in
theorem c_X8_isDigit (l : Launch) (G : va_G) (cI cJ cZ cB cT : ClassId)   (p1 : Int32) (rr : Int32)  (hF : f_X8_isDigit p1 = some rr) : gMi l yX8_isDigit (gws yX8_isDigit cX8_isDigit 1 (some .boolean)) 1 G (gT cI cJ cZ cB cT) [.int p1] ([] : va_W) (fun x (_ : Unit) => x = rr) (fun (_ : Unit) => ([] : va_W)) := by
  intro sz
  refine gM_start (y := yX8_isDigit) (av := [.int p1]) (ws := ([] : va_W)) (Qf := fun A => va_Qi (fun x (_ : Unit) => x = rr) (gB G (fun (_ : Unit) => ([] : va_W)) A) A) (cc := cX8_isDigit) (maxL := 1) (ret := (some .boolean)) (by decide) (Nat.le_of_ble_eq_true rfl) ?_
  intro p e s m args below meth c A ls H hx hb hr hts hown hin hlocks hml hP hK hD hA hS hl hE
  have hl : lv_has ls 1 [(0, .int p1)] := hl
  have hJ_15 : ∀  (y0 : Int32), f_X8_isDigit_15 y0 = some rr → ∀ (H : Heap) (locs : List Loc) (ls : Array Slot), va_P G vwCl ([] : va_W) H → va_D A ([] : va_W) → va_S A s.heap H locs → lv_has ls 1 [] → W p l e (gRm 1) s m args below meth c H locs 0 0 (MQ below (va_Qi (fun x (_ : Unit) => x = rr) (gB G (fun (_ : Unit) => ([] : va_W)) A) A) args s 0 0 A) (F0 m 15 ls [.int y0]) := by
    intro  y0 hF H locs ls hP hD hS hl
    unfold f_X8_isDigit_15 at hF
    obtain ⟨hz_3, hF⟩ := ob_if hF
    obtain rfl := ob_one hF
    exact gw_zret () hx hb hr hlocks (gz hz_3) hP hD hS rfl dX8_isDigit_15
  have hJ_14 : f_X8_isDigit_14 = some rr → ∀ (H : Heap) (locs : List Loc) (ls : Array Slot), va_P G vwCl ([] : va_W) H → va_D A ([] : va_W) → va_S A s.heap H locs → lv_has ls 1 [] → W p l e (gRm 1) s m args below meth c H locs 0 0 (MQ below (va_Qi (fun x (_ : Unit) => x = rr) (gB G (fun (_ : Unit) => ([] : va_W)) A) A) args s 0 0 A) (F0 m 14 ls []) := by
    intro  hF H locs ls hP hD hS hl
    unfold f_X8_isDigit_14 at hF
    refine lv_iconst (v := 0) hx hb dX8_isDigit_14 (by decide) ?_
    exact hJ_15 0 hF H _ ls hP hD hS (lv_sub hl [] rfl)
  unfold f_X8_isDigit at hF
  refine lv_iload_n hx hb dX8_isDigit_0 rfl (lv_at hl 0 rfl) ?_
  refine lv_if_lt (tgt := 14) hx hb dX8_isDigit_1 (by decide) (fun c_1 => ?_) (fun c_1 => ?_)
  · have hF := ob_pos c_1 hF
    exact hJ_14 hF H _ ls hP hD hS (lv_sub hl [] rfl)
  · have hF := ob_neg c_1 hF
    refine lv_iload_n hx hb dX8_isDigit_4 rfl (lv_at hl 0 rfl) ?_
    refine lv_bipush (v := 9) hx hb dX8_isDigit_5 (by decide) ?_
    refine lv_icmp_gt (tgt := 14) hx hb dX8_isDigit_7 (by decide) (fun c_2 => ?_) (fun c_2 => ?_)
    · have hF := ob_pos c_2 hF
      exact hJ_14 hF H _ ls hP hD hS (lv_sub hl [] rfl)
    · have hF := ob_neg c_2 hF
      refine lv_iconst (v := 1) hx hb dX8_isDigit_10 (by decide) ?_
      refine lv_goto (tgt := 15) hx hb dX8_isDigit_11 (by decide) ?_
      exact hJ_15 1 hF H _ ls hP hD hS (lv_sub hl [] rfl)
def f_X8_isLetter_15 (y0 : Int32) : Option Int32 := (if y0 = 0 ∨ y0 = 1 then (some y0) else none)
def f_X8_isLetter_14 : Option Int32 := (f_X8_isLetter_15 0)
def f_X8_isLetter (p1 : Int32) : Option Int32 := (if p1 < 0 then (f_X8_isLetter_14) else (if 6 ≤ p1 then (f_X8_isLetter_14) else (f_X8_isLetter_15 1)))
set_option maxHeartbeats 4000000 in
set_option maxRecDepth 100000 in
theorem c_X8_isLetter (l : Launch) (G : va_G) (cI cJ cZ cB cT : ClassId)   (p1 : Int32) (rr : Int32)  (hF : f_X8_isLetter p1 = some rr) : gMi l yX8_isLetter (gws yX8_isLetter cX8_isLetter 1 (some .boolean)) 1 G (gT cI cJ cZ cB cT) [.int p1] ([] : va_W) (fun x (_ : Unit) => x = rr) (fun (_ : Unit) => ([] : va_W)) := by
  intro sz
  refine gM_start (y := yX8_isLetter) (av := [.int p1]) (ws := ([] : va_W)) (Qf := fun A => va_Qi (fun x (_ : Unit) => x = rr) (gB G (fun (_ : Unit) => ([] : va_W)) A) A) (cc := cX8_isLetter) (maxL := 1) (ret := (some .boolean)) (by decide) (Nat.le_of_ble_eq_true rfl) ?_
  intro p e s m args below meth c A ls H hx hb hr hts hown hin hlocks hml hP hK hD hA hS hl hE
  have hl : lv_has ls 1 [(0, .int p1)] := hl
  have hJ_15 : ∀  (y0 : Int32), f_X8_isLetter_15 y0 = some rr → ∀ (H : Heap) (locs : List Loc) (ls : Array Slot), va_P G vwCl ([] : va_W) H → va_D A ([] : va_W) → va_S A s.heap H locs → lv_has ls 1 [] → W p l e (gRm 1) s m args below meth c H locs 0 0 (MQ below (va_Qi (fun x (_ : Unit) => x = rr) (gB G (fun (_ : Unit) => ([] : va_W)) A) A) args s 0 0 A) (F0 m 15 ls [.int y0]) := by
    intro  y0 hF H locs ls hP hD hS hl
    unfold f_X8_isLetter_15 at hF
    obtain ⟨hz_3, hF⟩ := ob_if hF
    obtain rfl := ob_one hF
    exact gw_zret () hx hb hr hlocks (gz hz_3) hP hD hS rfl dX8_isLetter_15
  have hJ_14 : f_X8_isLetter_14 = some rr → ∀ (H : Heap) (locs : List Loc) (ls : Array Slot), va_P G vwCl ([] : va_W) H → va_D A ([] : va_W) → va_S A s.heap H locs → lv_has ls 1 [] → W p l e (gRm 1) s m args below meth c H locs 0 0 (MQ below (va_Qi (fun x (_ : Unit) => x = rr) (gB G (fun (_ : Unit) => ([] : va_W)) A) A) args s 0 0 A) (F0 m 14 ls []) := by
    intro  hF H locs ls hP hD hS hl
    unfold f_X8_isLetter_14 at hF
    refine lv_iconst (v := 0) hx hb dX8_isLetter_14 (by decide) ?_
    exact hJ_15 0 hF H _ ls hP hD hS (lv_sub hl [] rfl)
  unfold f_X8_isLetter at hF
  refine lv_iload_n hx hb dX8_isLetter_0 rfl (lv_at hl 0 rfl) ?_
  refine lv_if_lt (tgt := 14) hx hb dX8_isLetter_1 (by decide) (fun c_1 => ?_) (fun c_1 => ?_)
  · have hF := ob_pos c_1 hF
    exact hJ_14 hF H _ ls hP hD hS (lv_sub hl [] rfl)
  · have hF := ob_neg c_1 hF
    refine lv_iload_n hx hb dX8_isLetter_4 rfl (lv_at hl 0 rfl) ?_
    refine lv_bipush (v := 6) hx hb dX8_isLetter_5 (by decide) ?_
    refine lv_icmp_ge (tgt := 14) hx hb dX8_isLetter_7 (by decide) (fun c_2 => ?_) (fun c_2 => ?_)
    · have hF := ob_pos c_2 hF
      exact hJ_14 hF H _ ls hP hD hS (lv_sub hl [] rfl)
    · have hF := ob_neg c_2 hF
      refine lv_iconst (v := 1) hx hb dX8_isLetter_10 (by decide) ?_
      refine lv_goto (tgt := 15) hx hb dX8_isLetter_11 (by decide) ?_
      exact hJ_15 1 hF H _ ls hP hD hS (lv_sub hl [] rfl)
def f_X8_isQuill_21 (y0 : Int32) : Option Int32 := (if y0 = 0 ∨ y0 = 1 then (some y0) else none)
def f_X8_isQuill_20 : Option Int32 := (f_X8_isQuill_21 0)
def f_X8_isQuill (p1 : Int32) (p2 : Int32) : Option Int32 := (ob1 (f_X8_isLetter p1) (fun r_1 => (if r_1 = 0 then (f_X8_isQuill_20) else (if p2 < 0 then (f_X8_isQuill_20) else (if 3 ≤ p2 then (f_X8_isQuill_20) else (f_X8_isQuill_21 1))))))
theorem e_X8_isLetter : yX8_isLetter.cls = RX8 ∧ yX8_isLetter.cls ≠ "java/lang/invoke/MethodHandle" ∧ yX8_isLetter.cls ≠ "java/lang/invoke/VarHandle" ∧ (parseMethodDescriptor yX8_isLetter.desc).map (fun d => d.parameters.length) = some 1 := by decide +kernel
set_option maxHeartbeats 4000000 in
set_option maxRecDepth 100000 in
theorem c_X8_isQuill (l : Launch) (G : va_G) (cI cJ cZ cB cT : ClassId)   (p1 : Int32) (p2 : Int32) (rr : Int32)  (hF : f_X8_isQuill p1 p2 = some rr) : gMi l yX8_isQuill (gws yX8_isQuill cX8_isQuill 2 (some .boolean)) 2 G (gT cI cJ cZ cB cT) [.int p1, .int p2] ([] : va_W) (fun x (_ : Unit) => x = rr) (fun (_ : Unit) => ([] : va_W)) := by
  intro sz
  refine gM_start (y := yX8_isQuill) (av := [.int p1, .int p2]) (ws := ([] : va_W)) (Qf := fun A => va_Qi (fun x (_ : Unit) => x = rr) (gB G (fun (_ : Unit) => ([] : va_W)) A) A) (cc := cX8_isQuill) (maxL := 2) (ret := (some .boolean)) (by decide) (Nat.le_of_ble_eq_true rfl) ?_
  intro p e s m args below meth c A ls H hx hb hr hts hown hin hlocks hml hP hK hD hA hS hl hE
  have hl : lv_has ls 2 [(0, .int p1), (1, .int p2)] := hl
  have hJ_21 : ∀  (y0 : Int32), f_X8_isQuill_21 y0 = some rr → ∀ (H : Heap) (locs : List Loc) (ls : Array Slot), va_P G vwCl ([] : va_W) H → va_D A ([] : va_W) → va_S A s.heap H locs → lv_has ls 2 [] → W p l e (gRm 2) s m args below meth c H locs 0 0 (MQ below (va_Qi (fun x (_ : Unit) => x = rr) (gB G (fun (_ : Unit) => ([] : va_W)) A) A) args s 0 0 A) (F0 m 21 ls [.int y0]) := by
    intro  y0 hF H locs ls hP hD hS hl
    unfold f_X8_isQuill_21 at hF
    obtain ⟨hz_5, hF⟩ := ob_if hF
    obtain rfl := ob_one hF
    exact gw_zret () hx hb hr hlocks (gz hz_5) hP hD hS rfl dX8_isQuill_21
  have hJ_20 : f_X8_isQuill_20 = some rr → ∀ (H : Heap) (locs : List Loc) (ls : Array Slot), va_P G vwCl ([] : va_W) H → va_D A ([] : va_W) → va_S A s.heap H locs → lv_has ls 2 [] → W p l e (gRm 2) s m args below meth c H locs 0 0 (MQ below (va_Qi (fun x (_ : Unit) => x = rr) (gB G (fun (_ : Unit) => ([] : va_W)) A) A) args s 0 0 A) (F0 m 20 ls []) := by
    intro  hF H locs ls hP hD hS hl
    unfold f_X8_isQuill_20 at hF
    refine lv_iconst (v := 0) hx hb dX8_isQuill_20 (by decide) ?_
    exact hJ_21 0 hF H _ ls hP hD hS (lv_sub hl [] rfl)
  unfold f_X8_isQuill at hF
  refine lv_iload_n hx hb dX8_isQuill_0 rfl (lv_at hl 0 rfl) ?_
  obtain ⟨r_1, e_1, hF⟩ := ob1_some hF
  refine gx_calli0 (gx_runS0 (As := [.int p1]) (rest := []) ⟨hx, hb, hml, hown, hts⟩ (c_X8_isLetter l G cI cJ cZ cB cT   p1 r_1 e_1 H.size) (gG_S m_58 m_59 m_60 m_57) rfl e_X8_isLetter ⟨Nat.le_of_ble_eq_true rfl, Nat.le_of_ble_eq_true rfl⟩ hK hE hS hA rfl hl.1 rfl (Nat.le_of_ble_eq_true rfl) dX8_isQuill_1 ⟨Nat.le_refl _, Nat.le_refl _⟩) hP hD hS hA (fun x_1 u_1 H locs hw_1 hP hD hS => ?_)
  subst x_1
  refine lv_if_eq (tgt := 20) hx hb dX8_isQuill_4 (by decide) (fun c_2 => ?_) (fun c_2 => ?_)
  · have hF := ob_pos c_2 hF
    exact hJ_20 hF H _ ls hP hD hS (lv_sub hl [] rfl)
  · have hF := ob_neg c_2 hF
    refine lv_iload_n hx hb dX8_isQuill_7 rfl (lv_at hl 1 rfl) ?_
    refine lv_if_lt (tgt := 20) hx hb dX8_isQuill_8 (by decide) (fun c_3 => ?_) (fun c_3 => ?_)
    · have hF := ob_pos c_3 hF
      exact hJ_20 hF H _ ls hP hD hS (lv_sub hl [] rfl)
    · have hF := ob_neg c_3 hF
      refine lv_iload_n hx hb dX8_isQuill_11 rfl (lv_at hl 1 rfl) ?_
      refine lv_iconst (v := 3) hx hb dX8_isQuill_12 (by decide) ?_
      refine lv_icmp_ge (tgt := 20) hx hb dX8_isQuill_13 (by decide) (fun c_4 => ?_) (fun c_4 => ?_)
      · have hF := ob_pos c_4 hF
        exact hJ_20 hF H _ ls hP hD hS (lv_sub hl [] rfl)
      · have hF := ob_neg c_4 hF
        refine lv_iconst (v := 1) hx hb dX8_isQuill_16 (by decide) ?_
        refine lv_goto (tgt := 21) hx hb dX8_isQuill_17 (by decide) ?_
        exact hJ_21 1 hF H _ ls hP hD hS (lv_sub hl [] rfl)
def f_X8_halvesOf_21 (y0 : Int32) : Option Int32 := (some y0)
def f_X8_halvesOf_16 (x0 : Int32) : Option Int32 := (f_X8_halvesOf_21 x0)
def f_X8_halvesOf (p1 : Int32) : Option Int32 := (if p1 = 0 then (some 3) else (if p1 = 1 then (f_X8_halvesOf_16 p1) else (if p1 = 2 then (f_X8_halvesOf_16 p1) else (f_X8_halvesOf_21 0))))
set_option maxHeartbeats 4000000 in
set_option maxRecDepth 100000 in
theorem c_X8_halvesOf (l : Launch) (G : va_G) (cI cJ cZ cB cT : ClassId)   (p1 : Int32) (rr : Int32)  (hF : f_X8_halvesOf p1 = some rr) : gMi l yX8_halvesOf (gws yX8_halvesOf cX8_halvesOf 1 (some .int)) 1 G (gT cI cJ cZ cB cT) [.int p1] ([] : va_W) (fun x (_ : Unit) => x = rr) (fun (_ : Unit) => ([] : va_W)) := by
  intro sz
  refine gM_start (y := yX8_halvesOf) (av := [.int p1]) (ws := ([] : va_W)) (Qf := fun A => va_Qi (fun x (_ : Unit) => x = rr) (gB G (fun (_ : Unit) => ([] : va_W)) A) A) (cc := cX8_halvesOf) (maxL := 1) (ret := (some .int)) (by decide) (Nat.le_of_ble_eq_true rfl) ?_
  intro p e s m args below meth c A ls H hx hb hr hts hown hin hlocks hml hP hK hD hA hS hl hE
  have hl : lv_has ls 1 [(0, .int p1)] := hl
  have hJ_21 : ∀  (y0 : Int32), f_X8_halvesOf_21 y0 = some rr → ∀ (H : Heap) (locs : List Loc) (ls : Array Slot), va_P G vwCl ([] : va_W) H → va_D A ([] : va_W) → va_S A s.heap H locs → lv_has ls 1 [] → W p l e (gRm 1) s m args below meth c H locs 0 0 (MQ below (va_Qi (fun x (_ : Unit) => x = rr) (gB G (fun (_ : Unit) => ([] : va_W)) A) A) args s 0 0 A) (F0 m 21 ls [.int y0]) := by
    intro  y0 hF H locs ls hP hD hS hl
    unfold f_X8_halvesOf_21 at hF
    obtain rfl := ob_one hF
    exact gw_iret () hx hb hr hlocks hP hD hS rfl dX8_halvesOf_21
  have hJ_16 : ∀  (x0 : Int32), f_X8_halvesOf_16 x0 = some rr → ∀ (H : Heap) (locs : List Loc) (ls : Array Slot), va_P G vwCl ([] : va_W) H → va_D A ([] : va_W) → va_S A s.heap H locs → lv_has ls 1 [(0, .int x0)] → W p l e (gRm 1) s m args below meth c H locs 0 0 (MQ below (va_Qi (fun x (_ : Unit) => x = rr) (gB G (fun (_ : Unit) => ([] : va_W)) A) A) args s 0 0 A) (F0 m 16 ls []) := by
    intro  x0 hF H locs ls hP hD hS hl
    unfold f_X8_halvesOf_16 at hF
    refine lv_iload_n hx hb dX8_halvesOf_16 rfl (lv_at hl 0 rfl) ?_
    refine lv_goto (tgt := 21) hx hb dX8_halvesOf_17 (by decide) ?_
    exact hJ_21 x0 hF H _ ls hP hD hS (lv_sub hl [] rfl)
  unfold f_X8_halvesOf at hF
  refine lv_iload_n hx hb dX8_halvesOf_0 rfl (lv_at hl 0 rfl) ?_
  refine lv_if_ne (tgt := 6) hx hb dX8_halvesOf_1 (by decide) (fun c_1 => ?_) (fun c_1 => ?_)
  · have hF := ob_neg c_1 hF
    refine lv_iload_n hx hb dX8_halvesOf_6 rfl (lv_at hl 0 rfl) ?_
    refine lv_iconst (v := 1) hx hb dX8_halvesOf_7 (by decide) ?_
    refine lv_icmp_eq (tgt := 16) hx hb dX8_halvesOf_8 (by decide) (fun c_2 => ?_) (fun c_2 => ?_)
    · have hF := ob_pos c_2 hF
      exact hJ_16 p1 hF H _ ls hP hD hS (lv_sub hl [0] rfl)
    · have hF := ob_neg c_2 hF
      refine lv_iload_n hx hb dX8_halvesOf_11 rfl (lv_at hl 0 rfl) ?_
      refine lv_iconst (v := 2) hx hb dX8_halvesOf_12 (by decide) ?_
      refine lv_icmp_ne (tgt := 20) hx hb dX8_halvesOf_13 (by decide) (fun c_3 => ?_) (fun c_3 => ?_)
      · have hF := ob_neg c_3 hF
        refine lv_iconst (v := 0) hx hb dX8_halvesOf_20 (by decide) ?_
        exact hJ_21 0 hF H _ ls hP hD hS (lv_sub hl [] rfl)
      · have hF := ob_pos c_3 hF
        exact hJ_16 p1 hF H _ ls hP hD hS (lv_sub hl [0] rfl)
  · have hF := ob_pos c_1 hF
    refine lv_iconst (v := 3) hx hb dX8_halvesOf_4 (by decide) ?_
    obtain rfl := ob_one hF
    exact gw_iret () hx hb hr hlocks hP hD hS rfl dX8_halvesOf_5
def f_X8_commonDivisor_58 (y0 : Int64) : Option Int64 := (some y0)
def f_X8_commonDivisor_45 (x4 : Int64) : Option Int64 := (if (lg_cmp x4 0) ≤ 0 then (f_X8_commonDivisor_58 1) else (f_X8_commonDivisor_58 x4))
def f_X8_commonDivisor_9 : Nat → Int64 → Int64 → Int32 → Option Int64
  | 0, _, _, _ => none
  | n + 1, x4, x6, x8 => (if 200 ≤ x8 then (f_X8_commonDivisor_45 x4) else (if (lg_cmp x6 0) = 0 then (f_X8_commonDivisor_45 x4) else (if ¬ x6 = 0 then ((f_X8_commonDivisor_9 n) x6 (x4 - x4 / x6 * x6) (x8 + 1)) else none)))
theorem f_X8_commonDivisor_9_s (n : Nat) (x4 : Int64) (x6 : Int64) (x8 : Int32) : f_X8_commonDivisor_9 (n + 1) x4 x6 x8 = (if 200 ≤ x8 then (f_X8_commonDivisor_45 x4) else (if (lg_cmp x6 0) = 0 then (f_X8_commonDivisor_45 x4) else (if ¬ x6 = 0 then ((f_X8_commonDivisor_9 n) x6 (x4 - x4 / x6 * x6) (x8 + 1)) else none))) := rfl
def f_X8_commonDivisor (p1 : Int64) (p2 : Int64) : Option Int64 := (f_X8_commonDivisor_9 8589934592 p1 p2 0)
set_option maxHeartbeats 4000000 in
set_option maxRecDepth 100000 in
theorem c_X8_commonDivisor (l : Launch) (G : va_G) (cI cJ cZ cB cT : ClassId)   (p1 : Int64) (p2 : Int64) (rr : Int64)  (hF : f_X8_commonDivisor p1 p2 = some rr) : gMl l yX8_commonDivisor (gws yX8_commonDivisor cX8_commonDivisor 11 (some .long)) 1 G (gT cI cJ cZ cB cT) [.long p1, .long p2] ([] : va_W) (fun x (_ : Unit) => x = rr) (fun (_ : Unit) => ([] : va_W)) := by
  intro sz
  refine gM_start (y := yX8_commonDivisor) (av := [.long p1, .long p2]) (ws := ([] : va_W)) (Qf := fun A => va_Ql (fun x (_ : Unit) => x = rr) (gB G (fun (_ : Unit) => ([] : va_W)) A) A) (cc := cX8_commonDivisor) (maxL := 11) (ret := (some .long)) (by decide) (Nat.le_of_ble_eq_true rfl) ?_
  intro p e s m args below meth c A ls H hx hb hr hts hown hin hlocks hml hP hK hD hA hS hl hE
  have hl : lv_has ls 11 [(0, .long p1), (2, .long p2)] := hl
  have hJ_58 : ∀  (y0 : Int64), f_X8_commonDivisor_58 y0 = some rr → ∀ (H : Heap) (locs : List Loc) (ls : Array Slot), va_P G vwCl ([] : va_W) H → va_D A ([] : va_W) → va_S A s.heap H locs → lv_has ls 11 [] → W p l e (gRm 1) s m args below meth c H locs 0 0 (MQ below (va_Ql (fun x (_ : Unit) => x = rr) (gB G (fun (_ : Unit) => ([] : va_W)) A) A) args s 0 0 A) (F0 m 58 ls [.long y0]) := by
    intro  y0 hF H locs ls hP hD hS hl
    unfold f_X8_commonDivisor_58 at hF
    obtain rfl := ob_one hF
    exact gw_lret () hx hb hr hlocks hP hD hS rfl dX8_commonDivisor_58
  have hJ_45 : ∀  (x4 : Int64), f_X8_commonDivisor_45 x4 = some rr → ∀ (H : Heap) (locs : List Loc) (ls : Array Slot), va_P G vwCl ([] : va_W) H → va_D A ([] : va_W) → va_S A s.heap H locs → lv_has ls 11 [(4, .long x4)] → W p l e (gRm 1) s m args below meth c H locs 0 0 (MQ below (va_Ql (fun x (_ : Unit) => x = rr) (gB G (fun (_ : Unit) => ([] : va_W)) A) A) args s 0 0 A) (F0 m 45 ls []) := by
    intro  x4 hF H locs ls hP hD hS hl
    unfold f_X8_commonDivisor_45 at hF
    refine lv_lload hx hb dX8_commonDivisor_45 (lv_at hl 0 rfl) ?_
    refine lv_lconst (v := 0) hx hb dX8_commonDivisor_47 (by decide) ?_
    refine W.lcmp hx hb dX8_commonDivisor_48 ?_
    refine lv_if_le (tgt := 57) hx hb dX8_commonDivisor_49 (by decide) (fun c_4 => ?_) (fun c_4 => ?_)
    · have hF := ob_pos c_4 hF
      refine lv_lconst (v := 1) hx hb dX8_commonDivisor_57 (by decide) ?_
      exact hJ_58 1 hF H _ ls hP hD hS (lv_sub hl [] rfl)
    · have hF := ob_neg c_4 hF
      refine lv_lload hx hb dX8_commonDivisor_52 (lv_at hl 0 rfl) ?_
      refine lv_goto (tgt := 58) hx hb dX8_commonDivisor_54 (by decide) ?_
      exact hJ_58 x4 hF H _ ls hP hD hS (lv_sub hl [] rfl)
  have hJ_9 : ∀ (n_9 : Nat)  (x4 : Int64) (x6 : Int64) (x8 : Int32), f_X8_commonDivisor_9 n_9 x4 x6 x8 = some rr → ∀ (H : Heap) (locs : List Loc) (ls : Array Slot), va_P G vwCl ([] : va_W) H → va_D A ([] : va_W) → va_S A s.heap H locs → lv_has ls 11 [(4, .long x4), (6, .long x6), (8, .int x8)] → W p l e (gRm 1) s m args below meth c H locs 0 0 (MQ below (va_Ql (fun x (_ : Unit) => x = rr) (gB G (fun (_ : Unit) => ([] : va_W)) A) A) args s 0 0 A) (F0 m 9 ls []) := by
    intro n_9
    induction n_9 with
    | zero =>
      intro  x4 x6 x8 hF
      exact absurd hF (by simp [f_X8_commonDivisor_9])
    | succ n_9 ih_9 =>
      intro  x4 x6 x8 hF H locs ls hP hD hS hl
      rw [f_X8_commonDivisor_9_s] at hF
      refine lv_iload hx hb dX8_commonDivisor_9 (lv_at hl 2 rfl) ?_
      refine lv_sipush (v := 200) hx hb dX8_commonDivisor_11 (by decide) ?_
      refine lv_icmp_ge (tgt := 45) hx hb dX8_commonDivisor_14 (by decide) (fun c_1 => ?_) (fun c_1 => ?_)
      · have hF := ob_pos c_1 hF
        exact hJ_45 x4 hF H _ ls hP hD hS (lv_sub hl [0] rfl)
      · have hF := ob_neg c_1 hF
        refine lv_lload hx hb dX8_commonDivisor_17 (lv_at hl 1 rfl) ?_
        refine lv_lconst (v := 0) hx hb dX8_commonDivisor_19 (by decide) ?_
        refine W.lcmp hx hb dX8_commonDivisor_20 ?_
        refine lv_if_eq (tgt := 45) hx hb dX8_commonDivisor_21 (by decide) (fun c_2 => ?_) (fun c_2 => ?_)
        · have hF := ob_pos c_2 hF
          exact hJ_45 x4 hF H _ ls hP hD hS (lv_sub hl [0] rfl)
        · have hF := ob_neg c_2 hF
          refine lv_lload hx hb dX8_commonDivisor_24 (lv_at hl 0 rfl) ?_
          refine lv_lload hx hb dX8_commonDivisor_26 (lv_at hl 1 rfl) ?_
          obtain ⟨hd_3, hF⟩ := ob_if hF
          refine lv_lrem hx hb dX8_commonDivisor_28 hd_3 ?_
          refine lv_lstore (lv' := [(9, .long (x4 - x4 / x6 * x6)), (4, .long x4), (6, .long x6), (8, .int x8)]) hx hb dX8_commonDivisor_29 hl (by decide) rfl (fun ls hl => ?_)
          refine lv_lload hx hb dX8_commonDivisor_31 (lv_at hl 2 rfl) ?_
          refine lv_lstore (lv' := [(4, .long x6), (9, .long (x4 - x4 / x6 * x6)), (6, .long x6), (8, .int x8)]) hx hb dX8_commonDivisor_33 hl (by decide) rfl (fun ls hl => ?_)
          refine lv_lload hx hb dX8_commonDivisor_35 (lv_at hl 1 rfl) ?_
          refine lv_lstore (lv' := [(6, .long (x4 - x4 / x6 * x6)), (4, .long x6), (9, .long (x4 - x4 / x6 * x6)), (8, .int x8)]) hx hb dX8_commonDivisor_37 hl (by decide) rfl (fun ls hl => ?_)
          refine lv_iinc (v := (x8 + 1)) (lv' := [(8, .int (x8 + 1)), (6, .long (x4 - x4 / x6 * x6)), (4, .long x6), (9, .long (x4 - x4 / x6 * x6))]) hx hb dX8_commonDivisor_39 hl (k := 3) rfl rfl (by decide) rfl (fun ls hl => ?_)
          refine lv_goto (tgt := 9) hx hb dX8_commonDivisor_42 (by decide) ?_
          exact ih_9 x6 (x4 - x4 / x6 * x6) (x8 + 1) hF H _ ls hP hD hS (lv_sub hl [2, 1, 0] rfl)
  unfold f_X8_commonDivisor at hF
  refine lv_lload_n hx hb dX8_commonDivisor_0 rfl (lv_at hl 0 rfl) ?_
  refine lv_lstore (lv' := [(4, .long p1), (0, .long p1), (2, .long p2)]) hx hb dX8_commonDivisor_1 hl (by decide) rfl (fun ls hl => ?_)
  refine lv_lload_n hx hb dX8_commonDivisor_3 rfl (lv_at hl 2 rfl) ?_
  refine lv_lstore (lv' := [(6, .long p2), (4, .long p1), (0, .long p1), (2, .long p2)]) hx hb dX8_commonDivisor_4 hl (by decide) rfl (fun ls hl => ?_)
  refine lv_iconst (v := 0) hx hb dX8_commonDivisor_6 (by decide) ?_
  refine lv_istore (lv' := [(8, .int 0), (6, .long p2), (4, .long p1), (0, .long p1), (2, .long p2)]) hx hb dX8_commonDivisor_7 hl (by decide) rfl (fun ls hl => ?_)
  exact hJ_9 8589934592 p1 p2 0 hF H _ ls hP hD hS (lv_sub hl [2, 1, 0] rfl)
def f_X7_isBlank_17 (y0 : Int32) : Option Int32 := (if y0 = 0 ∨ y0 = 1 then (some y0) else none)
def f_X7_isBlank_12 : Option Int32 := (f_X7_isBlank_17 1)
def f_X7_isBlank (p1 : Int32) : Option Int32 := (if p1 = 32 then (f_X7_isBlank_12) else (if p1 = 10 then (f_X7_isBlank_12) else (f_X7_isBlank_17 0)))
set_option maxHeartbeats 4000000 in
set_option maxRecDepth 100000 in
theorem c_X7_isBlank (l : Launch) (G : va_G) (cI cJ cZ cB cT : ClassId)   (p1 : Int32) (rr : Int32)  (hF : f_X7_isBlank p1 = some rr) : gMi l yX7_isBlank (gws yX7_isBlank cX7_isBlank 1 (some .boolean)) 1 G (gT cI cJ cZ cB cT) [.int p1] ([] : va_W) (fun x (_ : Unit) => x = rr) (fun (_ : Unit) => ([] : va_W)) := by
  intro sz
  refine gM_start (y := yX7_isBlank) (av := [.int p1]) (ws := ([] : va_W)) (Qf := fun A => va_Qi (fun x (_ : Unit) => x = rr) (gB G (fun (_ : Unit) => ([] : va_W)) A) A) (cc := cX7_isBlank) (maxL := 1) (ret := (some .boolean)) (by decide) (Nat.le_of_ble_eq_true rfl) ?_
  intro p e s m args below meth c A ls H hx hb hr hts hown hin hlocks hml hP hK hD hA hS hl hE
  have hl : lv_has ls 1 [(0, .int p1)] := hl
  have hJ_17 : ∀  (y0 : Int32), f_X7_isBlank_17 y0 = some rr → ∀ (H : Heap) (locs : List Loc) (ls : Array Slot), va_P G vwCl ([] : va_W) H → va_D A ([] : va_W) → va_S A s.heap H locs → lv_has ls 1 [] → W p l e (gRm 1) s m args below meth c H locs 0 0 (MQ below (va_Qi (fun x (_ : Unit) => x = rr) (gB G (fun (_ : Unit) => ([] : va_W)) A) A) args s 0 0 A) (F0 m 17 ls [.int y0]) := by
    intro  y0 hF H locs ls hP hD hS hl
    unfold f_X7_isBlank_17 at hF
    obtain ⟨hz_3, hF⟩ := ob_if hF
    obtain rfl := ob_one hF
    exact gw_zret () hx hb hr hlocks (gz hz_3) hP hD hS rfl dX7_isBlank_17
  have hJ_12 : f_X7_isBlank_12 = some rr → ∀ (H : Heap) (locs : List Loc) (ls : Array Slot), va_P G vwCl ([] : va_W) H → va_D A ([] : va_W) → va_S A s.heap H locs → lv_has ls 1 [] → W p l e (gRm 1) s m args below meth c H locs 0 0 (MQ below (va_Qi (fun x (_ : Unit) => x = rr) (gB G (fun (_ : Unit) => ([] : va_W)) A) A) args s 0 0 A) (F0 m 12 ls []) := by
    intro  hF H locs ls hP hD hS hl
    unfold f_X7_isBlank_12 at hF
    refine lv_iconst (v := 1) hx hb dX7_isBlank_12 (by decide) ?_
    refine lv_goto (tgt := 17) hx hb dX7_isBlank_13 (by decide) ?_
    exact hJ_17 1 hF H _ ls hP hD hS (lv_sub hl [] rfl)
  unfold f_X7_isBlank at hF
  refine lv_iload_n hx hb dX7_isBlank_0 rfl (lv_at hl 0 rfl) ?_
  refine lv_bipush (v := 32) hx hb dX7_isBlank_1 (by decide) ?_
  refine lv_icmp_eq (tgt := 12) hx hb dX7_isBlank_3 (by decide) (fun c_1 => ?_) (fun c_1 => ?_)
  · have hF := ob_pos c_1 hF
    exact hJ_12 hF H _ ls hP hD hS (lv_sub hl [] rfl)
  · have hF := ob_neg c_1 hF
    refine lv_iload_n hx hb dX7_isBlank_6 rfl (lv_at hl 0 rfl) ?_
    refine lv_bipush (v := 10) hx hb dX7_isBlank_7 (by decide) ?_
    refine lv_icmp_ne (tgt := 16) hx hb dX7_isBlank_9 (by decide) (fun c_2 => ?_) (fun c_2 => ?_)
    · have hF := ob_neg c_2 hF
      refine lv_iconst (v := 0) hx hb dX7_isBlank_16 (by decide) ?_
      exact hJ_17 0 hF H _ ls hP hD hS (lv_sub hl [] rfl)
    · have hF := ob_pos c_2 hF
      exact hJ_12 hF H _ ls hP hD hS (lv_sub hl [] rfl)
def f_X7_isAlpha_29 (y0 : Int32) : Option Int32 := (if y0 = 0 ∨ y0 = 1 then (some y0) else none)
def f_X7_isAlpha_28 : Option Int32 := (f_X7_isAlpha_29 0)
def f_X7_isAlpha_24 : Option Int32 := (f_X7_isAlpha_29 1)
def f_X7_isAlpha_12 (x0 : Int32) : Option Int32 := (if x0 < 65 then (f_X7_isAlpha_28) else (if 90 < x0 then (f_X7_isAlpha_28) else (f_X7_isAlpha_24)))
def f_X7_isAlpha (p1 : Int32) : Option Int32 := (if p1 < 97 then (f_X7_isAlpha_12 p1) else (if p1 ≤ 122 then (f_X7_isAlpha_24) else (f_X7_isAlpha_12 p1)))
set_option maxHeartbeats 4000000 in
set_option maxRecDepth 100000 in
theorem c_X7_isAlpha (l : Launch) (G : va_G) (cI cJ cZ cB cT : ClassId)   (p1 : Int32) (rr : Int32)  (hF : f_X7_isAlpha p1 = some rr) : gMi l yX7_isAlpha (gws yX7_isAlpha cX7_isAlpha 1 (some .boolean)) 1 G (gT cI cJ cZ cB cT) [.int p1] ([] : va_W) (fun x (_ : Unit) => x = rr) (fun (_ : Unit) => ([] : va_W)) := by
  intro sz
  refine gM_start (y := yX7_isAlpha) (av := [.int p1]) (ws := ([] : va_W)) (Qf := fun A => va_Qi (fun x (_ : Unit) => x = rr) (gB G (fun (_ : Unit) => ([] : va_W)) A) A) (cc := cX7_isAlpha) (maxL := 1) (ret := (some .boolean)) (by decide) (Nat.le_of_ble_eq_true rfl) ?_
  intro p e s m args below meth c A ls H hx hb hr hts hown hin hlocks hml hP hK hD hA hS hl hE
  have hl : lv_has ls 1 [(0, .int p1)] := hl
  have hJ_29 : ∀  (y0 : Int32), f_X7_isAlpha_29 y0 = some rr → ∀ (H : Heap) (locs : List Loc) (ls : Array Slot), va_P G vwCl ([] : va_W) H → va_D A ([] : va_W) → va_S A s.heap H locs → lv_has ls 1 [] → W p l e (gRm 1) s m args below meth c H locs 0 0 (MQ below (va_Qi (fun x (_ : Unit) => x = rr) (gB G (fun (_ : Unit) => ([] : va_W)) A) A) args s 0 0 A) (F0 m 29 ls [.int y0]) := by
    intro  y0 hF H locs ls hP hD hS hl
    unfold f_X7_isAlpha_29 at hF
    obtain ⟨hz_5, hF⟩ := ob_if hF
    obtain rfl := ob_one hF
    exact gw_zret () hx hb hr hlocks (gz hz_5) hP hD hS rfl dX7_isAlpha_29
  have hJ_28 : f_X7_isAlpha_28 = some rr → ∀ (H : Heap) (locs : List Loc) (ls : Array Slot), va_P G vwCl ([] : va_W) H → va_D A ([] : va_W) → va_S A s.heap H locs → lv_has ls 1 [] → W p l e (gRm 1) s m args below meth c H locs 0 0 (MQ below (va_Qi (fun x (_ : Unit) => x = rr) (gB G (fun (_ : Unit) => ([] : va_W)) A) A) args s 0 0 A) (F0 m 28 ls []) := by
    intro  hF H locs ls hP hD hS hl
    unfold f_X7_isAlpha_28 at hF
    refine lv_iconst (v := 0) hx hb dX7_isAlpha_28 (by decide) ?_
    exact hJ_29 0 hF H _ ls hP hD hS (lv_sub hl [] rfl)
  have hJ_24 : f_X7_isAlpha_24 = some rr → ∀ (H : Heap) (locs : List Loc) (ls : Array Slot), va_P G vwCl ([] : va_W) H → va_D A ([] : va_W) → va_S A s.heap H locs → lv_has ls 1 [] → W p l e (gRm 1) s m args below meth c H locs 0 0 (MQ below (va_Qi (fun x (_ : Unit) => x = rr) (gB G (fun (_ : Unit) => ([] : va_W)) A) A) args s 0 0 A) (F0 m 24 ls []) := by
    intro  hF H locs ls hP hD hS hl
    unfold f_X7_isAlpha_24 at hF
    refine lv_iconst (v := 1) hx hb dX7_isAlpha_24 (by decide) ?_
    refine lv_goto (tgt := 29) hx hb dX7_isAlpha_25 (by decide) ?_
    exact hJ_29 1 hF H _ ls hP hD hS (lv_sub hl [] rfl)
  have hJ_12 : ∀  (x0 : Int32), f_X7_isAlpha_12 x0 = some rr → ∀ (H : Heap) (locs : List Loc) (ls : Array Slot), va_P G vwCl ([] : va_W) H → va_D A ([] : va_W) → va_S A s.heap H locs → lv_has ls 1 [(0, .int x0)] → W p l e (gRm 1) s m args below meth c H locs 0 0 (MQ below (va_Qi (fun x (_ : Unit) => x = rr) (gB G (fun (_ : Unit) => ([] : va_W)) A) A) args s 0 0 A) (F0 m 12 ls []) := by
    intro  x0 hF H locs ls hP hD hS hl
    unfold f_X7_isAlpha_12 at hF
    refine lv_iload_n hx hb dX7_isAlpha_12 rfl (lv_at hl 0 rfl) ?_
    refine lv_bipush (v := 65) hx hb dX7_isAlpha_13 (by decide) ?_
    refine lv_icmp_lt (tgt := 28) hx hb dX7_isAlpha_15 (by decide) (fun c_3 => ?_) (fun c_3 => ?_)
    · have hF := ob_pos c_3 hF
      exact hJ_28 hF H _ ls hP hD hS (lv_sub hl [] rfl)
    · have hF := ob_neg c_3 hF
      refine lv_iload_n hx hb dX7_isAlpha_18 rfl (lv_at hl 0 rfl) ?_
      refine lv_bipush (v := 90) hx hb dX7_isAlpha_19 (by decide) ?_
      refine lv_icmp_gt (tgt := 28) hx hb dX7_isAlpha_21 (by decide) (fun c_4 => ?_) (fun c_4 => ?_)
      · have hF := ob_pos c_4 hF
        exact hJ_28 hF H _ ls hP hD hS (lv_sub hl [] rfl)
      · have hF := ob_neg c_4 hF
        exact hJ_24 hF H _ ls hP hD hS (lv_sub hl [] rfl)
  unfold f_X7_isAlpha at hF
  refine lv_iload_n hx hb dX7_isAlpha_0 rfl (lv_at hl 0 rfl) ?_
  refine lv_bipush (v := 97) hx hb dX7_isAlpha_1 (by decide) ?_
  refine lv_icmp_lt (tgt := 12) hx hb dX7_isAlpha_3 (by decide) (fun c_1 => ?_) (fun c_1 => ?_)
  · have hF := ob_pos c_1 hF
    exact hJ_12 p1 hF H _ ls hP hD hS (lv_sub hl [0] rfl)
  · have hF := ob_neg c_1 hF
    refine lv_iload_n hx hb dX7_isAlpha_6 rfl (lv_at hl 0 rfl) ?_
    refine lv_bipush (v := 122) hx hb dX7_isAlpha_7 (by decide) ?_
    refine lv_icmp_le (tgt := 24) hx hb dX7_isAlpha_9 (by decide) (fun c_2 => ?_) (fun c_2 => ?_)
    · have hF := ob_pos c_2 hF
      exact hJ_24 hF H _ ls hP hD hS (lv_sub hl [] rfl)
    · have hF := ob_neg c_2 hF
      exact hJ_12 p1 hF H _ ls hP hD hS (lv_sub hl [0] rfl)
def f_X7_isNumeral_17 (y0 : Int32) : Option Int32 := (if y0 = 0 ∨ y0 = 1 then (some y0) else none)
def f_X7_isNumeral_16 : Option Int32 := (f_X7_isNumeral_17 0)
def f_X7_isNumeral (p1 : Int32) : Option Int32 := (if p1 < 48 then (f_X7_isNumeral_16) else (if 57 < p1 then (f_X7_isNumeral_16) else (f_X7_isNumeral_17 1)))
set_option maxHeartbeats 4000000 in
set_option maxRecDepth 100000 in
theorem c_X7_isNumeral (l : Launch) (G : va_G) (cI cJ cZ cB cT : ClassId)   (p1 : Int32) (rr : Int32)  (hF : f_X7_isNumeral p1 = some rr) : gMi l yX7_isNumeral (gws yX7_isNumeral cX7_isNumeral 1 (some .boolean)) 1 G (gT cI cJ cZ cB cT) [.int p1] ([] : va_W) (fun x (_ : Unit) => x = rr) (fun (_ : Unit) => ([] : va_W)) := by
  intro sz
  refine gM_start (y := yX7_isNumeral) (av := [.int p1]) (ws := ([] : va_W)) (Qf := fun A => va_Qi (fun x (_ : Unit) => x = rr) (gB G (fun (_ : Unit) => ([] : va_W)) A) A) (cc := cX7_isNumeral) (maxL := 1) (ret := (some .boolean)) (by decide) (Nat.le_of_ble_eq_true rfl) ?_
  intro p e s m args below meth c A ls H hx hb hr hts hown hin hlocks hml hP hK hD hA hS hl hE
  have hl : lv_has ls 1 [(0, .int p1)] := hl
  have hJ_17 : ∀  (y0 : Int32), f_X7_isNumeral_17 y0 = some rr → ∀ (H : Heap) (locs : List Loc) (ls : Array Slot), va_P G vwCl ([] : va_W) H → va_D A ([] : va_W) → va_S A s.heap H locs → lv_has ls 1 [] → W p l e (gRm 1) s m args below meth c H locs 0 0 (MQ below (va_Qi (fun x (_ : Unit) => x = rr) (gB G (fun (_ : Unit) => ([] : va_W)) A) A) args s 0 0 A) (F0 m 17 ls [.int y0]) := by
    intro  y0 hF H locs ls hP hD hS hl
    unfold f_X7_isNumeral_17 at hF
    obtain ⟨hz_3, hF⟩ := ob_if hF
    obtain rfl := ob_one hF
    exact gw_zret () hx hb hr hlocks (gz hz_3) hP hD hS rfl dX7_isNumeral_17
  have hJ_16 : f_X7_isNumeral_16 = some rr → ∀ (H : Heap) (locs : List Loc) (ls : Array Slot), va_P G vwCl ([] : va_W) H → va_D A ([] : va_W) → va_S A s.heap H locs → lv_has ls 1 [] → W p l e (gRm 1) s m args below meth c H locs 0 0 (MQ below (va_Qi (fun x (_ : Unit) => x = rr) (gB G (fun (_ : Unit) => ([] : va_W)) A) A) args s 0 0 A) (F0 m 16 ls []) := by
    intro  hF H locs ls hP hD hS hl
    unfold f_X7_isNumeral_16 at hF
    refine lv_iconst (v := 0) hx hb dX7_isNumeral_16 (by decide) ?_
    exact hJ_17 0 hF H _ ls hP hD hS (lv_sub hl [] rfl)
  unfold f_X7_isNumeral at hF
  refine lv_iload_n hx hb dX7_isNumeral_0 rfl (lv_at hl 0 rfl) ?_
  refine lv_bipush (v := 48) hx hb dX7_isNumeral_1 (by decide) ?_
  refine lv_icmp_lt (tgt := 16) hx hb dX7_isNumeral_3 (by decide) (fun c_1 => ?_) (fun c_1 => ?_)
  · have hF := ob_pos c_1 hF
    exact hJ_16 hF H _ ls hP hD hS (lv_sub hl [] rfl)
  · have hF := ob_neg c_1 hF
    refine lv_iload_n hx hb dX7_isNumeral_6 rfl (lv_at hl 0 rfl) ?_
    refine lv_bipush (v := 57) hx hb dX7_isNumeral_7 (by decide) ?_
    refine lv_icmp_gt (tgt := 16) hx hb dX7_isNumeral_9 (by decide) (fun c_2 => ?_) (fun c_2 => ?_)
    · have hF := ob_pos c_2 hF
      exact hJ_16 hF H _ ls hP hD hS (lv_sub hl [] rfl)
    · have hF := ob_neg c_2 hF
      refine lv_iconst (v := 1) hx hb dX7_isNumeral_12 (by decide) ?_
      refine lv_goto (tgt := 17) hx hb dX7_isNumeral_13 (by decide) ?_
      exact hJ_17 1 hF H _ ls hP hD hS (lv_sub hl [] rfl)
def f_X7_signKind (p1 : Int32) : Option Int32 := (if p1 = 35 then (some 8) else (if p1 = 36 then (some 1) else (if p1 = 37 then (some 1) else (if p1 = 38 then (some 1) else (if p1 = 39 then (some 1) else (if p1 = 40 then (some 13) else (if p1 = 41 then (some 14) else (if p1 = 42 then (some 11) else (if p1 = 43 then (some 9) else (if p1 = 44 then (some 1) else (if p1 = 45 then (some 10) else (if p1 = 46 then (some 1) else (if p1 = 47 then (some 12) else (if p1 = 48 then (some 1) else (if p1 = 49 then (some 1) else (if p1 = 50 then (some 1) else (if p1 = 51 then (some 1) else (if p1 = 52 then (some 1) else (if p1 = 53 then (some 1) else (if p1 = 54 then (some 1) else (if p1 = 55 then (some 1) else (if p1 = 56 then (some 1) else (if p1 = 57 then (some 1) else (if p1 = 58 then (some 1) else (if p1 = 59 then (some 15) else (if p1 = 60 then (some 3) else (if p1 = 61 then (some 7) else (if p1 = 62 then (some 5) else (some 1)))))))))))))))))))))))))))))
set_option maxHeartbeats 4000000 in
set_option maxRecDepth 100000 in
theorem c_X7_signKind (l : Launch) (G : va_G) (cI cJ cZ cB cT : ClassId)   (p1 : Int32) (rr : Int32)  (hF : f_X7_signKind p1 = some rr) : gMi l yX7_signKind (gws yX7_signKind cX7_signKind 1 (some .int)) 1 G (gT cI cJ cZ cB cT) [.int p1] ([] : va_W) (fun x (_ : Unit) => x = rr) (fun (_ : Unit) => ([] : va_W)) := by
  intro sz
  refine gM_start (y := yX7_signKind) (av := [.int p1]) (ws := ([] : va_W)) (Qf := fun A => va_Qi (fun x (_ : Unit) => x = rr) (gB G (fun (_ : Unit) => ([] : va_W)) A) A) (cc := cX7_signKind) (maxL := 1) (ret := (some .int)) (by decide) (Nat.le_of_ble_eq_true rfl) ?_
  intro p e s m args below meth c A ls H hx hb hr hts hown hin hlocks hml hP hK hD hA hS hl hE
  have hl : lv_has ls 1 [(0, .int p1)] := hl
  unfold f_X7_signKind at hF
  refine lv_iload_n hx hb dX7_signKind_0 rfl (lv_at hl 0 rfl) ?_
  by_cases c_1 : p1 = 35
  · have hF := ob_pos c_1 hF
    refine lv_tableIn (tgt := 135) (off := 134) hx hb dX7_signKind_1 (by rw [c_1]; decide) (by rw [c_1]; decide) (by rw [c_1]; decide) (by decide) ?_
    refine lv_bipush (v := 8) hx hb dX7_signKind_135 (by decide) ?_
    obtain rfl := ob_one hF
    exact gw_iret () hx hb hr hlocks hP hD hS rfl dX7_signKind_137
  have hF := ob_neg c_1 hF
  by_cases c_2 : p1 = 36
  · have hF := ob_pos c_2 hF
    refine lv_tableIn (tgt := 159) (off := 158) hx hb dX7_signKind_1 (by rw [c_2]; decide) (by rw [c_2]; decide) (by rw [c_2]; decide) (by decide) ?_
    refine lv_iconst (v := 1) hx hb dX7_signKind_159 (by decide) ?_
    obtain rfl := ob_one hF
    exact gw_iret () hx hb hr hlocks hP hD hS rfl dX7_signKind_160
  have hF := ob_neg c_2 hF
  by_cases c_3 : p1 = 37
  · have hF := ob_pos c_3 hF
    refine lv_tableIn (tgt := 159) (off := 158) hx hb dX7_signKind_1 (by rw [c_3]; decide) (by rw [c_3]; decide) (by rw [c_3]; decide) (by decide) ?_
    refine lv_iconst (v := 1) hx hb dX7_signKind_159 (by decide) ?_
    obtain rfl := ob_one hF
    exact gw_iret () hx hb hr hlocks hP hD hS rfl dX7_signKind_160
  have hF := ob_neg c_3 hF
  by_cases c_4 : p1 = 38
  · have hF := ob_pos c_4 hF
    refine lv_tableIn (tgt := 159) (off := 158) hx hb dX7_signKind_1 (by rw [c_4]; decide) (by rw [c_4]; decide) (by rw [c_4]; decide) (by decide) ?_
    refine lv_iconst (v := 1) hx hb dX7_signKind_159 (by decide) ?_
    obtain rfl := ob_one hF
    exact gw_iret () hx hb hr hlocks hP hD hS rfl dX7_signKind_160
  have hF := ob_neg c_4 hF
  by_cases c_5 : p1 = 39
  · have hF := ob_pos c_5 hF
    refine lv_tableIn (tgt := 159) (off := 158) hx hb dX7_signKind_1 (by rw [c_5]; decide) (by rw [c_5]; decide) (by rw [c_5]; decide) (by decide) ?_
    refine lv_iconst (v := 1) hx hb dX7_signKind_159 (by decide) ?_
    obtain rfl := ob_one hF
    exact gw_iret () hx hb hr hlocks hP hD hS rfl dX7_signKind_160
  have hF := ob_neg c_5 hF
  by_cases c_6 : p1 = 40
  · have hF := ob_pos c_6 hF
    refine lv_tableIn (tgt := 150) (off := 149) hx hb dX7_signKind_1 (by rw [c_6]; decide) (by rw [c_6]; decide) (by rw [c_6]; decide) (by decide) ?_
    refine lv_bipush (v := 13) hx hb dX7_signKind_150 (by decide) ?_
    obtain rfl := ob_one hF
    exact gw_iret () hx hb hr hlocks hP hD hS rfl dX7_signKind_152
  have hF := ob_neg c_6 hF
  by_cases c_7 : p1 = 41
  · have hF := ob_pos c_7 hF
    refine lv_tableIn (tgt := 153) (off := 152) hx hb dX7_signKind_1 (by rw [c_7]; decide) (by rw [c_7]; decide) (by rw [c_7]; decide) (by decide) ?_
    refine lv_bipush (v := 14) hx hb dX7_signKind_153 (by decide) ?_
    obtain rfl := ob_one hF
    exact gw_iret () hx hb hr hlocks hP hD hS rfl dX7_signKind_155
  have hF := ob_neg c_7 hF
  by_cases c_8 : p1 = 42
  · have hF := ob_pos c_8 hF
    refine lv_tableIn (tgt := 144) (off := 143) hx hb dX7_signKind_1 (by rw [c_8]; decide) (by rw [c_8]; decide) (by rw [c_8]; decide) (by decide) ?_
    refine lv_bipush (v := 11) hx hb dX7_signKind_144 (by decide) ?_
    obtain rfl := ob_one hF
    exact gw_iret () hx hb hr hlocks hP hD hS rfl dX7_signKind_146
  have hF := ob_neg c_8 hF
  by_cases c_9 : p1 = 43
  · have hF := ob_pos c_9 hF
    refine lv_tableIn (tgt := 138) (off := 137) hx hb dX7_signKind_1 (by rw [c_9]; decide) (by rw [c_9]; decide) (by rw [c_9]; decide) (by decide) ?_
    refine lv_bipush (v := 9) hx hb dX7_signKind_138 (by decide) ?_
    obtain rfl := ob_one hF
    exact gw_iret () hx hb hr hlocks hP hD hS rfl dX7_signKind_140
  have hF := ob_neg c_9 hF
  by_cases c_10 : p1 = 44
  · have hF := ob_pos c_10 hF
    refine lv_tableIn (tgt := 159) (off := 158) hx hb dX7_signKind_1 (by rw [c_10]; decide) (by rw [c_10]; decide) (by rw [c_10]; decide) (by decide) ?_
    refine lv_iconst (v := 1) hx hb dX7_signKind_159 (by decide) ?_
    obtain rfl := ob_one hF
    exact gw_iret () hx hb hr hlocks hP hD hS rfl dX7_signKind_160
  have hF := ob_neg c_10 hF
  by_cases c_11 : p1 = 45
  · have hF := ob_pos c_11 hF
    refine lv_tableIn (tgt := 141) (off := 140) hx hb dX7_signKind_1 (by rw [c_11]; decide) (by rw [c_11]; decide) (by rw [c_11]; decide) (by decide) ?_
    refine lv_bipush (v := 10) hx hb dX7_signKind_141 (by decide) ?_
    obtain rfl := ob_one hF
    exact gw_iret () hx hb hr hlocks hP hD hS rfl dX7_signKind_143
  have hF := ob_neg c_11 hF
  by_cases c_12 : p1 = 46
  · have hF := ob_pos c_12 hF
    refine lv_tableIn (tgt := 159) (off := 158) hx hb dX7_signKind_1 (by rw [c_12]; decide) (by rw [c_12]; decide) (by rw [c_12]; decide) (by decide) ?_
    refine lv_iconst (v := 1) hx hb dX7_signKind_159 (by decide) ?_
    obtain rfl := ob_one hF
    exact gw_iret () hx hb hr hlocks hP hD hS rfl dX7_signKind_160
  have hF := ob_neg c_12 hF
  by_cases c_13 : p1 = 47
  · have hF := ob_pos c_13 hF
    refine lv_tableIn (tgt := 147) (off := 146) hx hb dX7_signKind_1 (by rw [c_13]; decide) (by rw [c_13]; decide) (by rw [c_13]; decide) (by decide) ?_
    refine lv_bipush (v := 12) hx hb dX7_signKind_147 (by decide) ?_
    obtain rfl := ob_one hF
    exact gw_iret () hx hb hr hlocks hP hD hS rfl dX7_signKind_149
  have hF := ob_neg c_13 hF
  by_cases c_14 : p1 = 48
  · have hF := ob_pos c_14 hF
    refine lv_tableIn (tgt := 159) (off := 158) hx hb dX7_signKind_1 (by rw [c_14]; decide) (by rw [c_14]; decide) (by rw [c_14]; decide) (by decide) ?_
    refine lv_iconst (v := 1) hx hb dX7_signKind_159 (by decide) ?_
    obtain rfl := ob_one hF
    exact gw_iret () hx hb hr hlocks hP hD hS rfl dX7_signKind_160
  have hF := ob_neg c_14 hF
  by_cases c_15 : p1 = 49
  · have hF := ob_pos c_15 hF
    refine lv_tableIn (tgt := 159) (off := 158) hx hb dX7_signKind_1 (by rw [c_15]; decide) (by rw [c_15]; decide) (by rw [c_15]; decide) (by decide) ?_
    refine lv_iconst (v := 1) hx hb dX7_signKind_159 (by decide) ?_
    obtain rfl := ob_one hF
    exact gw_iret () hx hb hr hlocks hP hD hS rfl dX7_signKind_160
  have hF := ob_neg c_15 hF
  by_cases c_16 : p1 = 50
  · have hF := ob_pos c_16 hF
    refine lv_tableIn (tgt := 159) (off := 158) hx hb dX7_signKind_1 (by rw [c_16]; decide) (by rw [c_16]; decide) (by rw [c_16]; decide) (by decide) ?_
    refine lv_iconst (v := 1) hx hb dX7_signKind_159 (by decide) ?_
    obtain rfl := ob_one hF
    exact gw_iret () hx hb hr hlocks hP hD hS rfl dX7_signKind_160
  have hF := ob_neg c_16 hF
  by_cases c_17 : p1 = 51
  · have hF := ob_pos c_17 hF
    refine lv_tableIn (tgt := 159) (off := 158) hx hb dX7_signKind_1 (by rw [c_17]; decide) (by rw [c_17]; decide) (by rw [c_17]; decide) (by decide) ?_
    refine lv_iconst (v := 1) hx hb dX7_signKind_159 (by decide) ?_
    obtain rfl := ob_one hF
    exact gw_iret () hx hb hr hlocks hP hD hS rfl dX7_signKind_160
  have hF := ob_neg c_17 hF
  by_cases c_18 : p1 = 52
  · have hF := ob_pos c_18 hF
    refine lv_tableIn (tgt := 159) (off := 158) hx hb dX7_signKind_1 (by rw [c_18]; decide) (by rw [c_18]; decide) (by rw [c_18]; decide) (by decide) ?_
    refine lv_iconst (v := 1) hx hb dX7_signKind_159 (by decide) ?_
    obtain rfl := ob_one hF
    exact gw_iret () hx hb hr hlocks hP hD hS rfl dX7_signKind_160
  have hF := ob_neg c_18 hF
  by_cases c_19 : p1 = 53
  · have hF := ob_pos c_19 hF
    refine lv_tableIn (tgt := 159) (off := 158) hx hb dX7_signKind_1 (by rw [c_19]; decide) (by rw [c_19]; decide) (by rw [c_19]; decide) (by decide) ?_
    refine lv_iconst (v := 1) hx hb dX7_signKind_159 (by decide) ?_
    obtain rfl := ob_one hF
    exact gw_iret () hx hb hr hlocks hP hD hS rfl dX7_signKind_160
  have hF := ob_neg c_19 hF
  by_cases c_20 : p1 = 54
  · have hF := ob_pos c_20 hF
    refine lv_tableIn (tgt := 159) (off := 158) hx hb dX7_signKind_1 (by rw [c_20]; decide) (by rw [c_20]; decide) (by rw [c_20]; decide) (by decide) ?_
    refine lv_iconst (v := 1) hx hb dX7_signKind_159 (by decide) ?_
    obtain rfl := ob_one hF
    exact gw_iret () hx hb hr hlocks hP hD hS rfl dX7_signKind_160
  have hF := ob_neg c_20 hF
  by_cases c_21 : p1 = 55
  · have hF := ob_pos c_21 hF
    refine lv_tableIn (tgt := 159) (off := 158) hx hb dX7_signKind_1 (by rw [c_21]; decide) (by rw [c_21]; decide) (by rw [c_21]; decide) (by decide) ?_
    refine lv_iconst (v := 1) hx hb dX7_signKind_159 (by decide) ?_
    obtain rfl := ob_one hF
    exact gw_iret () hx hb hr hlocks hP hD hS rfl dX7_signKind_160
  have hF := ob_neg c_21 hF
  by_cases c_22 : p1 = 56
  · have hF := ob_pos c_22 hF
    refine lv_tableIn (tgt := 159) (off := 158) hx hb dX7_signKind_1 (by rw [c_22]; decide) (by rw [c_22]; decide) (by rw [c_22]; decide) (by decide) ?_
    refine lv_iconst (v := 1) hx hb dX7_signKind_159 (by decide) ?_
    obtain rfl := ob_one hF
    exact gw_iret () hx hb hr hlocks hP hD hS rfl dX7_signKind_160
  have hF := ob_neg c_22 hF
  by_cases c_23 : p1 = 57
  · have hF := ob_pos c_23 hF
    refine lv_tableIn (tgt := 159) (off := 158) hx hb dX7_signKind_1 (by rw [c_23]; decide) (by rw [c_23]; decide) (by rw [c_23]; decide) (by decide) ?_
    refine lv_iconst (v := 1) hx hb dX7_signKind_159 (by decide) ?_
    obtain rfl := ob_one hF
    exact gw_iret () hx hb hr hlocks hP hD hS rfl dX7_signKind_160
  have hF := ob_neg c_23 hF
  by_cases c_24 : p1 = 58
  · have hF := ob_pos c_24 hF
    refine lv_tableIn (tgt := 159) (off := 158) hx hb dX7_signKind_1 (by rw [c_24]; decide) (by rw [c_24]; decide) (by rw [c_24]; decide) (by decide) ?_
    refine lv_iconst (v := 1) hx hb dX7_signKind_159 (by decide) ?_
    obtain rfl := ob_one hF
    exact gw_iret () hx hb hr hlocks hP hD hS rfl dX7_signKind_160
  have hF := ob_neg c_24 hF
  by_cases c_25 : p1 = 59
  · have hF := ob_pos c_25 hF
    refine lv_tableIn (tgt := 156) (off := 155) hx hb dX7_signKind_1 (by rw [c_25]; decide) (by rw [c_25]; decide) (by rw [c_25]; decide) (by decide) ?_
    refine lv_bipush (v := 15) hx hb dX7_signKind_156 (by decide) ?_
    obtain rfl := ob_one hF
    exact gw_iret () hx hb hr hlocks hP hD hS rfl dX7_signKind_158
  have hF := ob_neg c_25 hF
  by_cases c_26 : p1 = 60
  · have hF := ob_pos c_26 hF
    refine lv_tableIn (tgt := 128) (off := 127) hx hb dX7_signKind_1 (by rw [c_26]; decide) (by rw [c_26]; decide) (by rw [c_26]; decide) (by decide) ?_
    refine lv_iconst (v := 3) hx hb dX7_signKind_128 (by decide) ?_
    obtain rfl := ob_one hF
    exact gw_iret () hx hb hr hlocks hP hD hS rfl dX7_signKind_129
  have hF := ob_neg c_26 hF
  by_cases c_27 : p1 = 61
  · have hF := ob_pos c_27 hF
    refine lv_tableIn (tgt := 132) (off := 131) hx hb dX7_signKind_1 (by rw [c_27]; decide) (by rw [c_27]; decide) (by rw [c_27]; decide) (by decide) ?_
    refine lv_bipush (v := 7) hx hb dX7_signKind_132 (by decide) ?_
    obtain rfl := ob_one hF
    exact gw_iret () hx hb hr hlocks hP hD hS rfl dX7_signKind_134
  have hF := ob_neg c_27 hF
  by_cases c_28 : p1 = 62
  · have hF := ob_pos c_28 hF
    refine lv_tableIn (tgt := 130) (off := 129) hx hb dX7_signKind_1 (by rw [c_28]; decide) (by rw [c_28]; decide) (by rw [c_28]; decide) (by decide) ?_
    refine lv_iconst (v := 5) hx hb dX7_signKind_130 (by decide) ?_
    obtain rfl := ob_one hF
    exact gw_iret () hx hb hr hlocks hP hD hS rfl dX7_signKind_131
  have hF := ob_neg c_28 hF
  have hq : (p1).toInt < 35 ∨ 62 < (p1).toInt := by
    have e_c_1 := lv_neT (a := 35) c_1 (by decide)
    have e_c_2 := lv_neT (a := 36) c_2 (by decide)
    have e_c_3 := lv_neT (a := 37) c_3 (by decide)
    have e_c_4 := lv_neT (a := 38) c_4 (by decide)
    have e_c_5 := lv_neT (a := 39) c_5 (by decide)
    have e_c_6 := lv_neT (a := 40) c_6 (by decide)
    have e_c_7 := lv_neT (a := 41) c_7 (by decide)
    have e_c_8 := lv_neT (a := 42) c_8 (by decide)
    have e_c_9 := lv_neT (a := 43) c_9 (by decide)
    have e_c_10 := lv_neT (a := 44) c_10 (by decide)
    have e_c_11 := lv_neT (a := 45) c_11 (by decide)
    have e_c_12 := lv_neT (a := 46) c_12 (by decide)
    have e_c_13 := lv_neT (a := 47) c_13 (by decide)
    have e_c_14 := lv_neT (a := 48) c_14 (by decide)
    have e_c_15 := lv_neT (a := 49) c_15 (by decide)
    have e_c_16 := lv_neT (a := 50) c_16 (by decide)
    have e_c_17 := lv_neT (a := 51) c_17 (by decide)
    have e_c_18 := lv_neT (a := 52) c_18 (by decide)
    have e_c_19 := lv_neT (a := 53) c_19 (by decide)
    have e_c_20 := lv_neT (a := 54) c_20 (by decide)
    have e_c_21 := lv_neT (a := 55) c_21 (by decide)
    have e_c_22 := lv_neT (a := 56) c_22 (by decide)
    have e_c_23 := lv_neT (a := 57) c_23 (by decide)
    have e_c_24 := lv_neT (a := 58) c_24 (by decide)
    have e_c_25 := lv_neT (a := 59) c_25 (by decide)
    have e_c_26 := lv_neT (a := 60) c_26 (by decide)
    have e_c_27 := lv_neT (a := 61) c_27 (by decide)
    have e_c_28 := lv_neT (a := 62) c_28 (by decide)
    omega
  refine lv_tableOut (tgt := 159) hx hb dX7_signKind_1 hq (by decide) ?_
  refine lv_iconst (v := 1) hx hb dX7_signKind_159 (by decide) ?_
  obtain rfl := ob_one hF
  exact gw_iret () hx hb hr hlocks hP hD hS rfl dX7_signKind_160
def f_X2_levelOf (p1 : Int32) : Option Int32 := (if p1 = 9 then (some 3) else (if p1 = 10 then (some 3) else (if p1 = 11 then (some 4) else (if p1 = 12 then (some 4) else (if p1 = 13 then (some (-1)) else (if p1 = 14 then (some (-1)) else (if p1 = 15 then (some (-1)) else (if p1 = 16 then (some (-1)) else (if p1 = 17 then (some (-1)) else (if p1 = 18 then (some (-1)) else (if p1 = 19 then (some (-1)) else (if p1 = 20 then (some (-1)) else (if p1 = 21 then (some (-1)) else (if p1 = 22 then (some (-1)) else (if p1 = 23 then (some (-1)) else (if p1 = 24 then (some (-1)) else (if p1 = 25 then (some (-1)) else (if p1 = 26 then (some 0) else (if p1 = 27 then (some 1) else (some (-1)))))))))))))))))))))
set_option maxHeartbeats 4000000 in
set_option maxRecDepth 100000 in
theorem c_X2_levelOf (l : Launch) (G : va_G) (cI cJ cZ cB cT : ClassId)   (p1 : Int32) (rr : Int32)  (hF : f_X2_levelOf p1 = some rr) : gMi l yX2_levelOf (gws yX2_levelOf cX2_levelOf 1 (some .int)) 1 G (gT cI cJ cZ cB cT) [.int p1] ([] : va_W) (fun x (_ : Unit) => x = rr) (fun (_ : Unit) => ([] : va_W)) := by
  intro sz
  refine gM_start (y := yX2_levelOf) (av := [.int p1]) (ws := ([] : va_W)) (Qf := fun A => va_Qi (fun x (_ : Unit) => x = rr) (gB G (fun (_ : Unit) => ([] : va_W)) A) A) (cc := cX2_levelOf) (maxL := 1) (ret := (some .int)) (by decide) (Nat.le_of_ble_eq_true rfl) ?_
  intro p e s m args below meth c A ls H hx hb hr hts hown hin hlocks hml hP hK hD hA hS hl hE
  have hl : lv_has ls 1 [(0, .int p1)] := hl
  unfold f_X2_levelOf at hF
  refine lv_iload_n hx hb dX2_levelOf_0 rfl (lv_at hl 0 rfl) ?_
  by_cases c_1 : p1 = 9
  · have hF := ob_pos c_1 hF
    refine lv_tableIn (tgt := 96) (off := 95) hx hb dX2_levelOf_1 (by rw [c_1]; decide) (by rw [c_1]; decide) (by rw [c_1]; decide) (by decide) ?_
    refine lv_iconst (v := 3) hx hb dX2_levelOf_96 (by decide) ?_
    obtain rfl := ob_one hF
    exact gw_iret () hx hb hr hlocks hP hD hS rfl dX2_levelOf_97
  have hF := ob_neg c_1 hF
  by_cases c_2 : p1 = 10
  · have hF := ob_pos c_2 hF
    refine lv_tableIn (tgt := 98) (off := 97) hx hb dX2_levelOf_1 (by rw [c_2]; decide) (by rw [c_2]; decide) (by rw [c_2]; decide) (by decide) ?_
    refine lv_iconst (v := 3) hx hb dX2_levelOf_98 (by decide) ?_
    obtain rfl := ob_one hF
    exact gw_iret () hx hb hr hlocks hP hD hS rfl dX2_levelOf_99
  have hF := ob_neg c_2 hF
  by_cases c_3 : p1 = 11
  · have hF := ob_pos c_3 hF
    refine lv_tableIn (tgt := 100) (off := 99) hx hb dX2_levelOf_1 (by rw [c_3]; decide) (by rw [c_3]; decide) (by rw [c_3]; decide) (by decide) ?_
    refine lv_iconst (v := 4) hx hb dX2_levelOf_100 (by decide) ?_
    obtain rfl := ob_one hF
    exact gw_iret () hx hb hr hlocks hP hD hS rfl dX2_levelOf_101
  have hF := ob_neg c_3 hF
  by_cases c_4 : p1 = 12
  · have hF := ob_pos c_4 hF
    refine lv_tableIn (tgt := 102) (off := 101) hx hb dX2_levelOf_1 (by rw [c_4]; decide) (by rw [c_4]; decide) (by rw [c_4]; decide) (by decide) ?_
    refine lv_iconst (v := 4) hx hb dX2_levelOf_102 (by decide) ?_
    obtain rfl := ob_one hF
    exact gw_iret () hx hb hr hlocks hP hD hS rfl dX2_levelOf_103
  have hF := ob_neg c_4 hF
  by_cases c_5 : p1 = 13
  · have hF := ob_pos c_5 hF
    refine lv_tableIn (tgt := 104) (off := 103) hx hb dX2_levelOf_1 (by rw [c_5]; decide) (by rw [c_5]; decide) (by rw [c_5]; decide) (by decide) ?_
    refine lv_iconst (v := (-1)) hx hb dX2_levelOf_104 (by decide) ?_
    obtain rfl := ob_one hF
    exact gw_iret () hx hb hr hlocks hP hD hS rfl dX2_levelOf_105
  have hF := ob_neg c_5 hF
  by_cases c_6 : p1 = 14
  · have hF := ob_pos c_6 hF
    refine lv_tableIn (tgt := 104) (off := 103) hx hb dX2_levelOf_1 (by rw [c_6]; decide) (by rw [c_6]; decide) (by rw [c_6]; decide) (by decide) ?_
    refine lv_iconst (v := (-1)) hx hb dX2_levelOf_104 (by decide) ?_
    obtain rfl := ob_one hF
    exact gw_iret () hx hb hr hlocks hP hD hS rfl dX2_levelOf_105
  have hF := ob_neg c_6 hF
  by_cases c_7 : p1 = 15
  · have hF := ob_pos c_7 hF
    refine lv_tableIn (tgt := 104) (off := 103) hx hb dX2_levelOf_1 (by rw [c_7]; decide) (by rw [c_7]; decide) (by rw [c_7]; decide) (by decide) ?_
    refine lv_iconst (v := (-1)) hx hb dX2_levelOf_104 (by decide) ?_
    obtain rfl := ob_one hF
    exact gw_iret () hx hb hr hlocks hP hD hS rfl dX2_levelOf_105
  have hF := ob_neg c_7 hF
  by_cases c_8 : p1 = 16
  · have hF := ob_pos c_8 hF
    refine lv_tableIn (tgt := 104) (off := 103) hx hb dX2_levelOf_1 (by rw [c_8]; decide) (by rw [c_8]; decide) (by rw [c_8]; decide) (by decide) ?_
    refine lv_iconst (v := (-1)) hx hb dX2_levelOf_104 (by decide) ?_
    obtain rfl := ob_one hF
    exact gw_iret () hx hb hr hlocks hP hD hS rfl dX2_levelOf_105
  have hF := ob_neg c_8 hF
  by_cases c_9 : p1 = 17
  · have hF := ob_pos c_9 hF
    refine lv_tableIn (tgt := 104) (off := 103) hx hb dX2_levelOf_1 (by rw [c_9]; decide) (by rw [c_9]; decide) (by rw [c_9]; decide) (by decide) ?_
    refine lv_iconst (v := (-1)) hx hb dX2_levelOf_104 (by decide) ?_
    obtain rfl := ob_one hF
    exact gw_iret () hx hb hr hlocks hP hD hS rfl dX2_levelOf_105
  have hF := ob_neg c_9 hF
  by_cases c_10 : p1 = 18
  · have hF := ob_pos c_10 hF
    refine lv_tableIn (tgt := 104) (off := 103) hx hb dX2_levelOf_1 (by rw [c_10]; decide) (by rw [c_10]; decide) (by rw [c_10]; decide) (by decide) ?_
    refine lv_iconst (v := (-1)) hx hb dX2_levelOf_104 (by decide) ?_
    obtain rfl := ob_one hF
    exact gw_iret () hx hb hr hlocks hP hD hS rfl dX2_levelOf_105
  have hF := ob_neg c_10 hF
  by_cases c_11 : p1 = 19
  · have hF := ob_pos c_11 hF
    refine lv_tableIn (tgt := 104) (off := 103) hx hb dX2_levelOf_1 (by rw [c_11]; decide) (by rw [c_11]; decide) (by rw [c_11]; decide) (by decide) ?_
    refine lv_iconst (v := (-1)) hx hb dX2_levelOf_104 (by decide) ?_
    obtain rfl := ob_one hF
    exact gw_iret () hx hb hr hlocks hP hD hS rfl dX2_levelOf_105
  have hF := ob_neg c_11 hF
  by_cases c_12 : p1 = 20
  · have hF := ob_pos c_12 hF
    refine lv_tableIn (tgt := 104) (off := 103) hx hb dX2_levelOf_1 (by rw [c_12]; decide) (by rw [c_12]; decide) (by rw [c_12]; decide) (by decide) ?_
    refine lv_iconst (v := (-1)) hx hb dX2_levelOf_104 (by decide) ?_
    obtain rfl := ob_one hF
    exact gw_iret () hx hb hr hlocks hP hD hS rfl dX2_levelOf_105
  have hF := ob_neg c_12 hF
  by_cases c_13 : p1 = 21
  · have hF := ob_pos c_13 hF
    refine lv_tableIn (tgt := 104) (off := 103) hx hb dX2_levelOf_1 (by rw [c_13]; decide) (by rw [c_13]; decide) (by rw [c_13]; decide) (by decide) ?_
    refine lv_iconst (v := (-1)) hx hb dX2_levelOf_104 (by decide) ?_
    obtain rfl := ob_one hF
    exact gw_iret () hx hb hr hlocks hP hD hS rfl dX2_levelOf_105
  have hF := ob_neg c_13 hF
  by_cases c_14 : p1 = 22
  · have hF := ob_pos c_14 hF
    refine lv_tableIn (tgt := 104) (off := 103) hx hb dX2_levelOf_1 (by rw [c_14]; decide) (by rw [c_14]; decide) (by rw [c_14]; decide) (by decide) ?_
    refine lv_iconst (v := (-1)) hx hb dX2_levelOf_104 (by decide) ?_
    obtain rfl := ob_one hF
    exact gw_iret () hx hb hr hlocks hP hD hS rfl dX2_levelOf_105
  have hF := ob_neg c_14 hF
  by_cases c_15 : p1 = 23
  · have hF := ob_pos c_15 hF
    refine lv_tableIn (tgt := 104) (off := 103) hx hb dX2_levelOf_1 (by rw [c_15]; decide) (by rw [c_15]; decide) (by rw [c_15]; decide) (by decide) ?_
    refine lv_iconst (v := (-1)) hx hb dX2_levelOf_104 (by decide) ?_
    obtain rfl := ob_one hF
    exact gw_iret () hx hb hr hlocks hP hD hS rfl dX2_levelOf_105
  have hF := ob_neg c_15 hF
  by_cases c_16 : p1 = 24
  · have hF := ob_pos c_16 hF
    refine lv_tableIn (tgt := 104) (off := 103) hx hb dX2_levelOf_1 (by rw [c_16]; decide) (by rw [c_16]; decide) (by rw [c_16]; decide) (by decide) ?_
    refine lv_iconst (v := (-1)) hx hb dX2_levelOf_104 (by decide) ?_
    obtain rfl := ob_one hF
    exact gw_iret () hx hb hr hlocks hP hD hS rfl dX2_levelOf_105
  have hF := ob_neg c_16 hF
  by_cases c_17 : p1 = 25
  · have hF := ob_pos c_17 hF
    refine lv_tableIn (tgt := 104) (off := 103) hx hb dX2_levelOf_1 (by rw [c_17]; decide) (by rw [c_17]; decide) (by rw [c_17]; decide) (by decide) ?_
    refine lv_iconst (v := (-1)) hx hb dX2_levelOf_104 (by decide) ?_
    obtain rfl := ob_one hF
    exact gw_iret () hx hb hr hlocks hP hD hS rfl dX2_levelOf_105
  have hF := ob_neg c_17 hF
  by_cases c_18 : p1 = 26
  · have hF := ob_pos c_18 hF
    refine lv_tableIn (tgt := 92) (off := 91) hx hb dX2_levelOf_1 (by rw [c_18]; decide) (by rw [c_18]; decide) (by rw [c_18]; decide) (by decide) ?_
    refine lv_iconst (v := 0) hx hb dX2_levelOf_92 (by decide) ?_
    obtain rfl := ob_one hF
    exact gw_iret () hx hb hr hlocks hP hD hS rfl dX2_levelOf_93
  have hF := ob_neg c_18 hF
  by_cases c_19 : p1 = 27
  · have hF := ob_pos c_19 hF
    refine lv_tableIn (tgt := 94) (off := 93) hx hb dX2_levelOf_1 (by rw [c_19]; decide) (by rw [c_19]; decide) (by rw [c_19]; decide) (by decide) ?_
    refine lv_iconst (v := 1) hx hb dX2_levelOf_94 (by decide) ?_
    obtain rfl := ob_one hF
    exact gw_iret () hx hb hr hlocks hP hD hS rfl dX2_levelOf_95
  have hF := ob_neg c_19 hF
  have hq : (p1).toInt < 9 ∨ 27 < (p1).toInt := by
    have e_c_1 := lv_neT (a := 9) c_1 (by decide)
    have e_c_2 := lv_neT (a := 10) c_2 (by decide)
    have e_c_3 := lv_neT (a := 11) c_3 (by decide)
    have e_c_4 := lv_neT (a := 12) c_4 (by decide)
    have e_c_5 := lv_neT (a := 13) c_5 (by decide)
    have e_c_6 := lv_neT (a := 14) c_6 (by decide)
    have e_c_7 := lv_neT (a := 15) c_7 (by decide)
    have e_c_8 := lv_neT (a := 16) c_8 (by decide)
    have e_c_9 := lv_neT (a := 17) c_9 (by decide)
    have e_c_10 := lv_neT (a := 18) c_10 (by decide)
    have e_c_11 := lv_neT (a := 19) c_11 (by decide)
    have e_c_12 := lv_neT (a := 20) c_12 (by decide)
    have e_c_13 := lv_neT (a := 21) c_13 (by decide)
    have e_c_14 := lv_neT (a := 22) c_14 (by decide)
    have e_c_15 := lv_neT (a := 23) c_15 (by decide)
    have e_c_16 := lv_neT (a := 24) c_16 (by decide)
    have e_c_17 := lv_neT (a := 25) c_17 (by decide)
    have e_c_18 := lv_neT (a := 26) c_18 (by decide)
    have e_c_19 := lv_neT (a := 27) c_19 (by decide)
    omega
  refine lv_tableOut (tgt := 104) hx hb dX2_levelOf_1 hq (by decide) ?_
  refine lv_iconst (v := (-1)) hx hb dX2_levelOf_104 (by decide) ?_
  obtain rfl := ob_one hF
  exact gw_iret () hx hb hr hlocks hP hD hS rfl dX2_levelOf_105
def f_X1_joined_153 (y0 : Int64) : Option Int64 := (some y0)
def f_X1_joined_165 (y0 : Int64) : Option Int64 := (some y0)
def f_X1_joined_177 (y0 : Int64) : Option Int64 := (some y0)
def f_X1_joined_189 (y0 : Int64) : Option Int64 := (some y0)
def f_X1_joined_201 (y0 : Int64) : Option Int64 := (some y0)
def f_X1_joined_213 (y0 : Int64) : Option Int64 := (some y0)
def f_X1_joined_141 (y0 : Int64) : Option Int64 := (some y0)
def f_X1_joined (p1 : Int32) (p2 : Int64) (p3 : Int64) : Option Int64 := (if p1 = 3 then (if 0 ≤ (lg_cmp p2 p3) then (f_X1_joined_153 0) else (f_X1_joined_153 1)) else (if p1 = 4 then (if 0 < (lg_cmp p2 p3) then (f_X1_joined_165 0) else (f_X1_joined_165 1)) else (if p1 = 5 then (if (lg_cmp p2 p3) ≤ 0 then (f_X1_joined_177 0) else (f_X1_joined_177 1)) else (if p1 = 6 then (if (lg_cmp p2 p3) < 0 then (f_X1_joined_189 0) else (f_X1_joined_189 1)) else (if p1 = 7 then (if (lg_cmp p2 p3) = 0 then (f_X1_joined_201 1) else (f_X1_joined_201 0)) else (if p1 = 8 then (if (lg_cmp p2 p3) = 0 then (f_X1_joined_213 0) else (f_X1_joined_213 1)) else (if p1 = 9 then (some (p2 + p3)) else (if p1 = 10 then (some (p2 - p3)) else (if p1 = 11 then (some (p2 * p3)) else (if p1 = 12 then (if (lg_cmp p3 0) = 0 then (f_X1_joined_141 0) else (if ¬ p3 = 0 then (f_X1_joined_141 (p2 / p3)) else none)) else (if p1 = 13 then (some (p2 ||| p3)) else (if p1 = 14 then (some (p2 ||| p3)) else (if p1 = 15 then (some (p2 ||| p3)) else (if p1 = 16 then (some (p2 ||| p3)) else (if p1 = 17 then (some (p2 ||| p3)) else (if p1 = 18 then (some (p2 ||| p3)) else (if p1 = 19 then (some (p2 ||| p3)) else (if p1 = 20 then (some (p2 ||| p3)) else (if p1 = 21 then (some (p2 ||| p3)) else (if p1 = 22 then (some (p2 ||| p3)) else (if p1 = 23 then (some (p2 ||| p3)) else (if p1 = 24 then (some (p2 ||| p3)) else (if p1 = 25 then (some (p2 ||| p3)) else (if p1 = 26 then (some (p2 ||| p3)) else (if p1 = 27 then (some (p2 &&& p3)) else (some (p2 ||| p3)))))))))))))))))))))))))))
set_option maxHeartbeats 4000000 in
set_option maxRecDepth 100000 in
theorem c_X1_joined (l : Launch) (G : va_G) (cI cJ cZ cB cT : ClassId)   (p1 : Int32) (p2 : Int64) (p3 : Int64) (rr : Int64)  (hF : f_X1_joined p1 p2 p3 = some rr) : gMl l yX1_joined (gws yX1_joined cX1_joined 5 (some .long)) 1 G (gT cI cJ cZ cB cT) [.int p1, .long p2, .long p3] ([] : va_W) (fun x (_ : Unit) => x = rr) (fun (_ : Unit) => ([] : va_W)) := by
  intro sz
  refine gM_start (y := yX1_joined) (av := [.int p1, .long p2, .long p3]) (ws := ([] : va_W)) (Qf := fun A => va_Ql (fun x (_ : Unit) => x = rr) (gB G (fun (_ : Unit) => ([] : va_W)) A) A) (cc := cX1_joined) (maxL := 5) (ret := (some .long)) (by decide) (Nat.le_of_ble_eq_true rfl) ?_
  intro p e s m args below meth c A ls H hx hb hr hts hown hin hlocks hml hP hK hD hA hS hl hE
  have hl : lv_has ls 5 [(0, .int p1), (1, .long p2), (3, .long p3)] := hl
  have hJ_153 : ∀  (y0 : Int64), f_X1_joined_153 y0 = some rr → ∀ (H : Heap) (locs : List Loc) (ls : Array Slot), va_P G vwCl ([] : va_W) H → va_D A ([] : va_W) → va_S A s.heap H locs → lv_has ls 5 [] → W p l e (gRm 1) s m args below meth c H locs 0 0 (MQ below (va_Ql (fun x (_ : Unit) => x = rr) (gB G (fun (_ : Unit) => ([] : va_W)) A) A) args s 0 0 A) (F0 m 153 ls [.long y0]) := by
    intro  y0 hF H locs ls hP hD hS hl
    unfold f_X1_joined_153 at hF
    obtain rfl := ob_one hF
    exact gw_lret () hx hb hr hlocks hP hD hS rfl dX1_joined_153
  have hJ_165 : ∀  (y0 : Int64), f_X1_joined_165 y0 = some rr → ∀ (H : Heap) (locs : List Loc) (ls : Array Slot), va_P G vwCl ([] : va_W) H → va_D A ([] : va_W) → va_S A s.heap H locs → lv_has ls 5 [] → W p l e (gRm 1) s m args below meth c H locs 0 0 (MQ below (va_Ql (fun x (_ : Unit) => x = rr) (gB G (fun (_ : Unit) => ([] : va_W)) A) A) args s 0 0 A) (F0 m 165 ls [.long y0]) := by
    intro  y0 hF H locs ls hP hD hS hl
    unfold f_X1_joined_165 at hF
    obtain rfl := ob_one hF
    exact gw_lret () hx hb hr hlocks hP hD hS rfl dX1_joined_165
  have hJ_177 : ∀  (y0 : Int64), f_X1_joined_177 y0 = some rr → ∀ (H : Heap) (locs : List Loc) (ls : Array Slot), va_P G vwCl ([] : va_W) H → va_D A ([] : va_W) → va_S A s.heap H locs → lv_has ls 5 [] → W p l e (gRm 1) s m args below meth c H locs 0 0 (MQ below (va_Ql (fun x (_ : Unit) => x = rr) (gB G (fun (_ : Unit) => ([] : va_W)) A) A) args s 0 0 A) (F0 m 177 ls [.long y0]) := by
    intro  y0 hF H locs ls hP hD hS hl
    unfold f_X1_joined_177 at hF
    obtain rfl := ob_one hF
    exact gw_lret () hx hb hr hlocks hP hD hS rfl dX1_joined_177
  have hJ_189 : ∀  (y0 : Int64), f_X1_joined_189 y0 = some rr → ∀ (H : Heap) (locs : List Loc) (ls : Array Slot), va_P G vwCl ([] : va_W) H → va_D A ([] : va_W) → va_S A s.heap H locs → lv_has ls 5 [] → W p l e (gRm 1) s m args below meth c H locs 0 0 (MQ below (va_Ql (fun x (_ : Unit) => x = rr) (gB G (fun (_ : Unit) => ([] : va_W)) A) A) args s 0 0 A) (F0 m 189 ls [.long y0]) := by
    intro  y0 hF H locs ls hP hD hS hl
    unfold f_X1_joined_189 at hF
    obtain rfl := ob_one hF
    exact gw_lret () hx hb hr hlocks hP hD hS rfl dX1_joined_189
  have hJ_201 : ∀  (y0 : Int64), f_X1_joined_201 y0 = some rr → ∀ (H : Heap) (locs : List Loc) (ls : Array Slot), va_P G vwCl ([] : va_W) H → va_D A ([] : va_W) → va_S A s.heap H locs → lv_has ls 5 [] → W p l e (gRm 1) s m args below meth c H locs 0 0 (MQ below (va_Ql (fun x (_ : Unit) => x = rr) (gB G (fun (_ : Unit) => ([] : va_W)) A) A) args s 0 0 A) (F0 m 201 ls [.long y0]) := by
    intro  y0 hF H locs ls hP hD hS hl
    unfold f_X1_joined_201 at hF
    obtain rfl := ob_one hF
    exact gw_lret () hx hb hr hlocks hP hD hS rfl dX1_joined_201
  have hJ_213 : ∀  (y0 : Int64), f_X1_joined_213 y0 = some rr → ∀ (H : Heap) (locs : List Loc) (ls : Array Slot), va_P G vwCl ([] : va_W) H → va_D A ([] : va_W) → va_S A s.heap H locs → lv_has ls 5 [] → W p l e (gRm 1) s m args below meth c H locs 0 0 (MQ below (va_Ql (fun x (_ : Unit) => x = rr) (gB G (fun (_ : Unit) => ([] : va_W)) A) A) args s 0 0 A) (F0 m 213 ls [.long y0]) := by
    intro  y0 hF H locs ls hP hD hS hl
    unfold f_X1_joined_213 at hF
    obtain rfl := ob_one hF
    exact gw_lret () hx hb hr hlocks hP hD hS rfl dX1_joined_213
  have hJ_141 : ∀  (y0 : Int64), f_X1_joined_141 y0 = some rr → ∀ (H : Heap) (locs : List Loc) (ls : Array Slot), va_P G vwCl ([] : va_W) H → va_D A ([] : va_W) → va_S A s.heap H locs → lv_has ls 5 [] → W p l e (gRm 1) s m args below meth c H locs 0 0 (MQ below (va_Ql (fun x (_ : Unit) => x = rr) (gB G (fun (_ : Unit) => ([] : va_W)) A) A) args s 0 0 A) (F0 m 141 ls [.long y0]) := by
    intro  y0 hF H locs ls hP hD hS hl
    unfold f_X1_joined_141 at hF
    obtain rfl := ob_one hF
    exact gw_lret () hx hb hr hlocks hP hD hS rfl dX1_joined_141
  unfold f_X1_joined at hF
  refine lv_iload_n hx hb dX1_joined_0 rfl (lv_at hl 0 rfl) ?_
  by_cases c_1 : p1 = 3
  · have hF := ob_pos c_1 hF
    refine lv_tableIn (tgt := 142) (off := 141) hx hb dX1_joined_1 (by rw [c_1]; decide) (by rw [c_1]; decide) (by rw [c_1]; decide) (by decide) ?_
    refine lv_lload_n hx hb dX1_joined_142 rfl (lv_at hl 1 rfl) ?_
    refine lv_lload_n hx hb dX1_joined_143 rfl (lv_at hl 2 rfl) ?_
    refine W.lcmp hx hb dX1_joined_144 ?_
    refine lv_if_ge (tgt := 152) hx hb dX1_joined_145 (by decide) (fun c_2 => ?_) (fun c_2 => ?_)
    · have hF := ob_pos c_2 hF
      refine lv_lconst (v := 0) hx hb dX1_joined_152 (by decide) ?_
      exact hJ_153 0 hF H _ ls hP hD hS (lv_sub hl [] rfl)
    · have hF := ob_neg c_2 hF
      refine lv_lconst (v := 1) hx hb dX1_joined_148 (by decide) ?_
      refine lv_goto (tgt := 153) hx hb dX1_joined_149 (by decide) ?_
      exact hJ_153 1 hF H _ ls hP hD hS (lv_sub hl [] rfl)
  have hF := ob_neg c_1 hF
  by_cases c_3 : p1 = 4
  · have hF := ob_pos c_3 hF
    refine lv_tableIn (tgt := 154) (off := 153) hx hb dX1_joined_1 (by rw [c_3]; decide) (by rw [c_3]; decide) (by rw [c_3]; decide) (by decide) ?_
    refine lv_lload_n hx hb dX1_joined_154 rfl (lv_at hl 1 rfl) ?_
    refine lv_lload_n hx hb dX1_joined_155 rfl (lv_at hl 2 rfl) ?_
    refine W.lcmp hx hb dX1_joined_156 ?_
    refine lv_if_gt (tgt := 164) hx hb dX1_joined_157 (by decide) (fun c_4 => ?_) (fun c_4 => ?_)
    · have hF := ob_pos c_4 hF
      refine lv_lconst (v := 0) hx hb dX1_joined_164 (by decide) ?_
      exact hJ_165 0 hF H _ ls hP hD hS (lv_sub hl [] rfl)
    · have hF := ob_neg c_4 hF
      refine lv_lconst (v := 1) hx hb dX1_joined_160 (by decide) ?_
      refine lv_goto (tgt := 165) hx hb dX1_joined_161 (by decide) ?_
      exact hJ_165 1 hF H _ ls hP hD hS (lv_sub hl [] rfl)
  have hF := ob_neg c_3 hF
  by_cases c_5 : p1 = 5
  · have hF := ob_pos c_5 hF
    refine lv_tableIn (tgt := 166) (off := 165) hx hb dX1_joined_1 (by rw [c_5]; decide) (by rw [c_5]; decide) (by rw [c_5]; decide) (by decide) ?_
    refine lv_lload_n hx hb dX1_joined_166 rfl (lv_at hl 1 rfl) ?_
    refine lv_lload_n hx hb dX1_joined_167 rfl (lv_at hl 2 rfl) ?_
    refine W.lcmp hx hb dX1_joined_168 ?_
    refine lv_if_le (tgt := 176) hx hb dX1_joined_169 (by decide) (fun c_6 => ?_) (fun c_6 => ?_)
    · have hF := ob_pos c_6 hF
      refine lv_lconst (v := 0) hx hb dX1_joined_176 (by decide) ?_
      exact hJ_177 0 hF H _ ls hP hD hS (lv_sub hl [] rfl)
    · have hF := ob_neg c_6 hF
      refine lv_lconst (v := 1) hx hb dX1_joined_172 (by decide) ?_
      refine lv_goto (tgt := 177) hx hb dX1_joined_173 (by decide) ?_
      exact hJ_177 1 hF H _ ls hP hD hS (lv_sub hl [] rfl)
  have hF := ob_neg c_5 hF
  by_cases c_7 : p1 = 6
  · have hF := ob_pos c_7 hF
    refine lv_tableIn (tgt := 178) (off := 177) hx hb dX1_joined_1 (by rw [c_7]; decide) (by rw [c_7]; decide) (by rw [c_7]; decide) (by decide) ?_
    refine lv_lload_n hx hb dX1_joined_178 rfl (lv_at hl 1 rfl) ?_
    refine lv_lload_n hx hb dX1_joined_179 rfl (lv_at hl 2 rfl) ?_
    refine W.lcmp hx hb dX1_joined_180 ?_
    refine lv_if_lt (tgt := 188) hx hb dX1_joined_181 (by decide) (fun c_8 => ?_) (fun c_8 => ?_)
    · have hF := ob_pos c_8 hF
      refine lv_lconst (v := 0) hx hb dX1_joined_188 (by decide) ?_
      exact hJ_189 0 hF H _ ls hP hD hS (lv_sub hl [] rfl)
    · have hF := ob_neg c_8 hF
      refine lv_lconst (v := 1) hx hb dX1_joined_184 (by decide) ?_
      refine lv_goto (tgt := 189) hx hb dX1_joined_185 (by decide) ?_
      exact hJ_189 1 hF H _ ls hP hD hS (lv_sub hl [] rfl)
  have hF := ob_neg c_7 hF
  by_cases c_9 : p1 = 7
  · have hF := ob_pos c_9 hF
    refine lv_tableIn (tgt := 190) (off := 189) hx hb dX1_joined_1 (by rw [c_9]; decide) (by rw [c_9]; decide) (by rw [c_9]; decide) (by decide) ?_
    refine lv_lload_n hx hb dX1_joined_190 rfl (lv_at hl 1 rfl) ?_
    refine lv_lload_n hx hb dX1_joined_191 rfl (lv_at hl 2 rfl) ?_
    refine W.lcmp hx hb dX1_joined_192 ?_
    refine lv_if_ne (tgt := 200) hx hb dX1_joined_193 (by decide) (fun c_10 => ?_) (fun c_10 => ?_)
    · have hF := ob_neg c_10 hF
      refine lv_lconst (v := 0) hx hb dX1_joined_200 (by decide) ?_
      exact hJ_201 0 hF H _ ls hP hD hS (lv_sub hl [] rfl)
    · have hF := ob_pos c_10 hF
      refine lv_lconst (v := 1) hx hb dX1_joined_196 (by decide) ?_
      refine lv_goto (tgt := 201) hx hb dX1_joined_197 (by decide) ?_
      exact hJ_201 1 hF H _ ls hP hD hS (lv_sub hl [] rfl)
  have hF := ob_neg c_9 hF
  by_cases c_11 : p1 = 8
  · have hF := ob_pos c_11 hF
    refine lv_tableIn (tgt := 202) (off := 201) hx hb dX1_joined_1 (by rw [c_11]; decide) (by rw [c_11]; decide) (by rw [c_11]; decide) (by decide) ?_
    refine lv_lload_n hx hb dX1_joined_202 rfl (lv_at hl 1 rfl) ?_
    refine lv_lload_n hx hb dX1_joined_203 rfl (lv_at hl 2 rfl) ?_
    refine W.lcmp hx hb dX1_joined_204 ?_
    refine lv_if_eq (tgt := 212) hx hb dX1_joined_205 (by decide) (fun c_12 => ?_) (fun c_12 => ?_)
    · have hF := ob_pos c_12 hF
      refine lv_lconst (v := 0) hx hb dX1_joined_212 (by decide) ?_
      exact hJ_213 0 hF H _ ls hP hD hS (lv_sub hl [] rfl)
    · have hF := ob_neg c_12 hF
      refine lv_lconst (v := 1) hx hb dX1_joined_208 (by decide) ?_
      refine lv_goto (tgt := 213) hx hb dX1_joined_209 (by decide) ?_
      exact hJ_213 1 hF H _ ls hP hD hS (lv_sub hl [] rfl)
  have hF := ob_neg c_11 hF
  by_cases c_13 : p1 = 9
  · have hF := ob_pos c_13 hF
    refine lv_tableIn (tgt := 116) (off := 115) hx hb dX1_joined_1 (by rw [c_13]; decide) (by rw [c_13]; decide) (by rw [c_13]; decide) (by decide) ?_
    refine lv_lload_n hx hb dX1_joined_116 rfl (lv_at hl 1 rfl) ?_
    refine lv_lload_n hx hb dX1_joined_117 rfl (lv_at hl 2 rfl) ?_
    refine lv_ladd hx hb dX1_joined_118 ?_
    obtain rfl := ob_one hF
    exact gw_lret () hx hb hr hlocks hP hD hS rfl dX1_joined_119
  have hF := ob_neg c_13 hF
  by_cases c_14 : p1 = 10
  · have hF := ob_pos c_14 hF
    refine lv_tableIn (tgt := 120) (off := 119) hx hb dX1_joined_1 (by rw [c_14]; decide) (by rw [c_14]; decide) (by rw [c_14]; decide) (by decide) ?_
    refine lv_lload_n hx hb dX1_joined_120 rfl (lv_at hl 1 rfl) ?_
    refine lv_lload_n hx hb dX1_joined_121 rfl (lv_at hl 2 rfl) ?_
    refine lv_lsub hx hb dX1_joined_122 ?_
    obtain rfl := ob_one hF
    exact gw_lret () hx hb hr hlocks hP hD hS rfl dX1_joined_123
  have hF := ob_neg c_14 hF
  by_cases c_15 : p1 = 11
  · have hF := ob_pos c_15 hF
    refine lv_tableIn (tgt := 124) (off := 123) hx hb dX1_joined_1 (by rw [c_15]; decide) (by rw [c_15]; decide) (by rw [c_15]; decide) (by decide) ?_
    refine lv_lload_n hx hb dX1_joined_124 rfl (lv_at hl 1 rfl) ?_
    refine lv_lload_n hx hb dX1_joined_125 rfl (lv_at hl 2 rfl) ?_
    refine lv_lmul hx hb dX1_joined_126 ?_
    obtain rfl := ob_one hF
    exact gw_lret () hx hb hr hlocks hP hD hS rfl dX1_joined_127
  have hF := ob_neg c_15 hF
  by_cases c_16 : p1 = 12
  · have hF := ob_pos c_16 hF
    refine lv_tableIn (tgt := 128) (off := 127) hx hb dX1_joined_1 (by rw [c_16]; decide) (by rw [c_16]; decide) (by rw [c_16]; decide) (by decide) ?_
    refine lv_lload_n hx hb dX1_joined_128 rfl (lv_at hl 2 rfl) ?_
    refine lv_lconst (v := 0) hx hb dX1_joined_129 (by decide) ?_
    refine W.lcmp hx hb dX1_joined_130 ?_
    refine lv_if_ne (tgt := 138) hx hb dX1_joined_131 (by decide) (fun c_17 => ?_) (fun c_17 => ?_)
    · have hF := ob_neg c_17 hF
      refine lv_lload_n hx hb dX1_joined_138 rfl (lv_at hl 1 rfl) ?_
      refine lv_lload_n hx hb dX1_joined_139 rfl (lv_at hl 2 rfl) ?_
      obtain ⟨hd_18, hF⟩ := ob_if hF
      refine lv_ldiv hx hb dX1_joined_140 hd_18 ?_
      exact hJ_141 (p2 / p3) hF H _ ls hP hD hS (lv_sub hl [] rfl)
    · have hF := ob_pos c_17 hF
      refine lv_lconst (v := 0) hx hb dX1_joined_134 (by decide) ?_
      refine lv_goto (tgt := 141) hx hb dX1_joined_135 (by decide) ?_
      exact hJ_141 0 hF H _ ls hP hD hS (lv_sub hl [] rfl)
  have hF := ob_neg c_16 hF
  by_cases c_19 : p1 = 13
  · have hF := ob_pos c_19 hF
    refine lv_tableIn (tgt := 218) (off := 217) hx hb dX1_joined_1 (by rw [c_19]; decide) (by rw [c_19]; decide) (by rw [c_19]; decide) (by decide) ?_
    refine lv_lload_n hx hb dX1_joined_218 rfl (lv_at hl 1 rfl) ?_
    refine lv_lload_n hx hb dX1_joined_219 rfl (lv_at hl 2 rfl) ?_
    refine lv_lor hx hb dX1_joined_220 ?_
    obtain rfl := ob_one hF
    exact gw_lret () hx hb hr hlocks hP hD hS rfl dX1_joined_221
  have hF := ob_neg c_19 hF
  by_cases c_20 : p1 = 14
  · have hF := ob_pos c_20 hF
    refine lv_tableIn (tgt := 218) (off := 217) hx hb dX1_joined_1 (by rw [c_20]; decide) (by rw [c_20]; decide) (by rw [c_20]; decide) (by decide) ?_
    refine lv_lload_n hx hb dX1_joined_218 rfl (lv_at hl 1 rfl) ?_
    refine lv_lload_n hx hb dX1_joined_219 rfl (lv_at hl 2 rfl) ?_
    refine lv_lor hx hb dX1_joined_220 ?_
    obtain rfl := ob_one hF
    exact gw_lret () hx hb hr hlocks hP hD hS rfl dX1_joined_221
  have hF := ob_neg c_20 hF
  by_cases c_21 : p1 = 15
  · have hF := ob_pos c_21 hF
    refine lv_tableIn (tgt := 218) (off := 217) hx hb dX1_joined_1 (by rw [c_21]; decide) (by rw [c_21]; decide) (by rw [c_21]; decide) (by decide) ?_
    refine lv_lload_n hx hb dX1_joined_218 rfl (lv_at hl 1 rfl) ?_
    refine lv_lload_n hx hb dX1_joined_219 rfl (lv_at hl 2 rfl) ?_
    refine lv_lor hx hb dX1_joined_220 ?_
    obtain rfl := ob_one hF
    exact gw_lret () hx hb hr hlocks hP hD hS rfl dX1_joined_221
  have hF := ob_neg c_21 hF
  by_cases c_22 : p1 = 16
  · have hF := ob_pos c_22 hF
    refine lv_tableIn (tgt := 218) (off := 217) hx hb dX1_joined_1 (by rw [c_22]; decide) (by rw [c_22]; decide) (by rw [c_22]; decide) (by decide) ?_
    refine lv_lload_n hx hb dX1_joined_218 rfl (lv_at hl 1 rfl) ?_
    refine lv_lload_n hx hb dX1_joined_219 rfl (lv_at hl 2 rfl) ?_
    refine lv_lor hx hb dX1_joined_220 ?_
    obtain rfl := ob_one hF
    exact gw_lret () hx hb hr hlocks hP hD hS rfl dX1_joined_221
  have hF := ob_neg c_22 hF
  by_cases c_23 : p1 = 17
  · have hF := ob_pos c_23 hF
    refine lv_tableIn (tgt := 218) (off := 217) hx hb dX1_joined_1 (by rw [c_23]; decide) (by rw [c_23]; decide) (by rw [c_23]; decide) (by decide) ?_
    refine lv_lload_n hx hb dX1_joined_218 rfl (lv_at hl 1 rfl) ?_
    refine lv_lload_n hx hb dX1_joined_219 rfl (lv_at hl 2 rfl) ?_
    refine lv_lor hx hb dX1_joined_220 ?_
    obtain rfl := ob_one hF
    exact gw_lret () hx hb hr hlocks hP hD hS rfl dX1_joined_221
  have hF := ob_neg c_23 hF
  by_cases c_24 : p1 = 18
  · have hF := ob_pos c_24 hF
    refine lv_tableIn (tgt := 218) (off := 217) hx hb dX1_joined_1 (by rw [c_24]; decide) (by rw [c_24]; decide) (by rw [c_24]; decide) (by decide) ?_
    refine lv_lload_n hx hb dX1_joined_218 rfl (lv_at hl 1 rfl) ?_
    refine lv_lload_n hx hb dX1_joined_219 rfl (lv_at hl 2 rfl) ?_
    refine lv_lor hx hb dX1_joined_220 ?_
    obtain rfl := ob_one hF
    exact gw_lret () hx hb hr hlocks hP hD hS rfl dX1_joined_221
  have hF := ob_neg c_24 hF
  by_cases c_25 : p1 = 19
  · have hF := ob_pos c_25 hF
    refine lv_tableIn (tgt := 218) (off := 217) hx hb dX1_joined_1 (by rw [c_25]; decide) (by rw [c_25]; decide) (by rw [c_25]; decide) (by decide) ?_
    refine lv_lload_n hx hb dX1_joined_218 rfl (lv_at hl 1 rfl) ?_
    refine lv_lload_n hx hb dX1_joined_219 rfl (lv_at hl 2 rfl) ?_
    refine lv_lor hx hb dX1_joined_220 ?_
    obtain rfl := ob_one hF
    exact gw_lret () hx hb hr hlocks hP hD hS rfl dX1_joined_221
  have hF := ob_neg c_25 hF
  by_cases c_26 : p1 = 20
  · have hF := ob_pos c_26 hF
    refine lv_tableIn (tgt := 218) (off := 217) hx hb dX1_joined_1 (by rw [c_26]; decide) (by rw [c_26]; decide) (by rw [c_26]; decide) (by decide) ?_
    refine lv_lload_n hx hb dX1_joined_218 rfl (lv_at hl 1 rfl) ?_
    refine lv_lload_n hx hb dX1_joined_219 rfl (lv_at hl 2 rfl) ?_
    refine lv_lor hx hb dX1_joined_220 ?_
    obtain rfl := ob_one hF
    exact gw_lret () hx hb hr hlocks hP hD hS rfl dX1_joined_221
  have hF := ob_neg c_26 hF
  by_cases c_27 : p1 = 21
  · have hF := ob_pos c_27 hF
    refine lv_tableIn (tgt := 218) (off := 217) hx hb dX1_joined_1 (by rw [c_27]; decide) (by rw [c_27]; decide) (by rw [c_27]; decide) (by decide) ?_
    refine lv_lload_n hx hb dX1_joined_218 rfl (lv_at hl 1 rfl) ?_
    refine lv_lload_n hx hb dX1_joined_219 rfl (lv_at hl 2 rfl) ?_
    refine lv_lor hx hb dX1_joined_220 ?_
    obtain rfl := ob_one hF
    exact gw_lret () hx hb hr hlocks hP hD hS rfl dX1_joined_221
  have hF := ob_neg c_27 hF
  by_cases c_28 : p1 = 22
  · have hF := ob_pos c_28 hF
    refine lv_tableIn (tgt := 218) (off := 217) hx hb dX1_joined_1 (by rw [c_28]; decide) (by rw [c_28]; decide) (by rw [c_28]; decide) (by decide) ?_
    refine lv_lload_n hx hb dX1_joined_218 rfl (lv_at hl 1 rfl) ?_
    refine lv_lload_n hx hb dX1_joined_219 rfl (lv_at hl 2 rfl) ?_
    refine lv_lor hx hb dX1_joined_220 ?_
    obtain rfl := ob_one hF
    exact gw_lret () hx hb hr hlocks hP hD hS rfl dX1_joined_221
  have hF := ob_neg c_28 hF
  by_cases c_29 : p1 = 23
  · have hF := ob_pos c_29 hF
    refine lv_tableIn (tgt := 218) (off := 217) hx hb dX1_joined_1 (by rw [c_29]; decide) (by rw [c_29]; decide) (by rw [c_29]; decide) (by decide) ?_
    refine lv_lload_n hx hb dX1_joined_218 rfl (lv_at hl 1 rfl) ?_
    refine lv_lload_n hx hb dX1_joined_219 rfl (lv_at hl 2 rfl) ?_
    refine lv_lor hx hb dX1_joined_220 ?_
    obtain rfl := ob_one hF
    exact gw_lret () hx hb hr hlocks hP hD hS rfl dX1_joined_221
  have hF := ob_neg c_29 hF
  by_cases c_30 : p1 = 24
  · have hF := ob_pos c_30 hF
    refine lv_tableIn (tgt := 218) (off := 217) hx hb dX1_joined_1 (by rw [c_30]; decide) (by rw [c_30]; decide) (by rw [c_30]; decide) (by decide) ?_
    refine lv_lload_n hx hb dX1_joined_218 rfl (lv_at hl 1 rfl) ?_
    refine lv_lload_n hx hb dX1_joined_219 rfl (lv_at hl 2 rfl) ?_
    refine lv_lor hx hb dX1_joined_220 ?_
    obtain rfl := ob_one hF
    exact gw_lret () hx hb hr hlocks hP hD hS rfl dX1_joined_221
  have hF := ob_neg c_30 hF
  by_cases c_31 : p1 = 25
  · have hF := ob_pos c_31 hF
    refine lv_tableIn (tgt := 218) (off := 217) hx hb dX1_joined_1 (by rw [c_31]; decide) (by rw [c_31]; decide) (by rw [c_31]; decide) (by decide) ?_
    refine lv_lload_n hx hb dX1_joined_218 rfl (lv_at hl 1 rfl) ?_
    refine lv_lload_n hx hb dX1_joined_219 rfl (lv_at hl 2 rfl) ?_
    refine lv_lor hx hb dX1_joined_220 ?_
    obtain rfl := ob_one hF
    exact gw_lret () hx hb hr hlocks hP hD hS rfl dX1_joined_221
  have hF := ob_neg c_31 hF
  by_cases c_32 : p1 = 26
  · have hF := ob_pos c_32 hF
    refine lv_tableIn (tgt := 218) (off := 217) hx hb dX1_joined_1 (by rw [c_32]; decide) (by rw [c_32]; decide) (by rw [c_32]; decide) (by decide) ?_
    refine lv_lload_n hx hb dX1_joined_218 rfl (lv_at hl 1 rfl) ?_
    refine lv_lload_n hx hb dX1_joined_219 rfl (lv_at hl 2 rfl) ?_
    refine lv_lor hx hb dX1_joined_220 ?_
    obtain rfl := ob_one hF
    exact gw_lret () hx hb hr hlocks hP hD hS rfl dX1_joined_221
  have hF := ob_neg c_32 hF
  by_cases c_33 : p1 = 27
  · have hF := ob_pos c_33 hF
    refine lv_tableIn (tgt := 214) (off := 213) hx hb dX1_joined_1 (by rw [c_33]; decide) (by rw [c_33]; decide) (by rw [c_33]; decide) (by decide) ?_
    refine lv_lload_n hx hb dX1_joined_214 rfl (lv_at hl 1 rfl) ?_
    refine lv_lload_n hx hb dX1_joined_215 rfl (lv_at hl 2 rfl) ?_
    refine lv_land hx hb dX1_joined_216 ?_
    obtain rfl := ob_one hF
    exact gw_lret () hx hb hr hlocks hP hD hS rfl dX1_joined_217
  have hF := ob_neg c_33 hF
  have hq : (p1).toInt < 3 ∨ 27 < (p1).toInt := by
    have e_c_1 := lv_neT (a := 3) c_1 (by decide)
    have e_c_3 := lv_neT (a := 4) c_3 (by decide)
    have e_c_5 := lv_neT (a := 5) c_5 (by decide)
    have e_c_7 := lv_neT (a := 6) c_7 (by decide)
    have e_c_9 := lv_neT (a := 7) c_9 (by decide)
    have e_c_11 := lv_neT (a := 8) c_11 (by decide)
    have e_c_13 := lv_neT (a := 9) c_13 (by decide)
    have e_c_14 := lv_neT (a := 10) c_14 (by decide)
    have e_c_15 := lv_neT (a := 11) c_15 (by decide)
    have e_c_16 := lv_neT (a := 12) c_16 (by decide)
    have e_c_19 := lv_neT (a := 13) c_19 (by decide)
    have e_c_20 := lv_neT (a := 14) c_20 (by decide)
    have e_c_21 := lv_neT (a := 15) c_21 (by decide)
    have e_c_22 := lv_neT (a := 16) c_22 (by decide)
    have e_c_23 := lv_neT (a := 17) c_23 (by decide)
    have e_c_24 := lv_neT (a := 18) c_24 (by decide)
    have e_c_25 := lv_neT (a := 19) c_25 (by decide)
    have e_c_26 := lv_neT (a := 20) c_26 (by decide)
    have e_c_27 := lv_neT (a := 21) c_27 (by decide)
    have e_c_28 := lv_neT (a := 22) c_28 (by decide)
    have e_c_29 := lv_neT (a := 23) c_29 (by decide)
    have e_c_30 := lv_neT (a := 24) c_30 (by decide)
    have e_c_31 := lv_neT (a := 25) c_31 (by decide)
    have e_c_32 := lv_neT (a := 26) c_32 (by decide)
    have e_c_33 := lv_neT (a := 27) c_33 (by decide)
    omega
  refine lv_tableOut (tgt := 218) hx hb dX1_joined_1 hq (by decide) ?_
  refine lv_lload_n hx hb dX1_joined_218 rfl (lv_at hl 1 rfl) ?_
  refine lv_lload_n hx hb dX1_joined_219 rfl (lv_at hl 2 rfl) ?_
  refine lv_lor hx hb dX1_joined_220 ?_
  obtain rfl := ob_one hF
  exact gw_lret () hx hb hr hlocks hP hD hS rfl dX1_joined_221
def f_X3_cell (p1 : Int32) (p2 : Int32) (p3 : Int32) : Option Int32 := (some ((((p1 * 3) + p2) * 5) + p3))
set_option maxHeartbeats 4000000 in
set_option maxRecDepth 100000 in
theorem c_X3_cell (l : Launch) (G : va_G) (cI cJ cZ cB cT : ClassId)   (p1 : Int32) (p2 : Int32) (p3 : Int32) (rr : Int32)  (hF : f_X3_cell p1 p2 p3 = some rr) : gMi l yX3_cell (gws yX3_cell cX3_cell 3 (some .int)) 1 G (gT cI cJ cZ cB cT) [.int p1, .int p2, .int p3] ([] : va_W) (fun x (_ : Unit) => x = rr) (fun (_ : Unit) => ([] : va_W)) := by
  intro sz
  refine gM_start (y := yX3_cell) (av := [.int p1, .int p2, .int p3]) (ws := ([] : va_W)) (Qf := fun A => va_Qi (fun x (_ : Unit) => x = rr) (gB G (fun (_ : Unit) => ([] : va_W)) A) A) (cc := cX3_cell) (maxL := 3) (ret := (some .int)) (by decide) (Nat.le_of_ble_eq_true rfl) ?_
  intro p e s m args below meth c A ls H hx hb hr hts hown hin hlocks hml hP hK hD hA hS hl hE
  have hl : lv_has ls 3 [(0, .int p1), (1, .int p2), (2, .int p3)] := hl
  unfold f_X3_cell at hF
  refine lv_iload_n hx hb dX3_cell_0 rfl (lv_at hl 0 rfl) ?_
  refine lv_iconst (v := 3) hx hb dX3_cell_1 (by decide) ?_
  refine lv_imul hx hb dX3_cell_2 ?_
  refine lv_iload_n hx hb dX3_cell_3 rfl (lv_at hl 1 rfl) ?_
  refine lv_iadd hx hb dX3_cell_4 ?_
  refine lv_iconst (v := 5) hx hb dX3_cell_5 (by decide) ?_
  refine lv_imul hx hb dX3_cell_6 ?_
  refine lv_iload_n hx hb dX3_cell_7 rfl (lv_at hl 2 rfl) ?_
  refine lv_iadd hx hb dX3_cell_8 ?_
  obtain rfl := ob_one hF
  exact gw_iret () hx hb hr hlocks hP hD hS rfl dX3_cell_9
def f_X9_in_15 (y0 : Int32) : Option Int32 := (if y0 = 0 ∨ y0 = 1 then (some y0) else none)
def f_X9_in_14 : Option Int32 := (f_X9_in_15 0)
def f_X9_in (p1 : Int32) (p2 : Int32) (p3 : Int32) : Option Int32 := (if p1 < p2 then (f_X9_in_14) else (if p3 < p1 then (f_X9_in_14) else (f_X9_in_15 1)))
set_option maxHeartbeats 4000000 in
set_option maxRecDepth 100000 in
theorem c_X9_in (l : Launch) (G : va_G) (cI cJ cZ cB cT : ClassId)   (p1 : Int32) (p2 : Int32) (p3 : Int32) (rr : Int32)  (hF : f_X9_in p1 p2 p3 = some rr) : gMi l yX9_in (gws yX9_in cX9_in 3 (some .boolean)) 1 G (gT cI cJ cZ cB cT) [.int p1, .int p2, .int p3] ([] : va_W) (fun x (_ : Unit) => x = rr) (fun (_ : Unit) => ([] : va_W)) := by
  intro sz
  refine gM_start (y := yX9_in) (av := [.int p1, .int p2, .int p3]) (ws := ([] : va_W)) (Qf := fun A => va_Qi (fun x (_ : Unit) => x = rr) (gB G (fun (_ : Unit) => ([] : va_W)) A) A) (cc := cX9_in) (maxL := 3) (ret := (some .boolean)) (by decide) (Nat.le_of_ble_eq_true rfl) ?_
  intro p e s m args below meth c A ls H hx hb hr hts hown hin hlocks hml hP hK hD hA hS hl hE
  have hl : lv_has ls 3 [(0, .int p1), (1, .int p2), (2, .int p3)] := hl
  have hJ_15 : ∀  (y0 : Int32), f_X9_in_15 y0 = some rr → ∀ (H : Heap) (locs : List Loc) (ls : Array Slot), va_P G vwCl ([] : va_W) H → va_D A ([] : va_W) → va_S A s.heap H locs → lv_has ls 3 [] → W p l e (gRm 1) s m args below meth c H locs 0 0 (MQ below (va_Qi (fun x (_ : Unit) => x = rr) (gB G (fun (_ : Unit) => ([] : va_W)) A) A) args s 0 0 A) (F0 m 15 ls [.int y0]) := by
    intro  y0 hF H locs ls hP hD hS hl
    unfold f_X9_in_15 at hF
    obtain ⟨hz_3, hF⟩ := ob_if hF
    obtain rfl := ob_one hF
    exact gw_zret () hx hb hr hlocks (gz hz_3) hP hD hS rfl dX9_in_15
  have hJ_14 : f_X9_in_14 = some rr → ∀ (H : Heap) (locs : List Loc) (ls : Array Slot), va_P G vwCl ([] : va_W) H → va_D A ([] : va_W) → va_S A s.heap H locs → lv_has ls 3 [] → W p l e (gRm 1) s m args below meth c H locs 0 0 (MQ below (va_Qi (fun x (_ : Unit) => x = rr) (gB G (fun (_ : Unit) => ([] : va_W)) A) A) args s 0 0 A) (F0 m 14 ls []) := by
    intro  hF H locs ls hP hD hS hl
    unfold f_X9_in_14 at hF
    refine lv_iconst (v := 0) hx hb dX9_in_14 (by decide) ?_
    exact hJ_15 0 hF H _ ls hP hD hS (lv_sub hl [] rfl)
  unfold f_X9_in at hF
  refine lv_iload_n hx hb dX9_in_0 rfl (lv_at hl 0 rfl) ?_
  refine lv_iload_n hx hb dX9_in_1 rfl (lv_at hl 1 rfl) ?_
  refine lv_icmp_lt (tgt := 14) hx hb dX9_in_2 (by decide) (fun c_1 => ?_) (fun c_1 => ?_)
  · have hF := ob_pos c_1 hF
    exact hJ_14 hF H _ ls hP hD hS (lv_sub hl [] rfl)
  · have hF := ob_neg c_1 hF
    refine lv_iload_n hx hb dX9_in_5 rfl (lv_at hl 0 rfl) ?_
    refine lv_iload_n hx hb dX9_in_6 rfl (lv_at hl 2 rfl) ?_
    refine lv_icmp_gt (tgt := 14) hx hb dX9_in_7 (by decide) (fun c_2 => ?_) (fun c_2 => ?_)
    · have hF := ob_pos c_2 hF
      exact hJ_14 hF H _ ls hP hD hS (lv_sub hl [] rfl)
    · have hF := ob_neg c_2 hF
      refine lv_iconst (v := 1) hx hb dX9_in_10 (by decide) ?_
      refine lv_goto (tgt := 15) hx hb dX9_in_11 (by decide) ?_
      exact hJ_15 1 hF H _ ls hP hD hS (lv_sub hl [] rfl)
def f_X9_isLetter_27 (y0 : Int32) : Option Int32 := (if y0 = 0 ∨ y0 = 1 then (some y0) else none)
def f_X9_isLetter_22 : Option Int32 := (f_X9_isLetter_27 1)
def f_X9_isLetter (p1 : Int32) : Option Int32 := (ob1 (f_X9_in p1 97 122) (fun r_1 => (if r_1 = 0 then (ob1 (f_X9_in p1 65 90) (fun r_3 => (if r_3 = 0 then (f_X9_isLetter_27 0) else (f_X9_isLetter_22)))) else (f_X9_isLetter_22))))
theorem e_X9_in : yX9_in.cls = RX9 ∧ yX9_in.cls ≠ "java/lang/invoke/MethodHandle" ∧ yX9_in.cls ≠ "java/lang/invoke/VarHandle" ∧ (parseMethodDescriptor yX9_in.desc).map (fun d => d.parameters.length) = some 3 := by decide +kernel
set_option maxHeartbeats 4000000 in
set_option maxRecDepth 100000 in
theorem c_X9_isLetter (l : Launch) (G : va_G) (cI cJ cZ cB cT : ClassId)   (p1 : Int32) (rr : Int32)  (hF : f_X9_isLetter p1 = some rr) : gMi l yX9_isLetter (gws yX9_isLetter cX9_isLetter 1 (some .boolean)) 2 G (gT cI cJ cZ cB cT) [.int p1] ([] : va_W) (fun x (_ : Unit) => x = rr) (fun (_ : Unit) => ([] : va_W)) := by
  intro sz
  refine gM_start (y := yX9_isLetter) (av := [.int p1]) (ws := ([] : va_W)) (Qf := fun A => va_Qi (fun x (_ : Unit) => x = rr) (gB G (fun (_ : Unit) => ([] : va_W)) A) A) (cc := cX9_isLetter) (maxL := 1) (ret := (some .boolean)) (by decide) (Nat.le_of_ble_eq_true rfl) ?_
  intro p e s m args below meth c A ls H hx hb hr hts hown hin hlocks hml hP hK hD hA hS hl hE
  have hl : lv_has ls 1 [(0, .int p1)] := hl
  have hJ_27 : ∀  (y0 : Int32), f_X9_isLetter_27 y0 = some rr → ∀ (H : Heap) (locs : List Loc) (ls : Array Slot), va_P G vwCl ([] : va_W) H → va_D A ([] : va_W) → va_S A s.heap H locs → lv_has ls 1 [] → W p l e (gRm 2) s m args below meth c H locs 0 0 (MQ below (va_Qi (fun x (_ : Unit) => x = rr) (gB G (fun (_ : Unit) => ([] : va_W)) A) A) args s 0 0 A) (F0 m 27 ls [.int y0]) := by
    intro  y0 hF H locs ls hP hD hS hl
    unfold f_X9_isLetter_27 at hF
    obtain ⟨hz_5, hF⟩ := ob_if hF
    obtain rfl := ob_one hF
    exact gw_zret () hx hb hr hlocks (gz hz_5) hP hD hS rfl dX9_isLetter_27
  have hJ_22 : f_X9_isLetter_22 = some rr → ∀ (H : Heap) (locs : List Loc) (ls : Array Slot), va_P G vwCl ([] : va_W) H → va_D A ([] : va_W) → va_S A s.heap H locs → lv_has ls 1 [] → W p l e (gRm 2) s m args below meth c H locs 0 0 (MQ below (va_Qi (fun x (_ : Unit) => x = rr) (gB G (fun (_ : Unit) => ([] : va_W)) A) A) args s 0 0 A) (F0 m 22 ls []) := by
    intro  hF H locs ls hP hD hS hl
    unfold f_X9_isLetter_22 at hF
    refine lv_iconst (v := 1) hx hb dX9_isLetter_22 (by decide) ?_
    refine lv_goto (tgt := 27) hx hb dX9_isLetter_23 (by decide) ?_
    exact hJ_27 1 hF H _ ls hP hD hS (lv_sub hl [] rfl)
  unfold f_X9_isLetter at hF
  refine lv_iload_n hx hb dX9_isLetter_0 rfl (lv_at hl 0 rfl) ?_
  refine lv_bipush (v := 97) hx hb dX9_isLetter_1 (by decide) ?_
  refine lv_bipush (v := 122) hx hb dX9_isLetter_3 (by decide) ?_
  obtain ⟨r_1, e_1, hF⟩ := ob1_some hF
  refine gx_calli0 (gx_runS0 (As := [.int p1, .int 97, .int 122]) (rest := []) ⟨hx, hb, hml, hown, hts⟩ (c_X9_in l G cI cJ cZ cB cT   p1 97 122 r_1 e_1 H.size) (gG_S m_62 m_63 m_64 m_61) rfl e_X9_in ⟨Nat.le_of_ble_eq_true rfl, Nat.le_of_ble_eq_true rfl⟩ hK hE hS hA rfl hl.1 rfl (Nat.le_of_ble_eq_true rfl) dX9_isLetter_5 ⟨Nat.le_refl _, Nat.le_refl _⟩) hP hD hS hA (fun x_1 u_1 H locs hw_1 hP hD hS => ?_)
  subst x_1
  refine lv_if_ne (tgt := 22) hx hb dX9_isLetter_8 (by decide) (fun c_2 => ?_) (fun c_2 => ?_)
  · have hF := ob_neg c_2 hF
    exact hJ_22 hF H _ ls hP hD hS (lv_sub hl [] rfl)
  · have hF := ob_pos c_2 hF
    refine lv_iload_n hx hb dX9_isLetter_11 rfl (lv_at hl 0 rfl) ?_
    refine lv_bipush (v := 65) hx hb dX9_isLetter_12 (by decide) ?_
    refine lv_bipush (v := 90) hx hb dX9_isLetter_14 (by decide) ?_
    obtain ⟨r_3, e_3, hF⟩ := ob1_some hF
    refine gx_calli0 (gx_runS0 (As := [.int p1, .int 65, .int 90]) (rest := []) ⟨hx, hb, hml, hown, hts⟩ (c_X9_in l G cI cJ cZ cB cT   p1 65 90 r_3 e_3 H.size) (gG_S m_62 m_63 m_64 m_61) rfl e_X9_in ⟨Nat.le_of_ble_eq_true rfl, Nat.le_of_ble_eq_true rfl⟩ hK hE hS hA rfl hl.1 rfl (Nat.le_of_ble_eq_true rfl) dX9_isLetter_16 ⟨Nat.le_refl _, Nat.le_refl _⟩) hP hD hS hA (fun x_3 u_3 H locs hw_3 hP hD hS => ?_)
    subst x_3
    refine lv_if_eq (tgt := 26) hx hb dX9_isLetter_19 (by decide) (fun c_4 => ?_) (fun c_4 => ?_)
    · have hF := ob_pos c_4 hF
      refine lv_iconst (v := 0) hx hb dX9_isLetter_26 (by decide) ?_
      exact hJ_27 0 hF H _ ls hP hD hS (lv_sub hl [] rfl)
    · have hF := ob_neg c_4 hF
      exact hJ_22 hF H _ ls hP hD hS (lv_sub hl [] rfl)
def f_X9_wordOf (p1 : Int64) : Option Int32 := (if (lg_cmp p1 2394252282226) = 0 then (some 0) else (if (lg_cmp p1 54316648818) = 0 then (some 1) else (if (lg_cmp p1 170923) = 0 then (some 2) else (if (lg_cmp p1 9369893) = 0 then (some 3) else (if (lg_cmp p1 10132268) = 0 then (some 4) else (if (lg_cmp p1 13523876) = 0 then (some 5) else (if (lg_cmp p1 41369684334) = 0 then (some 6) else (if (lg_cmp p1 12721395) = 0 then (some 7) else (if (lg_cmp p1 14589224) = 0 then (some 8) else (if (lg_cmp p1 3375) = 0 then (some 9) else (if (lg_cmp p1 3058) = 0 then (some 10) else (if (lg_cmp p1 138148) = 0 then (some 11) else (if (lg_cmp p1 191476) = 0 then (some 12) else (if (lg_cmp p1 666828005) = 0 then (some 13) else (if (lg_cmp p1 59687467572) = 0 then (some 14) else (if (lg_cmp p1 169704704597171) = 0 then (some 15) else (if (lg_cmp p1 47879244146) = 0 then (some 16) else (if (lg_cmp p1 12721332) = 0 then (some 17) else (if (lg_cmp p1 149625) = 0 then (some 18) else (if (lg_cmp p1 48885315956) = 0 then (some 19) else (if (lg_cmp p1 667572580) = 0 then (some 20) else (if (lg_cmp p1 9935219) = 0 then (some 21) else (some (-1))))))))))))))))))))))))
set_option maxHeartbeats 4000000 in
set_option maxRecDepth 100000 in
theorem c_X9_wordOf (l : Launch) (G : va_G) (cI cJ cZ cB cT : ClassId)   (p1 : Int64) (rr : Int32)  (hF : f_X9_wordOf p1 = some rr) : gMi l yX9_wordOf (gws yX9_wordOf cX9_wordOf 2 (some .int)) 1 G (gT cI cJ cZ cB cT) [.long p1] ([] : va_W) (fun x (_ : Unit) => x = rr) (fun (_ : Unit) => ([] : va_W)) := by
  intro sz
  refine gM_start (y := yX9_wordOf) (av := [.long p1]) (ws := ([] : va_W)) (Qf := fun A => va_Qi (fun x (_ : Unit) => x = rr) (gB G (fun (_ : Unit) => ([] : va_W)) A) A) (cc := cX9_wordOf) (maxL := 2) (ret := (some .int)) (by decide) (Nat.le_of_ble_eq_true rfl) ?_
  intro p e s m args below meth c A ls H hx hb hr hts hown hin hlocks hml hP hK hD hA hS hl hE
  have hl : lv_has ls 2 [(0, .long p1)] := hl
  unfold f_X9_wordOf at hF
  refine lv_lload_n hx hb dX9_wordOf_0 rfl (lv_at hl 0 rfl) ?_
  refine lv_ldc2 (v := 2394252282226) hx hb hown (hts _ m_65) dX9_wordOf_1 ?_
  refine W.lcmp hx hb dX9_wordOf_4 ?_
  refine lv_if_ne (tgt := 10) hx hb dX9_wordOf_5 (by decide) (fun c_1 => ?_) (fun c_1 => ?_)
  · have hF := ob_neg c_1 hF
    refine lv_lload_n hx hb dX9_wordOf_10 rfl (lv_at hl 0 rfl) ?_
    refine lv_ldc2 (v := 54316648818) hx hb hown (hts _ m_66) dX9_wordOf_11 ?_
    refine W.lcmp hx hb dX9_wordOf_14 ?_
    refine lv_if_ne (tgt := 20) hx hb dX9_wordOf_15 (by decide) (fun c_2 => ?_) (fun c_2 => ?_)
    · have hF := ob_neg c_2 hF
      refine lv_lload_n hx hb dX9_wordOf_20 rfl (lv_at hl 0 rfl) ?_
      refine lv_ldc2 (v := 170923) hx hb hown (hts _ m_67) dX9_wordOf_21 ?_
      refine W.lcmp hx hb dX9_wordOf_24 ?_
      refine lv_if_ne (tgt := 30) hx hb dX9_wordOf_25 (by decide) (fun c_3 => ?_) (fun c_3 => ?_)
      · have hF := ob_neg c_3 hF
        refine lv_lload_n hx hb dX9_wordOf_30 rfl (lv_at hl 0 rfl) ?_
        refine lv_ldc2 (v := 9369893) hx hb hown (hts _ m_68) dX9_wordOf_31 ?_
        refine W.lcmp hx hb dX9_wordOf_34 ?_
        refine lv_if_ne (tgt := 40) hx hb dX9_wordOf_35 (by decide) (fun c_4 => ?_) (fun c_4 => ?_)
        · have hF := ob_neg c_4 hF
          refine lv_lload_n hx hb dX9_wordOf_40 rfl (lv_at hl 0 rfl) ?_
          refine lv_ldc2 (v := 10132268) hx hb hown (hts _ m_69) dX9_wordOf_41 ?_
          refine W.lcmp hx hb dX9_wordOf_44 ?_
          refine lv_if_ne (tgt := 50) hx hb dX9_wordOf_45 (by decide) (fun c_5 => ?_) (fun c_5 => ?_)
          · have hF := ob_neg c_5 hF
            refine lv_lload_n hx hb dX9_wordOf_50 rfl (lv_at hl 0 rfl) ?_
            refine lv_ldc2 (v := 13523876) hx hb hown (hts _ m_70) dX9_wordOf_51 ?_
            refine W.lcmp hx hb dX9_wordOf_54 ?_
            refine lv_if_ne (tgt := 60) hx hb dX9_wordOf_55 (by decide) (fun c_6 => ?_) (fun c_6 => ?_)
            · have hF := ob_neg c_6 hF
              refine lv_lload_n hx hb dX9_wordOf_60 rfl (lv_at hl 0 rfl) ?_
              refine lv_ldc2 (v := 41369684334) hx hb hown (hts _ m_71) dX9_wordOf_61 ?_
              refine W.lcmp hx hb dX9_wordOf_64 ?_
              refine lv_if_ne (tgt := 71) hx hb dX9_wordOf_65 (by decide) (fun c_7 => ?_) (fun c_7 => ?_)
              · have hF := ob_neg c_7 hF
                refine lv_lload_n hx hb dX9_wordOf_71 rfl (lv_at hl 0 rfl) ?_
                refine lv_ldc2 (v := 12721395) hx hb hown (hts _ m_72) dX9_wordOf_72 ?_
                refine W.lcmp hx hb dX9_wordOf_75 ?_
                refine lv_if_ne (tgt := 82) hx hb dX9_wordOf_76 (by decide) (fun c_8 => ?_) (fun c_8 => ?_)
                · have hF := ob_neg c_8 hF
                  refine lv_lload_n hx hb dX9_wordOf_82 rfl (lv_at hl 0 rfl) ?_
                  refine lv_ldc2 (v := 14589224) hx hb hown (hts _ m_73) dX9_wordOf_83 ?_
                  refine W.lcmp hx hb dX9_wordOf_86 ?_
                  refine lv_if_ne (tgt := 93) hx hb dX9_wordOf_87 (by decide) (fun c_9 => ?_) (fun c_9 => ?_)
                  · have hF := ob_neg c_9 hF
                    refine lv_lload_n hx hb dX9_wordOf_93 rfl (lv_at hl 0 rfl) ?_
                    refine lv_ldc2 (v := 3375) hx hb hown (hts _ m_74) dX9_wordOf_94 ?_
                    refine W.lcmp hx hb dX9_wordOf_97 ?_
                    refine lv_if_ne (tgt := 104) hx hb dX9_wordOf_98 (by decide) (fun c_10 => ?_) (fun c_10 => ?_)
                    · have hF := ob_neg c_10 hF
                      refine lv_lload_n hx hb dX9_wordOf_104 rfl (lv_at hl 0 rfl) ?_
                      refine lv_ldc2 (v := 3058) hx hb hown (hts _ m_75) dX9_wordOf_105 ?_
                      refine W.lcmp hx hb dX9_wordOf_108 ?_
                      refine lv_if_ne (tgt := 115) hx hb dX9_wordOf_109 (by decide) (fun c_11 => ?_) (fun c_11 => ?_)
                      · have hF := ob_neg c_11 hF
                        refine lv_lload_n hx hb dX9_wordOf_115 rfl (lv_at hl 0 rfl) ?_
                        refine lv_ldc2 (v := 138148) hx hb hown (hts _ m_76) dX9_wordOf_116 ?_
                        refine W.lcmp hx hb dX9_wordOf_119 ?_
                        refine lv_if_ne (tgt := 126) hx hb dX9_wordOf_120 (by decide) (fun c_12 => ?_) (fun c_12 => ?_)
                        · have hF := ob_neg c_12 hF
                          refine lv_lload_n hx hb dX9_wordOf_126 rfl (lv_at hl 0 rfl) ?_
                          refine lv_ldc2 (v := 191476) hx hb hown (hts _ m_77) dX9_wordOf_127 ?_
                          refine W.lcmp hx hb dX9_wordOf_130 ?_
                          refine lv_if_ne (tgt := 137) hx hb dX9_wordOf_131 (by decide) (fun c_13 => ?_) (fun c_13 => ?_)
                          · have hF := ob_neg c_13 hF
                            refine lv_lload_n hx hb dX9_wordOf_137 rfl (lv_at hl 0 rfl) ?_
                            refine lv_ldc2 (v := 666828005) hx hb hown (hts _ m_78) dX9_wordOf_138 ?_
                            refine W.lcmp hx hb dX9_wordOf_141 ?_
                            refine lv_if_ne (tgt := 148) hx hb dX9_wordOf_142 (by decide) (fun c_14 => ?_) (fun c_14 => ?_)
                            · have hF := ob_neg c_14 hF
                              refine lv_lload_n hx hb dX9_wordOf_148 rfl (lv_at hl 0 rfl) ?_
                              refine lv_ldc2 (v := 59687467572) hx hb hown (hts _ m_79) dX9_wordOf_149 ?_
                              refine W.lcmp hx hb dX9_wordOf_152 ?_
                              refine lv_if_ne (tgt := 159) hx hb dX9_wordOf_153 (by decide) (fun c_15 => ?_) (fun c_15 => ?_)
                              · have hF := ob_neg c_15 hF
                                refine lv_lload_n hx hb dX9_wordOf_159 rfl (lv_at hl 0 rfl) ?_
                                refine lv_ldc2 (v := 169704704597171) hx hb hown (hts _ m_80) dX9_wordOf_160 ?_
                                refine W.lcmp hx hb dX9_wordOf_163 ?_
                                refine lv_if_ne (tgt := 170) hx hb dX9_wordOf_164 (by decide) (fun c_16 => ?_) (fun c_16 => ?_)
                                · have hF := ob_neg c_16 hF
                                  refine lv_lload_n hx hb dX9_wordOf_170 rfl (lv_at hl 0 rfl) ?_
                                  refine lv_ldc2 (v := 47879244146) hx hb hown (hts _ m_81) dX9_wordOf_171 ?_
                                  refine W.lcmp hx hb dX9_wordOf_174 ?_
                                  refine lv_if_ne (tgt := 181) hx hb dX9_wordOf_175 (by decide) (fun c_17 => ?_) (fun c_17 => ?_)
                                  · have hF := ob_neg c_17 hF
                                    refine lv_lload_n hx hb dX9_wordOf_181 rfl (lv_at hl 0 rfl) ?_
                                    refine lv_ldc2 (v := 12721332) hx hb hown (hts _ m_82) dX9_wordOf_182 ?_
                                    refine W.lcmp hx hb dX9_wordOf_185 ?_
                                    refine lv_if_ne (tgt := 192) hx hb dX9_wordOf_186 (by decide) (fun c_18 => ?_) (fun c_18 => ?_)
                                    · have hF := ob_neg c_18 hF
                                      refine lv_lload_n hx hb dX9_wordOf_192 rfl (lv_at hl 0 rfl) ?_
                                      refine lv_ldc2 (v := 149625) hx hb hown (hts _ m_83) dX9_wordOf_193 ?_
                                      refine W.lcmp hx hb dX9_wordOf_196 ?_
                                      refine lv_if_ne (tgt := 203) hx hb dX9_wordOf_197 (by decide) (fun c_19 => ?_) (fun c_19 => ?_)
                                      · have hF := ob_neg c_19 hF
                                        refine lv_lload_n hx hb dX9_wordOf_203 rfl (lv_at hl 0 rfl) ?_
                                        refine lv_ldc2 (v := 48885315956) hx hb hown (hts _ m_84) dX9_wordOf_204 ?_
                                        refine W.lcmp hx hb dX9_wordOf_207 ?_
                                        refine lv_if_ne (tgt := 214) hx hb dX9_wordOf_208 (by decide) (fun c_20 => ?_) (fun c_20 => ?_)
                                        · have hF := ob_neg c_20 hF
                                          refine lv_lload_n hx hb dX9_wordOf_214 rfl (lv_at hl 0 rfl) ?_
                                          refine lv_ldc2 (v := 667572580) hx hb hown (hts _ m_85) dX9_wordOf_215 ?_
                                          refine W.lcmp hx hb dX9_wordOf_218 ?_
                                          refine lv_if_ne (tgt := 225) hx hb dX9_wordOf_219 (by decide) (fun c_21 => ?_) (fun c_21 => ?_)
                                          · have hF := ob_neg c_21 hF
                                            refine lv_lload_n hx hb dX9_wordOf_225 rfl (lv_at hl 0 rfl) ?_
                                            refine lv_ldc2 (v := 9935219) hx hb hown (hts _ m_86) dX9_wordOf_226 ?_
                                            refine W.lcmp hx hb dX9_wordOf_229 ?_
                                            refine lv_if_ne (tgt := 236) hx hb dX9_wordOf_230 (by decide) (fun c_22 => ?_) (fun c_22 => ?_)
                                            · have hF := ob_neg c_22 hF
                                              refine lv_iconst (v := (-1)) hx hb dX9_wordOf_236 (by decide) ?_
                                              obtain rfl := ob_one hF
                                              exact gw_iret () hx hb hr hlocks hP hD hS rfl dX9_wordOf_237
                                            · have hF := ob_pos c_22 hF
                                              refine lv_bipush (v := 21) hx hb dX9_wordOf_233 (by decide) ?_
                                              obtain rfl := ob_one hF
                                              exact gw_iret () hx hb hr hlocks hP hD hS rfl dX9_wordOf_235
                                          · have hF := ob_pos c_21 hF
                                            refine lv_bipush (v := 20) hx hb dX9_wordOf_222 (by decide) ?_
                                            obtain rfl := ob_one hF
                                            exact gw_iret () hx hb hr hlocks hP hD hS rfl dX9_wordOf_224
                                        · have hF := ob_pos c_20 hF
                                          refine lv_bipush (v := 19) hx hb dX9_wordOf_211 (by decide) ?_
                                          obtain rfl := ob_one hF
                                          exact gw_iret () hx hb hr hlocks hP hD hS rfl dX9_wordOf_213
                                      · have hF := ob_pos c_19 hF
                                        refine lv_bipush (v := 18) hx hb dX9_wordOf_200 (by decide) ?_
                                        obtain rfl := ob_one hF
                                        exact gw_iret () hx hb hr hlocks hP hD hS rfl dX9_wordOf_202
                                    · have hF := ob_pos c_18 hF
                                      refine lv_bipush (v := 17) hx hb dX9_wordOf_189 (by decide) ?_
                                      obtain rfl := ob_one hF
                                      exact gw_iret () hx hb hr hlocks hP hD hS rfl dX9_wordOf_191
                                  · have hF := ob_pos c_17 hF
                                    refine lv_bipush (v := 16) hx hb dX9_wordOf_178 (by decide) ?_
                                    obtain rfl := ob_one hF
                                    exact gw_iret () hx hb hr hlocks hP hD hS rfl dX9_wordOf_180
                                · have hF := ob_pos c_16 hF
                                  refine lv_bipush (v := 15) hx hb dX9_wordOf_167 (by decide) ?_
                                  obtain rfl := ob_one hF
                                  exact gw_iret () hx hb hr hlocks hP hD hS rfl dX9_wordOf_169
                              · have hF := ob_pos c_15 hF
                                refine lv_bipush (v := 14) hx hb dX9_wordOf_156 (by decide) ?_
                                obtain rfl := ob_one hF
                                exact gw_iret () hx hb hr hlocks hP hD hS rfl dX9_wordOf_158
                            · have hF := ob_pos c_14 hF
                              refine lv_bipush (v := 13) hx hb dX9_wordOf_145 (by decide) ?_
                              obtain rfl := ob_one hF
                              exact gw_iret () hx hb hr hlocks hP hD hS rfl dX9_wordOf_147
                          · have hF := ob_pos c_13 hF
                            refine lv_bipush (v := 12) hx hb dX9_wordOf_134 (by decide) ?_
                            obtain rfl := ob_one hF
                            exact gw_iret () hx hb hr hlocks hP hD hS rfl dX9_wordOf_136
                        · have hF := ob_pos c_12 hF
                          refine lv_bipush (v := 11) hx hb dX9_wordOf_123 (by decide) ?_
                          obtain rfl := ob_one hF
                          exact gw_iret () hx hb hr hlocks hP hD hS rfl dX9_wordOf_125
                      · have hF := ob_pos c_11 hF
                        refine lv_bipush (v := 10) hx hb dX9_wordOf_112 (by decide) ?_
                        obtain rfl := ob_one hF
                        exact gw_iret () hx hb hr hlocks hP hD hS rfl dX9_wordOf_114
                    · have hF := ob_pos c_10 hF
                      refine lv_bipush (v := 9) hx hb dX9_wordOf_101 (by decide) ?_
                      obtain rfl := ob_one hF
                      exact gw_iret () hx hb hr hlocks hP hD hS rfl dX9_wordOf_103
                  · have hF := ob_pos c_9 hF
                    refine lv_bipush (v := 8) hx hb dX9_wordOf_90 (by decide) ?_
                    obtain rfl := ob_one hF
                    exact gw_iret () hx hb hr hlocks hP hD hS rfl dX9_wordOf_92
                · have hF := ob_pos c_8 hF
                  refine lv_bipush (v := 7) hx hb dX9_wordOf_79 (by decide) ?_
                  obtain rfl := ob_one hF
                  exact gw_iret () hx hb hr hlocks hP hD hS rfl dX9_wordOf_81
              · have hF := ob_pos c_7 hF
                refine lv_bipush (v := 6) hx hb dX9_wordOf_68 (by decide) ?_
                obtain rfl := ob_one hF
                exact gw_iret () hx hb hr hlocks hP hD hS rfl dX9_wordOf_70
            · have hF := ob_pos c_6 hF
              refine lv_iconst (v := 5) hx hb dX9_wordOf_58 (by decide) ?_
              obtain rfl := ob_one hF
              exact gw_iret () hx hb hr hlocks hP hD hS rfl dX9_wordOf_59
          · have hF := ob_pos c_5 hF
            refine lv_iconst (v := 4) hx hb dX9_wordOf_48 (by decide) ?_
            obtain rfl := ob_one hF
            exact gw_iret () hx hb hr hlocks hP hD hS rfl dX9_wordOf_49
        · have hF := ob_pos c_4 hF
          refine lv_iconst (v := 3) hx hb dX9_wordOf_38 (by decide) ?_
          obtain rfl := ob_one hF
          exact gw_iret () hx hb hr hlocks hP hD hS rfl dX9_wordOf_39
      · have hF := ob_pos c_3 hF
        refine lv_iconst (v := 2) hx hb dX9_wordOf_28 (by decide) ?_
        obtain rfl := ob_one hF
        exact gw_iret () hx hb hr hlocks hP hD hS rfl dX9_wordOf_29
    · have hF := ob_pos c_2 hF
      refine lv_iconst (v := 1) hx hb dX9_wordOf_18 (by decide) ?_
      obtain rfl := ob_one hF
      exact gw_iret () hx hb hr hlocks hP hD hS rfl dX9_wordOf_19
  · have hF := ob_pos c_1 hF
    refine lv_iconst (v := 0) hx hb dX9_wordOf_8 (by decide) ?_
    obtain rfl := ob_one hF
    exact gw_iret () hx hb hr hlocks hP hD hS rfl dX9_wordOf_9
def f_X9_rank_39 (y0 : Int32) : Option Int32 := (some y0)
def f_X9_rank_34 : Option Int32 := (f_X9_rank_39 3)
def f_X9_rank (p1 : Int32) : Option Int32 := (if p1 = 407 then (f_X9_rank_39 1) else (if p1 = 406 then (f_X9_rank_39 2) else (if p1 = 43 then (f_X9_rank_34) else (if p1 = 45 then (f_X9_rank_34) else (f_X9_rank_39 4)))))
set_option maxHeartbeats 4000000 in
set_option maxRecDepth 100000 in
theorem c_X9_rank (l : Launch) (G : va_G) (cI cJ cZ cB cT : ClassId)   (p1 : Int32) (rr : Int32)  (hF : f_X9_rank p1 = some rr) : gMi l yX9_rank (gws yX9_rank cX9_rank 1 (some .int)) 1 G (gT cI cJ cZ cB cT) [.int p1] ([] : va_W) (fun x (_ : Unit) => x = rr) (fun (_ : Unit) => ([] : va_W)) := by
  intro sz
  refine gM_start (y := yX9_rank) (av := [.int p1]) (ws := ([] : va_W)) (Qf := fun A => va_Qi (fun x (_ : Unit) => x = rr) (gB G (fun (_ : Unit) => ([] : va_W)) A) A) (cc := cX9_rank) (maxL := 1) (ret := (some .int)) (by decide) (Nat.le_of_ble_eq_true rfl) ?_
  intro p e s m args below meth c A ls H hx hb hr hts hown hin hlocks hml hP hK hD hA hS hl hE
  have hl : lv_has ls 1 [(0, .int p1)] := hl
  have hJ_39 : ∀  (y0 : Int32), f_X9_rank_39 y0 = some rr → ∀ (H : Heap) (locs : List Loc) (ls : Array Slot), va_P G vwCl ([] : va_W) H → va_D A ([] : va_W) → va_S A s.heap H locs → lv_has ls 1 [] → W p l e (gRm 1) s m args below meth c H locs 0 0 (MQ below (va_Qi (fun x (_ : Unit) => x = rr) (gB G (fun (_ : Unit) => ([] : va_W)) A) A) args s 0 0 A) (F0 m 39 ls [.int y0]) := by
    intro  y0 hF H locs ls hP hD hS hl
    unfold f_X9_rank_39 at hF
    obtain rfl := ob_one hF
    exact gw_iret () hx hb hr hlocks hP hD hS rfl dX9_rank_39
  have hJ_34 : f_X9_rank_34 = some rr → ∀ (H : Heap) (locs : List Loc) (ls : Array Slot), va_P G vwCl ([] : va_W) H → va_D A ([] : va_W) → va_S A s.heap H locs → lv_has ls 1 [] → W p l e (gRm 1) s m args below meth c H locs 0 0 (MQ below (va_Qi (fun x (_ : Unit) => x = rr) (gB G (fun (_ : Unit) => ([] : va_W)) A) A) args s 0 0 A) (F0 m 34 ls []) := by
    intro  hF H locs ls hP hD hS hl
    unfold f_X9_rank_34 at hF
    refine lv_iconst (v := 3) hx hb dX9_rank_34 (by decide) ?_
    refine lv_goto (tgt := 39) hx hb dX9_rank_35 (by decide) ?_
    exact hJ_39 3 hF H _ ls hP hD hS (lv_sub hl [] rfl)
  unfold f_X9_rank at hF
  refine lv_iload_n hx hb dX9_rank_0 rfl (lv_at hl 0 rfl) ?_
  refine lv_sipush (v := 407) hx hb dX9_rank_1 (by decide) ?_
  refine lv_icmp_ne (tgt := 11) hx hb dX9_rank_4 (by decide) (fun c_1 => ?_) (fun c_1 => ?_)
  · have hF := ob_neg c_1 hF
    refine lv_iload_n hx hb dX9_rank_11 rfl (lv_at hl 0 rfl) ?_
    refine lv_sipush (v := 406) hx hb dX9_rank_12 (by decide) ?_
    refine lv_icmp_ne (tgt := 22) hx hb dX9_rank_15 (by decide) (fun c_2 => ?_) (fun c_2 => ?_)
    · have hF := ob_neg c_2 hF
      refine lv_iload_n hx hb dX9_rank_22 rfl (lv_at hl 0 rfl) ?_
      refine lv_bipush (v := 43) hx hb dX9_rank_23 (by decide) ?_
      refine lv_icmp_eq (tgt := 34) hx hb dX9_rank_25 (by decide) (fun c_3 => ?_) (fun c_3 => ?_)
      · have hF := ob_pos c_3 hF
        exact hJ_34 hF H _ ls hP hD hS (lv_sub hl [] rfl)
      · have hF := ob_neg c_3 hF
        refine lv_iload_n hx hb dX9_rank_28 rfl (lv_at hl 0 rfl) ?_
        refine lv_bipush (v := 45) hx hb dX9_rank_29 (by decide) ?_
        refine lv_icmp_ne (tgt := 38) hx hb dX9_rank_31 (by decide) (fun c_4 => ?_) (fun c_4 => ?_)
        · have hF := ob_neg c_4 hF
          refine lv_iconst (v := 4) hx hb dX9_rank_38 (by decide) ?_
          exact hJ_39 4 hF H _ ls hP hD hS (lv_sub hl [] rfl)
        · have hF := ob_pos c_4 hF
          exact hJ_34 hF H _ ls hP hD hS (lv_sub hl [] rfl)
    · have hF := ob_pos c_2 hF
      refine lv_iconst (v := 2) hx hb dX9_rank_18 (by decide) ?_
      refine lv_goto (tgt := 39) hx hb dX9_rank_19 (by decide) ?_
      exact hJ_39 2 hF H _ ls hP hD hS (lv_sub hl [] rfl)
  · have hF := ob_pos c_1 hF
    refine lv_iconst (v := 1) hx hb dX9_rank_7 (by decide) ?_
    refine lv_goto (tgt := 39) hx hb dX9_rank_8 (by decide) ?_
    exact hJ_39 1 hF H _ ls hP hD hS (lv_sub hl [] rfl)
def f_X9_isAsking_43 (y0 : Int32) : Option Int32 := (if y0 = 0 ∨ y0 = 1 then (some y0) else none)
def f_X9_isAsking_38 : Option Int32 := (f_X9_isAsking_43 1)
def f_X9_isAsking (p1 : Int32) : Option Int32 := (if p1 = 60 then (f_X9_isAsking_38) else (if p1 = 62 then (f_X9_isAsking_38) else (if p1 = 61 then (f_X9_isAsking_38) else (if p1 = 35 then (f_X9_isAsking_38) else (if p1 = 300 then (f_X9_isAsking_38) else (if p1 = 301 then (f_X9_isAsking_38) else (f_X9_isAsking_43 0)))))))
set_option maxHeartbeats 4000000 in
set_option maxRecDepth 100000 in
theorem c_X9_isAsking (l : Launch) (G : va_G) (cI cJ cZ cB cT : ClassId)   (p1 : Int32) (rr : Int32)  (hF : f_X9_isAsking p1 = some rr) : gMi l yX9_isAsking (gws yX9_isAsking cX9_isAsking 1 (some .boolean)) 1 G (gT cI cJ cZ cB cT) [.int p1] ([] : va_W) (fun x (_ : Unit) => x = rr) (fun (_ : Unit) => ([] : va_W)) := by
  intro sz
  refine gM_start (y := yX9_isAsking) (av := [.int p1]) (ws := ([] : va_W)) (Qf := fun A => va_Qi (fun x (_ : Unit) => x = rr) (gB G (fun (_ : Unit) => ([] : va_W)) A) A) (cc := cX9_isAsking) (maxL := 1) (ret := (some .boolean)) (by decide) (Nat.le_of_ble_eq_true rfl) ?_
  intro p e s m args below meth c A ls H hx hb hr hts hown hin hlocks hml hP hK hD hA hS hl hE
  have hl : lv_has ls 1 [(0, .int p1)] := hl
  have hJ_43 : ∀  (y0 : Int32), f_X9_isAsking_43 y0 = some rr → ∀ (H : Heap) (locs : List Loc) (ls : Array Slot), va_P G vwCl ([] : va_W) H → va_D A ([] : va_W) → va_S A s.heap H locs → lv_has ls 1 [] → W p l e (gRm 1) s m args below meth c H locs 0 0 (MQ below (va_Qi (fun x (_ : Unit) => x = rr) (gB G (fun (_ : Unit) => ([] : va_W)) A) A) args s 0 0 A) (F0 m 43 ls [.int y0]) := by
    intro  y0 hF H locs ls hP hD hS hl
    unfold f_X9_isAsking_43 at hF
    obtain ⟨hz_7, hF⟩ := ob_if hF
    obtain rfl := ob_one hF
    exact gw_zret () hx hb hr hlocks (gz hz_7) hP hD hS rfl dX9_isAsking_43
  have hJ_38 : f_X9_isAsking_38 = some rr → ∀ (H : Heap) (locs : List Loc) (ls : Array Slot), va_P G vwCl ([] : va_W) H → va_D A ([] : va_W) → va_S A s.heap H locs → lv_has ls 1 [] → W p l e (gRm 1) s m args below meth c H locs 0 0 (MQ below (va_Qi (fun x (_ : Unit) => x = rr) (gB G (fun (_ : Unit) => ([] : va_W)) A) A) args s 0 0 A) (F0 m 38 ls []) := by
    intro  hF H locs ls hP hD hS hl
    unfold f_X9_isAsking_38 at hF
    refine lv_iconst (v := 1) hx hb dX9_isAsking_38 (by decide) ?_
    refine lv_goto (tgt := 43) hx hb dX9_isAsking_39 (by decide) ?_
    exact hJ_43 1 hF H _ ls hP hD hS (lv_sub hl [] rfl)
  unfold f_X9_isAsking at hF
  refine lv_iload_n hx hb dX9_isAsking_0 rfl (lv_at hl 0 rfl) ?_
  refine lv_bipush (v := 60) hx hb dX9_isAsking_1 (by decide) ?_
  refine lv_icmp_eq (tgt := 38) hx hb dX9_isAsking_3 (by decide) (fun c_1 => ?_) (fun c_1 => ?_)
  · have hF := ob_pos c_1 hF
    exact hJ_38 hF H _ ls hP hD hS (lv_sub hl [] rfl)
  · have hF := ob_neg c_1 hF
    refine lv_iload_n hx hb dX9_isAsking_6 rfl (lv_at hl 0 rfl) ?_
    refine lv_bipush (v := 62) hx hb dX9_isAsking_7 (by decide) ?_
    refine lv_icmp_eq (tgt := 38) hx hb dX9_isAsking_9 (by decide) (fun c_2 => ?_) (fun c_2 => ?_)
    · have hF := ob_pos c_2 hF
      exact hJ_38 hF H _ ls hP hD hS (lv_sub hl [] rfl)
    · have hF := ob_neg c_2 hF
      refine lv_iload_n hx hb dX9_isAsking_12 rfl (lv_at hl 0 rfl) ?_
      refine lv_bipush (v := 61) hx hb dX9_isAsking_13 (by decide) ?_
      refine lv_icmp_eq (tgt := 38) hx hb dX9_isAsking_15 (by decide) (fun c_3 => ?_) (fun c_3 => ?_)
      · have hF := ob_pos c_3 hF
        exact hJ_38 hF H _ ls hP hD hS (lv_sub hl [] rfl)
      · have hF := ob_neg c_3 hF
        refine lv_iload_n hx hb dX9_isAsking_18 rfl (lv_at hl 0 rfl) ?_
        refine lv_bipush (v := 35) hx hb dX9_isAsking_19 (by decide) ?_
        refine lv_icmp_eq (tgt := 38) hx hb dX9_isAsking_21 (by decide) (fun c_4 => ?_) (fun c_4 => ?_)
        · have hF := ob_pos c_4 hF
          exact hJ_38 hF H _ ls hP hD hS (lv_sub hl [] rfl)
        · have hF := ob_neg c_4 hF
          refine lv_iload_n hx hb dX9_isAsking_24 rfl (lv_at hl 0 rfl) ?_
          refine lv_sipush (v := 300) hx hb dX9_isAsking_25 (by decide) ?_
          refine lv_icmp_eq (tgt := 38) hx hb dX9_isAsking_28 (by decide) (fun c_5 => ?_) (fun c_5 => ?_)
          · have hF := ob_pos c_5 hF
            exact hJ_38 hF H _ ls hP hD hS (lv_sub hl [] rfl)
          · have hF := ob_neg c_5 hF
            refine lv_iload_n hx hb dX9_isAsking_31 rfl (lv_at hl 0 rfl) ?_
            refine lv_sipush (v := 301) hx hb dX9_isAsking_32 (by decide) ?_
            refine lv_icmp_ne (tgt := 42) hx hb dX9_isAsking_35 (by decide) (fun c_6 => ?_) (fun c_6 => ?_)
            · have hF := ob_neg c_6 hF
              refine lv_iconst (v := 0) hx hb dX9_isAsking_42 (by decide) ?_
              exact hJ_43 0 hF H _ ls hP hD hS (lv_sub hl [] rfl)
            · have hF := ob_pos c_6 hF
              exact hJ_38 hF H _ ls hP hD hS (lv_sub hl [] rfl)
def f_X9_bound_29 (y0 : Int64) : Option Int64 := (some y0)
def f_X9_bound (p1 : Int64) : Option Int64 := (if (lg_cmp p1 1000000) ≤ 0 then (if 0 ≤ (lg_cmp p1 (-1000000)) then (f_X9_bound_29 p1) else (f_X9_bound_29 (-1000000))) else (f_X9_bound_29 1000000))
set_option maxHeartbeats 4000000 in
set_option maxRecDepth 100000 in
theorem c_X9_bound (l : Launch) (G : va_G) (cI cJ cZ cB cT : ClassId)   (p1 : Int64) (rr : Int64)  (hF : f_X9_bound p1 = some rr) : gMl l yX9_bound (gws yX9_bound cX9_bound 2 (some .long)) 1 G (gT cI cJ cZ cB cT) [.long p1] ([] : va_W) (fun x (_ : Unit) => x = rr) (fun (_ : Unit) => ([] : va_W)) := by
  intro sz
  refine gM_start (y := yX9_bound) (av := [.long p1]) (ws := ([] : va_W)) (Qf := fun A => va_Ql (fun x (_ : Unit) => x = rr) (gB G (fun (_ : Unit) => ([] : va_W)) A) A) (cc := cX9_bound) (maxL := 2) (ret := (some .long)) (by decide) (Nat.le_of_ble_eq_true rfl) ?_
  intro p e s m args below meth c A ls H hx hb hr hts hown hin hlocks hml hP hK hD hA hS hl hE
  have hl : lv_has ls 2 [(0, .long p1)] := hl
  have hJ_29 : ∀  (y0 : Int64), f_X9_bound_29 y0 = some rr → ∀ (H : Heap) (locs : List Loc) (ls : Array Slot), va_P G vwCl ([] : va_W) H → va_D A ([] : va_W) → va_S A s.heap H locs → lv_has ls 2 [] → W p l e (gRm 1) s m args below meth c H locs 0 0 (MQ below (va_Ql (fun x (_ : Unit) => x = rr) (gB G (fun (_ : Unit) => ([] : va_W)) A) A) args s 0 0 A) (F0 m 29 ls [.long y0]) := by
    intro  y0 hF H locs ls hP hD hS hl
    unfold f_X9_bound_29 at hF
    obtain rfl := ob_one hF
    exact gw_lret () hx hb hr hlocks hP hD hS rfl dX9_bound_29
  unfold f_X9_bound at hF
  refine lv_lload_n hx hb dX9_bound_0 rfl (lv_at hl 0 rfl) ?_
  refine lv_ldc2 (v := 1000000) hx hb hown (hts _ m_87) dX9_bound_1 ?_
  refine W.lcmp hx hb dX9_bound_4 ?_
  refine lv_if_le (tgt := 14) hx hb dX9_bound_5 (by decide) (fun c_1 => ?_) (fun c_1 => ?_)
  · have hF := ob_pos c_1 hF
    refine lv_lload_n hx hb dX9_bound_14 rfl (lv_at hl 0 rfl) ?_
    refine lv_ldc2 (v := (-1000000)) hx hb hown (hts _ m_88) dX9_bound_15 ?_
    refine W.lcmp hx hb dX9_bound_18 ?_
    refine lv_if_ge (tgt := 28) hx hb dX9_bound_19 (by decide) (fun c_2 => ?_) (fun c_2 => ?_)
    · have hF := ob_pos c_2 hF
      refine lv_lload_n hx hb dX9_bound_28 rfl (lv_at hl 0 rfl) ?_
      exact hJ_29 p1 hF H _ ls hP hD hS (lv_sub hl [] rfl)
    · have hF := ob_neg c_2 hF
      refine lv_ldc2 (v := (-1000000)) hx hb hown (hts _ m_88) dX9_bound_22 ?_
      refine lv_goto (tgt := 29) hx hb dX9_bound_25 (by decide) ?_
      exact hJ_29 (-1000000) hF H _ ls hP hD hS (lv_sub hl [] rfl)
  · have hF := ob_neg c_1 hF
    refine lv_ldc2 (v := 1000000) hx hb hown (hts _ m_87) dX9_bound_8 ?_
    refine lv_goto (tgt := 29) hx hb dX9_bound_11 (by decide) ?_
    exact hJ_29 1000000 hF H _ ls hP hD hS (lv_sub hl [] rfl)
def f_X9_worked_182 (y0 : Int64) : Option Int64 := (some y0)
def f_X9_worked_134 (y0 : Int64) : Option Int64 := (some y0)
def f_X9_worked_146 (y0 : Int64) : Option Int64 := (some y0)
def f_X9_worked_170 (y0 : Int64) : Option Int64 := (some y0)
def f_X9_worked_158 (y0 : Int64) : Option Int64 := (some y0)
def f_X9_worked_194 (y0 : Int64) : Option Int64 := (some y0)
def f_X9_worked_206 (y0 : Int64) : Option Int64 := (some y0)
def f_X9_worked_224 (y0 : Int64) : Option Int64 := (some y0)
def f_X9_worked (p1 : Int32) (p2 : Int64) (p3 : Int64) : Option Int64 := (if p1 = 35 then (if (lg_cmp p2 p3) = 0 then (f_X9_worked_182 0) else (f_X9_worked_182 1)) else (if p1 = 42 then (ob1 (f_X9_bound (p2 * p3)) (fun r_4 => (some r_4))) else (if p1 = 43 then (ob1 (f_X9_bound (p2 + p3)) (fun r_6 => (some r_6))) else (if p1 = 45 then (ob1 (f_X9_bound (p2 - p3)) (fun r_8 => (some r_8))) else (if p1 = 47 then (if (lg_cmp p3 0) = 0 then (f_X9_worked_134 0) else (if ¬ p3 = 0 then (f_X9_worked_134 (p2 / p3)) else none)) else (if p1 = 60 then (if 0 ≤ (lg_cmp p2 p3) then (f_X9_worked_146 0) else (f_X9_worked_146 1)) else (if p1 = 61 then (if (lg_cmp p2 p3) = 0 then (f_X9_worked_170 1) else (f_X9_worked_170 0)) else (if p1 = 62 then (if (lg_cmp p2 p3) ≤ 0 then (f_X9_worked_158 0) else (f_X9_worked_158 1)) else (if p1 = 300 then (if 0 < (lg_cmp p2 p3) then (f_X9_worked_194 0) else (f_X9_worked_194 1)) else (if p1 = 301 then (if (lg_cmp p2 p3) < 0 then (f_X9_worked_206 0) else (f_X9_worked_206 1)) else (if p1 = 406 then (some (p2 * p3)) else (if (lg_cmp (p2 + p3) 0) ≤ 0 then (f_X9_worked_224 0) else (f_X9_worked_224 1)))))))))))))
theorem e_X9_bound : yX9_bound.cls = RX9 ∧ yX9_bound.cls ≠ "java/lang/invoke/MethodHandle" ∧ yX9_bound.cls ≠ "java/lang/invoke/VarHandle" ∧ (parseMethodDescriptor yX9_bound.desc).map (fun d => d.parameters.length) = some 1 := by decide +kernel
set_option maxHeartbeats 4000000 in
set_option maxRecDepth 100000 in
theorem c_X9_worked (l : Launch) (G : va_G) (cI cJ cZ cB cT : ClassId)   (p1 : Int32) (p2 : Int64) (p3 : Int64) (rr : Int64)  (hF : f_X9_worked p1 p2 p3 = some rr) : gMl l yX9_worked (gws yX9_worked cX9_worked 5 (some .long)) 2 G (gT cI cJ cZ cB cT) [.int p1, .long p2, .long p3] ([] : va_W) (fun x (_ : Unit) => x = rr) (fun (_ : Unit) => ([] : va_W)) := by
  intro sz
  refine gM_start (y := yX9_worked) (av := [.int p1, .long p2, .long p3]) (ws := ([] : va_W)) (Qf := fun A => va_Ql (fun x (_ : Unit) => x = rr) (gB G (fun (_ : Unit) => ([] : va_W)) A) A) (cc := cX9_worked) (maxL := 5) (ret := (some .long)) (by decide) (Nat.le_of_ble_eq_true rfl) ?_
  intro p e s m args below meth c A ls H hx hb hr hts hown hin hlocks hml hP hK hD hA hS hl hE
  have hl : lv_has ls 5 [(0, .int p1), (1, .long p2), (3, .long p3)] := hl
  have hJ_182 : ∀  (y0 : Int64), f_X9_worked_182 y0 = some rr → ∀ (H : Heap) (locs : List Loc) (ls : Array Slot), va_P G vwCl ([] : va_W) H → va_D A ([] : va_W) → va_S A s.heap H locs → lv_has ls 5 [] → W p l e (gRm 2) s m args below meth c H locs 0 0 (MQ below (va_Ql (fun x (_ : Unit) => x = rr) (gB G (fun (_ : Unit) => ([] : va_W)) A) A) args s 0 0 A) (F0 m 182 ls [.long y0]) := by
    intro  y0 hF H locs ls hP hD hS hl
    unfold f_X9_worked_182 at hF
    obtain rfl := ob_one hF
    exact gw_lret () hx hb hr hlocks hP hD hS rfl dX9_worked_182
  have hJ_134 : ∀  (y0 : Int64), f_X9_worked_134 y0 = some rr → ∀ (H : Heap) (locs : List Loc) (ls : Array Slot), va_P G vwCl ([] : va_W) H → va_D A ([] : va_W) → va_S A s.heap H locs → lv_has ls 5 [] → W p l e (gRm 2) s m args below meth c H locs 0 0 (MQ below (va_Ql (fun x (_ : Unit) => x = rr) (gB G (fun (_ : Unit) => ([] : va_W)) A) A) args s 0 0 A) (F0 m 134 ls [.long y0]) := by
    intro  y0 hF H locs ls hP hD hS hl
    unfold f_X9_worked_134 at hF
    obtain rfl := ob_one hF
    exact gw_lret () hx hb hr hlocks hP hD hS rfl dX9_worked_134
  have hJ_146 : ∀  (y0 : Int64), f_X9_worked_146 y0 = some rr → ∀ (H : Heap) (locs : List Loc) (ls : Array Slot), va_P G vwCl ([] : va_W) H → va_D A ([] : va_W) → va_S A s.heap H locs → lv_has ls 5 [] → W p l e (gRm 2) s m args below meth c H locs 0 0 (MQ below (va_Ql (fun x (_ : Unit) => x = rr) (gB G (fun (_ : Unit) => ([] : va_W)) A) A) args s 0 0 A) (F0 m 146 ls [.long y0]) := by
    intro  y0 hF H locs ls hP hD hS hl
    unfold f_X9_worked_146 at hF
    obtain rfl := ob_one hF
    exact gw_lret () hx hb hr hlocks hP hD hS rfl dX9_worked_146
  have hJ_170 : ∀  (y0 : Int64), f_X9_worked_170 y0 = some rr → ∀ (H : Heap) (locs : List Loc) (ls : Array Slot), va_P G vwCl ([] : va_W) H → va_D A ([] : va_W) → va_S A s.heap H locs → lv_has ls 5 [] → W p l e (gRm 2) s m args below meth c H locs 0 0 (MQ below (va_Ql (fun x (_ : Unit) => x = rr) (gB G (fun (_ : Unit) => ([] : va_W)) A) A) args s 0 0 A) (F0 m 170 ls [.long y0]) := by
    intro  y0 hF H locs ls hP hD hS hl
    unfold f_X9_worked_170 at hF
    obtain rfl := ob_one hF
    exact gw_lret () hx hb hr hlocks hP hD hS rfl dX9_worked_170
  have hJ_158 : ∀  (y0 : Int64), f_X9_worked_158 y0 = some rr → ∀ (H : Heap) (locs : List Loc) (ls : Array Slot), va_P G vwCl ([] : va_W) H → va_D A ([] : va_W) → va_S A s.heap H locs → lv_has ls 5 [] → W p l e (gRm 2) s m args below meth c H locs 0 0 (MQ below (va_Ql (fun x (_ : Unit) => x = rr) (gB G (fun (_ : Unit) => ([] : va_W)) A) A) args s 0 0 A) (F0 m 158 ls [.long y0]) := by
    intro  y0 hF H locs ls hP hD hS hl
    unfold f_X9_worked_158 at hF
    obtain rfl := ob_one hF
    exact gw_lret () hx hb hr hlocks hP hD hS rfl dX9_worked_158
  have hJ_194 : ∀  (y0 : Int64), f_X9_worked_194 y0 = some rr → ∀ (H : Heap) (locs : List Loc) (ls : Array Slot), va_P G vwCl ([] : va_W) H → va_D A ([] : va_W) → va_S A s.heap H locs → lv_has ls 5 [] → W p l e (gRm 2) s m args below meth c H locs 0 0 (MQ below (va_Ql (fun x (_ : Unit) => x = rr) (gB G (fun (_ : Unit) => ([] : va_W)) A) A) args s 0 0 A) (F0 m 194 ls [.long y0]) := by
    intro  y0 hF H locs ls hP hD hS hl
    unfold f_X9_worked_194 at hF
    obtain rfl := ob_one hF
    exact gw_lret () hx hb hr hlocks hP hD hS rfl dX9_worked_194
  have hJ_206 : ∀  (y0 : Int64), f_X9_worked_206 y0 = some rr → ∀ (H : Heap) (locs : List Loc) (ls : Array Slot), va_P G vwCl ([] : va_W) H → va_D A ([] : va_W) → va_S A s.heap H locs → lv_has ls 5 [] → W p l e (gRm 2) s m args below meth c H locs 0 0 (MQ below (va_Ql (fun x (_ : Unit) => x = rr) (gB G (fun (_ : Unit) => ([] : va_W)) A) A) args s 0 0 A) (F0 m 206 ls [.long y0]) := by
    intro  y0 hF H locs ls hP hD hS hl
    unfold f_X9_worked_206 at hF
    obtain rfl := ob_one hF
    exact gw_lret () hx hb hr hlocks hP hD hS rfl dX9_worked_206
  have hJ_224 : ∀  (y0 : Int64), f_X9_worked_224 y0 = some rr → ∀ (H : Heap) (locs : List Loc) (ls : Array Slot), va_P G vwCl ([] : va_W) H → va_D A ([] : va_W) → va_S A s.heap H locs → lv_has ls 5 [] → W p l e (gRm 2) s m args below meth c H locs 0 0 (MQ below (va_Ql (fun x (_ : Unit) => x = rr) (gB G (fun (_ : Unit) => ([] : va_W)) A) A) args s 0 0 A) (F0 m 224 ls [.long y0]) := by
    intro  y0 hF H locs ls hP hD hS hl
    unfold f_X9_worked_224 at hF
    obtain rfl := ob_one hF
    exact gw_lret () hx hb hr hlocks hP hD hS rfl dX9_worked_224
  unfold f_X9_worked at hF
  refine lv_iload_n hx hb dX9_worked_0 rfl (lv_at hl 0 rfl) ?_
  by_cases c_1 : p1 = 35
  · have hF := ob_pos c_1 hF
    refine lv_lookup (tgt := 171) (off := 170) hx hb dX9_worked_1 (by decide) (by rw [c_1]; decide) (by decide) ?_
    refine lv_lload_n hx hb dX9_worked_171 rfl (lv_at hl 1 rfl) ?_
    refine lv_lload_n hx hb dX9_worked_172 rfl (lv_at hl 2 rfl) ?_
    refine W.lcmp hx hb dX9_worked_173 ?_
    refine lv_if_eq (tgt := 181) hx hb dX9_worked_174 (by decide) (fun c_2 => ?_) (fun c_2 => ?_)
    · have hF := ob_pos c_2 hF
      refine lv_lconst (v := 0) hx hb dX9_worked_181 (by decide) ?_
      exact hJ_182 0 hF H _ ls hP hD hS (lv_sub hl [] rfl)
    · have hF := ob_neg c_2 hF
      refine lv_lconst (v := 1) hx hb dX9_worked_177 (by decide) ?_
      refine lv_goto (tgt := 182) hx hb dX9_worked_178 (by decide) ?_
      exact hJ_182 1 hF H _ ls hP hD hS (lv_sub hl [] rfl)
  have hF := ob_neg c_1 hF
  by_cases c_3 : p1 = 42
  · have hF := ob_pos c_3 hF
    refine lv_lookup (tgt := 114) (off := 113) hx hb dX9_worked_1 (by decide) (by rw [c_3]; decide) (by decide) ?_
    refine lv_lload_n hx hb dX9_worked_114 rfl (lv_at hl 1 rfl) ?_
    refine lv_lload_n hx hb dX9_worked_115 rfl (lv_at hl 2 rfl) ?_
    refine lv_lmul hx hb dX9_worked_116 ?_
    obtain ⟨r_4, e_4, hF⟩ := ob1_some hF
    refine gx_calll0 (gx_runS0 (As := [.long (p2 * p3)]) (rest := []) ⟨hx, hb, hml, hown, hts⟩ (c_X9_bound l G cI cJ cZ cB cT   (p2 * p3) r_4 e_4 H.size) (gG_S m_90 m_91 m_64 m_89) rfl e_X9_bound ⟨Nat.le_of_ble_eq_true rfl, Nat.le_of_ble_eq_true rfl⟩ hK hE hS hA rfl hl.1 rfl (Nat.le_of_ble_eq_true rfl) dX9_worked_117 ⟨Nat.le_refl _, Nat.le_refl _⟩) hP hD hS hA (fun x_4 u_4 H locs hw_4 hP hD hS => ?_)
    subst x_4
    obtain rfl := ob_one hF
    exact gw_lret () hx hb hr hlocks hP hD hS rfl dX9_worked_120
  have hF := ob_neg c_3 hF
  by_cases c_5 : p1 = 43
  · have hF := ob_pos c_5 hF
    refine lv_lookup (tgt := 100) (off := 99) hx hb dX9_worked_1 (by decide) (by rw [c_5]; decide) (by decide) ?_
    refine lv_lload_n hx hb dX9_worked_100 rfl (lv_at hl 1 rfl) ?_
    refine lv_lload_n hx hb dX9_worked_101 rfl (lv_at hl 2 rfl) ?_
    refine lv_ladd hx hb dX9_worked_102 ?_
    obtain ⟨r_6, e_6, hF⟩ := ob1_some hF
    refine gx_calll0 (gx_runS0 (As := [.long (p2 + p3)]) (rest := []) ⟨hx, hb, hml, hown, hts⟩ (c_X9_bound l G cI cJ cZ cB cT   (p2 + p3) r_6 e_6 H.size) (gG_S m_90 m_91 m_64 m_89) rfl e_X9_bound ⟨Nat.le_of_ble_eq_true rfl, Nat.le_of_ble_eq_true rfl⟩ hK hE hS hA rfl hl.1 rfl (Nat.le_of_ble_eq_true rfl) dX9_worked_103 ⟨Nat.le_refl _, Nat.le_refl _⟩) hP hD hS hA (fun x_6 u_6 H locs hw_6 hP hD hS => ?_)
    subst x_6
    obtain rfl := ob_one hF
    exact gw_lret () hx hb hr hlocks hP hD hS rfl dX9_worked_106
  have hF := ob_neg c_5 hF
  by_cases c_7 : p1 = 45
  · have hF := ob_pos c_7 hF
    refine lv_lookup (tgt := 107) (off := 106) hx hb dX9_worked_1 (by decide) (by rw [c_7]; decide) (by decide) ?_
    refine lv_lload_n hx hb dX9_worked_107 rfl (lv_at hl 1 rfl) ?_
    refine lv_lload_n hx hb dX9_worked_108 rfl (lv_at hl 2 rfl) ?_
    refine lv_lsub hx hb dX9_worked_109 ?_
    obtain ⟨r_8, e_8, hF⟩ := ob1_some hF
    refine gx_calll0 (gx_runS0 (As := [.long (p2 - p3)]) (rest := []) ⟨hx, hb, hml, hown, hts⟩ (c_X9_bound l G cI cJ cZ cB cT   (p2 - p3) r_8 e_8 H.size) (gG_S m_90 m_91 m_64 m_89) rfl e_X9_bound ⟨Nat.le_of_ble_eq_true rfl, Nat.le_of_ble_eq_true rfl⟩ hK hE hS hA rfl hl.1 rfl (Nat.le_of_ble_eq_true rfl) dX9_worked_110 ⟨Nat.le_refl _, Nat.le_refl _⟩) hP hD hS hA (fun x_8 u_8 H locs hw_8 hP hD hS => ?_)
    subst x_8
    obtain rfl := ob_one hF
    exact gw_lret () hx hb hr hlocks hP hD hS rfl dX9_worked_113
  have hF := ob_neg c_7 hF
  by_cases c_9 : p1 = 47
  · have hF := ob_pos c_9 hF
    refine lv_lookup (tgt := 121) (off := 120) hx hb dX9_worked_1 (by decide) (by rw [c_9]; decide) (by decide) ?_
    refine lv_lload_n hx hb dX9_worked_121 rfl (lv_at hl 2 rfl) ?_
    refine lv_lconst (v := 0) hx hb dX9_worked_122 (by decide) ?_
    refine W.lcmp hx hb dX9_worked_123 ?_
    refine lv_if_ne (tgt := 131) hx hb dX9_worked_124 (by decide) (fun c_10 => ?_) (fun c_10 => ?_)
    · have hF := ob_neg c_10 hF
      refine lv_lload_n hx hb dX9_worked_131 rfl (lv_at hl 1 rfl) ?_
      refine lv_lload_n hx hb dX9_worked_132 rfl (lv_at hl 2 rfl) ?_
      obtain ⟨hd_11, hF⟩ := ob_if hF
      refine lv_ldiv hx hb dX9_worked_133 hd_11 ?_
      exact hJ_134 (p2 / p3) hF H _ ls hP hD hS (lv_sub hl [] rfl)
    · have hF := ob_pos c_10 hF
      refine lv_lconst (v := 0) hx hb dX9_worked_127 (by decide) ?_
      refine lv_goto (tgt := 134) hx hb dX9_worked_128 (by decide) ?_
      exact hJ_134 0 hF H _ ls hP hD hS (lv_sub hl [] rfl)
  have hF := ob_neg c_9 hF
  by_cases c_12 : p1 = 60
  · have hF := ob_pos c_12 hF
    refine lv_lookup (tgt := 135) (off := 134) hx hb dX9_worked_1 (by decide) (by rw [c_12]; decide) (by decide) ?_
    refine lv_lload_n hx hb dX9_worked_135 rfl (lv_at hl 1 rfl) ?_
    refine lv_lload_n hx hb dX9_worked_136 rfl (lv_at hl 2 rfl) ?_
    refine W.lcmp hx hb dX9_worked_137 ?_
    refine lv_if_ge (tgt := 145) hx hb dX9_worked_138 (by decide) (fun c_13 => ?_) (fun c_13 => ?_)
    · have hF := ob_pos c_13 hF
      refine lv_lconst (v := 0) hx hb dX9_worked_145 (by decide) ?_
      exact hJ_146 0 hF H _ ls hP hD hS (lv_sub hl [] rfl)
    · have hF := ob_neg c_13 hF
      refine lv_lconst (v := 1) hx hb dX9_worked_141 (by decide) ?_
      refine lv_goto (tgt := 146) hx hb dX9_worked_142 (by decide) ?_
      exact hJ_146 1 hF H _ ls hP hD hS (lv_sub hl [] rfl)
  have hF := ob_neg c_12 hF
  by_cases c_14 : p1 = 61
  · have hF := ob_pos c_14 hF
    refine lv_lookup (tgt := 159) (off := 158) hx hb dX9_worked_1 (by decide) (by rw [c_14]; decide) (by decide) ?_
    refine lv_lload_n hx hb dX9_worked_159 rfl (lv_at hl 1 rfl) ?_
    refine lv_lload_n hx hb dX9_worked_160 rfl (lv_at hl 2 rfl) ?_
    refine W.lcmp hx hb dX9_worked_161 ?_
    refine lv_if_ne (tgt := 169) hx hb dX9_worked_162 (by decide) (fun c_15 => ?_) (fun c_15 => ?_)
    · have hF := ob_neg c_15 hF
      refine lv_lconst (v := 0) hx hb dX9_worked_169 (by decide) ?_
      exact hJ_170 0 hF H _ ls hP hD hS (lv_sub hl [] rfl)
    · have hF := ob_pos c_15 hF
      refine lv_lconst (v := 1) hx hb dX9_worked_165 (by decide) ?_
      refine lv_goto (tgt := 170) hx hb dX9_worked_166 (by decide) ?_
      exact hJ_170 1 hF H _ ls hP hD hS (lv_sub hl [] rfl)
  have hF := ob_neg c_14 hF
  by_cases c_16 : p1 = 62
  · have hF := ob_pos c_16 hF
    refine lv_lookup (tgt := 147) (off := 146) hx hb dX9_worked_1 (by decide) (by rw [c_16]; decide) (by decide) ?_
    refine lv_lload_n hx hb dX9_worked_147 rfl (lv_at hl 1 rfl) ?_
    refine lv_lload_n hx hb dX9_worked_148 rfl (lv_at hl 2 rfl) ?_
    refine W.lcmp hx hb dX9_worked_149 ?_
    refine lv_if_le (tgt := 157) hx hb dX9_worked_150 (by decide) (fun c_17 => ?_) (fun c_17 => ?_)
    · have hF := ob_pos c_17 hF
      refine lv_lconst (v := 0) hx hb dX9_worked_157 (by decide) ?_
      exact hJ_158 0 hF H _ ls hP hD hS (lv_sub hl [] rfl)
    · have hF := ob_neg c_17 hF
      refine lv_lconst (v := 1) hx hb dX9_worked_153 (by decide) ?_
      refine lv_goto (tgt := 158) hx hb dX9_worked_154 (by decide) ?_
      exact hJ_158 1 hF H _ ls hP hD hS (lv_sub hl [] rfl)
  have hF := ob_neg c_16 hF
  by_cases c_18 : p1 = 300
  · have hF := ob_pos c_18 hF
    refine lv_lookup (tgt := 183) (off := 182) hx hb dX9_worked_1 (by decide) (by rw [c_18]; decide) (by decide) ?_
    refine lv_lload_n hx hb dX9_worked_183 rfl (lv_at hl 1 rfl) ?_
    refine lv_lload_n hx hb dX9_worked_184 rfl (lv_at hl 2 rfl) ?_
    refine W.lcmp hx hb dX9_worked_185 ?_
    refine lv_if_gt (tgt := 193) hx hb dX9_worked_186 (by decide) (fun c_19 => ?_) (fun c_19 => ?_)
    · have hF := ob_pos c_19 hF
      refine lv_lconst (v := 0) hx hb dX9_worked_193 (by decide) ?_
      exact hJ_194 0 hF H _ ls hP hD hS (lv_sub hl [] rfl)
    · have hF := ob_neg c_19 hF
      refine lv_lconst (v := 1) hx hb dX9_worked_189 (by decide) ?_
      refine lv_goto (tgt := 194) hx hb dX9_worked_190 (by decide) ?_
      exact hJ_194 1 hF H _ ls hP hD hS (lv_sub hl [] rfl)
  have hF := ob_neg c_18 hF
  by_cases c_20 : p1 = 301
  · have hF := ob_pos c_20 hF
    refine lv_lookup (tgt := 195) (off := 194) hx hb dX9_worked_1 (by decide) (by rw [c_20]; decide) (by decide) ?_
    refine lv_lload_n hx hb dX9_worked_195 rfl (lv_at hl 1 rfl) ?_
    refine lv_lload_n hx hb dX9_worked_196 rfl (lv_at hl 2 rfl) ?_
    refine W.lcmp hx hb dX9_worked_197 ?_
    refine lv_if_lt (tgt := 205) hx hb dX9_worked_198 (by decide) (fun c_21 => ?_) (fun c_21 => ?_)
    · have hF := ob_pos c_21 hF
      refine lv_lconst (v := 0) hx hb dX9_worked_205 (by decide) ?_
      exact hJ_206 0 hF H _ ls hP hD hS (lv_sub hl [] rfl)
    · have hF := ob_neg c_21 hF
      refine lv_lconst (v := 1) hx hb dX9_worked_201 (by decide) ?_
      refine lv_goto (tgt := 206) hx hb dX9_worked_202 (by decide) ?_
      exact hJ_206 1 hF H _ ls hP hD hS (lv_sub hl [] rfl)
  have hF := ob_neg c_20 hF
  by_cases c_22 : p1 = 406
  · have hF := ob_pos c_22 hF
    refine lv_lookup (tgt := 207) (off := 206) hx hb dX9_worked_1 (by decide) (by rw [c_22]; decide) (by decide) ?_
    refine lv_lload_n hx hb dX9_worked_207 rfl (lv_at hl 1 rfl) ?_
    refine lv_lload_n hx hb dX9_worked_208 rfl (lv_at hl 2 rfl) ?_
    refine lv_lmul hx hb dX9_worked_209 ?_
    obtain rfl := ob_one hF
    exact gw_lret () hx hb hr hlocks hP hD hS rfl dX9_worked_210
  have hF := ob_neg c_22 hF
  refine lv_lookup (tgt := 211) (off := 210) hx hb dX9_worked_1 (by decide) ((lv_osw c_1 (by decide)).trans ((lv_osw c_3 (by decide)).trans ((lv_osw c_5 (by decide)).trans ((lv_osw c_7 (by decide)).trans ((lv_osw c_9 (by decide)).trans ((lv_osw c_12 (by decide)).trans ((lv_osw c_14 (by decide)).trans ((lv_osw c_16 (by decide)).trans ((lv_osw c_18 (by decide)).trans ((lv_osw c_20 (by decide)).trans ((lv_osw c_22 (by decide)).trans (rfl)))))))))))) (by decide) ?_
  refine lv_lload_n hx hb dX9_worked_211 rfl (lv_at hl 1 rfl) ?_
  refine lv_lload_n hx hb dX9_worked_212 rfl (lv_at hl 2 rfl) ?_
  refine lv_ladd hx hb dX9_worked_213 ?_
  refine lv_lconst (v := 0) hx hb dX9_worked_214 (by decide) ?_
  refine W.lcmp hx hb dX9_worked_215 ?_
  refine lv_if_le (tgt := 223) hx hb dX9_worked_216 (by decide) (fun c_23 => ?_) (fun c_23 => ?_)
  · have hF := ob_pos c_23 hF
    refine lv_lconst (v := 0) hx hb dX9_worked_223 (by decide) ?_
    exact hJ_224 0 hF H _ ls hP hD hS (lv_sub hl [] rfl)
  · have hF := ob_neg c_23 hF
    refine lv_lconst (v := 1) hx hb dX9_worked_219 (by decide) ?_
    refine lv_goto (tgt := 224) hx hb dX9_worked_220 (by decide) ?_
    exact hJ_224 1 hF H _ ls hP hD hS (lv_sub hl [] rfl)
def f_X9_held_24 (y0 : Int32) : Option Int32 := (some y0)
def f_X9_held (p1 : Int64) (p2 : Int32) (p3 : Int32) : Option Int32 := (if 0 ≤ (lg_cmp p1 ((p2).toInt64)) then (if (lg_cmp p1 ((p3).toInt64)) ≤ 0 then (f_X9_held_24 ((p1).toInt32)) else (f_X9_held_24 p3)) else (f_X9_held_24 p2))
set_option maxHeartbeats 4000000 in
set_option maxRecDepth 100000 in
theorem c_X9_held (l : Launch) (G : va_G) (cI cJ cZ cB cT : ClassId)   (p1 : Int64) (p2 : Int32) (p3 : Int32) (rr : Int32)  (hF : f_X9_held p1 p2 p3 = some rr) : gMi l yX9_held (gws yX9_held cX9_held 4 (some .int)) 1 G (gT cI cJ cZ cB cT) [.long p1, .int p2, .int p3] ([] : va_W) (fun x (_ : Unit) => x = rr) (fun (_ : Unit) => ([] : va_W)) := by
  intro sz
  refine gM_start (y := yX9_held) (av := [.long p1, .int p2, .int p3]) (ws := ([] : va_W)) (Qf := fun A => va_Qi (fun x (_ : Unit) => x = rr) (gB G (fun (_ : Unit) => ([] : va_W)) A) A) (cc := cX9_held) (maxL := 4) (ret := (some .int)) (by decide) (Nat.le_of_ble_eq_true rfl) ?_
  intro p e s m args below meth c A ls H hx hb hr hts hown hin hlocks hml hP hK hD hA hS hl hE
  have hl : lv_has ls 4 [(0, .long p1), (2, .int p2), (3, .int p3)] := hl
  have hJ_24 : ∀  (y0 : Int32), f_X9_held_24 y0 = some rr → ∀ (H : Heap) (locs : List Loc) (ls : Array Slot), va_P G vwCl ([] : va_W) H → va_D A ([] : va_W) → va_S A s.heap H locs → lv_has ls 4 [] → W p l e (gRm 1) s m args below meth c H locs 0 0 (MQ below (va_Qi (fun x (_ : Unit) => x = rr) (gB G (fun (_ : Unit) => ([] : va_W)) A) A) args s 0 0 A) (F0 m 24 ls [.int y0]) := by
    intro  y0 hF H locs ls hP hD hS hl
    unfold f_X9_held_24 at hF
    obtain rfl := ob_one hF
    exact gw_iret () hx hb hr hlocks hP hD hS rfl dX9_held_24
  unfold f_X9_held at hF
  refine lv_lload_n hx hb dX9_held_0 rfl (lv_at hl 0 rfl) ?_
  refine lv_iload_n hx hb dX9_held_1 rfl (lv_at hl 1 rfl) ?_
  refine lv_i2l (v := (p2).toInt64) hx hb dX9_held_2 rfl ?_
  refine W.lcmp hx hb dX9_held_3 ?_
  refine lv_if_ge (tgt := 11) hx hb dX9_held_4 (by decide) (fun c_1 => ?_) (fun c_1 => ?_)
  · have hF := ob_pos c_1 hF
    refine lv_lload_n hx hb dX9_held_11 rfl (lv_at hl 0 rfl) ?_
    refine lv_iload_n hx hb dX9_held_12 rfl (lv_at hl 2 rfl) ?_
    refine lv_i2l (v := (p3).toInt64) hx hb dX9_held_13 rfl ?_
    refine W.lcmp hx hb dX9_held_14 ?_
    refine lv_if_le (tgt := 22) hx hb dX9_held_15 (by decide) (fun c_2 => ?_) (fun c_2 => ?_)
    · have hF := ob_pos c_2 hF
      refine lv_lload_n hx hb dX9_held_22 rfl (lv_at hl 0 rfl) ?_
      refine lv_l2i (v := ((p1).toInt32)) hx hb dX9_held_23 rfl ?_
      exact hJ_24 ((p1).toInt32) hF H _ ls hP hD hS (lv_sub hl [] rfl)
    · have hF := ob_neg c_2 hF
      refine lv_iload_n hx hb dX9_held_18 rfl (lv_at hl 2 rfl) ?_
      refine lv_goto (tgt := 24) hx hb dX9_held_19 (by decide) ?_
      exact hJ_24 p3 hF H _ ls hP hD hS (lv_sub hl [] rfl)
  · have hF := ob_neg c_1 hF
    refine lv_iload_n hx hb dX9_held_7 rfl (lv_at hl 1 rfl) ?_
    refine lv_goto (tgt := 24) hx hb dX9_held_8 (by decide) ?_
    exact hJ_24 p2 hF H _ ls hP hD hS (lv_sub hl [] rfl)
def f_X9_halves_9 (y0 : Int32) : Option Int32 := (some y0)
def f_X9_halves (p1 : Int32) : Option Int32 := (if p1 = 0 then (f_X9_halves_9 3) else (f_X9_halves_9 p1))
set_option maxHeartbeats 4000000 in
set_option maxRecDepth 100000 in
theorem c_X9_halves (l : Launch) (G : va_G) (cI cJ cZ cB cT : ClassId)   (p1 : Int32) (rr : Int32)  (hF : f_X9_halves p1 = some rr) : gMi l yX9_halves (gws yX9_halves cX9_halves 1 (some .int)) 1 G (gT cI cJ cZ cB cT) [.int p1] ([] : va_W) (fun x (_ : Unit) => x = rr) (fun (_ : Unit) => ([] : va_W)) := by
  intro sz
  refine gM_start (y := yX9_halves) (av := [.int p1]) (ws := ([] : va_W)) (Qf := fun A => va_Qi (fun x (_ : Unit) => x = rr) (gB G (fun (_ : Unit) => ([] : va_W)) A) A) (cc := cX9_halves) (maxL := 1) (ret := (some .int)) (by decide) (Nat.le_of_ble_eq_true rfl) ?_
  intro p e s m args below meth c A ls H hx hb hr hts hown hin hlocks hml hP hK hD hA hS hl hE
  have hl : lv_has ls 1 [(0, .int p1)] := hl
  have hJ_9 : ∀  (y0 : Int32), f_X9_halves_9 y0 = some rr → ∀ (H : Heap) (locs : List Loc) (ls : Array Slot), va_P G vwCl ([] : va_W) H → va_D A ([] : va_W) → va_S A s.heap H locs → lv_has ls 1 [] → W p l e (gRm 1) s m args below meth c H locs 0 0 (MQ below (va_Qi (fun x (_ : Unit) => x = rr) (gB G (fun (_ : Unit) => ([] : va_W)) A) A) args s 0 0 A) (F0 m 9 ls [.int y0]) := by
    intro  y0 hF H locs ls hP hD hS hl
    unfold f_X9_halves_9 at hF
    obtain rfl := ob_one hF
    exact gw_iret () hx hb hr hlocks hP hD hS rfl dX9_halves_9
  unfold f_X9_halves at hF
  refine lv_iload_n hx hb dX9_halves_0 rfl (lv_at hl 0 rfl) ?_
  refine lv_if_ne (tgt := 8) hx hb dX9_halves_1 (by decide) (fun c_1 => ?_) (fun c_1 => ?_)
  · have hF := ob_neg c_1 hF
    refine lv_iload_n hx hb dX9_halves_8 rfl (lv_at hl 0 rfl) ?_
    exact hJ_9 p1 hF H _ ls hP hD hS (lv_sub hl [] rfl)
  · have hF := ob_pos c_1 hF
    refine lv_iconst (v := 3) hx hb dX9_halves_4 (by decide) ?_
    refine lv_goto (tgt := 9) hx hb dX9_halves_5 (by decide) ?_
    exact hJ_9 3 hF H _ ls hP hD hS (lv_sub hl [] rfl)
def f_X9_isLetterNumber (p1 : Int32) : Option Int32 := (ob1 (f_X9_in p1 0 5) (fun r_1 => (if r_1 = 0 ∨ r_1 = 1 then (some r_1) else none)))
set_option maxHeartbeats 4000000 in
set_option maxRecDepth 100000 in
theorem c_X9_isLetterNumber (l : Launch) (G : va_G) (cI cJ cZ cB cT : ClassId)   (p1 : Int32) (rr : Int32)  (hF : f_X9_isLetterNumber p1 = some rr) : gMi l yX9_isLetterNumber (gws yX9_isLetterNumber cX9_isLetterNumber 1 (some .boolean)) 2 G (gT cI cJ cZ cB cT) [.int p1] ([] : va_W) (fun x (_ : Unit) => x = rr) (fun (_ : Unit) => ([] : va_W)) := by
  intro sz
  refine gM_start (y := yX9_isLetterNumber) (av := [.int p1]) (ws := ([] : va_W)) (Qf := fun A => va_Qi (fun x (_ : Unit) => x = rr) (gB G (fun (_ : Unit) => ([] : va_W)) A) A) (cc := cX9_isLetterNumber) (maxL := 1) (ret := (some .boolean)) (by decide) (Nat.le_of_ble_eq_true rfl) ?_
  intro p e s m args below meth c A ls H hx hb hr hts hown hin hlocks hml hP hK hD hA hS hl hE
  have hl : lv_has ls 1 [(0, .int p1)] := hl
  unfold f_X9_isLetterNumber at hF
  refine lv_iload_n hx hb dX9_isLetterNumber_0 rfl (lv_at hl 0 rfl) ?_
  refine lv_iconst (v := 0) hx hb dX9_isLetterNumber_1 (by decide) ?_
  refine lv_iconst (v := 5) hx hb dX9_isLetterNumber_2 (by decide) ?_
  obtain ⟨r_1, e_1, hF⟩ := ob1_some hF
  refine gx_calli0 (gx_runS0 (As := [.int p1, .int 0, .int 5]) (rest := []) ⟨hx, hb, hml, hown, hts⟩ (c_X9_in l G cI cJ cZ cB cT   p1 0 5 r_1 e_1 H.size) (gG_S m_62 m_63 m_64 m_61) rfl e_X9_in ⟨Nat.le_of_ble_eq_true rfl, Nat.le_of_ble_eq_true rfl⟩ hK hE hS hA rfl hl.1 rfl (Nat.le_of_ble_eq_true rfl) dX9_isLetterNumber_3 ⟨Nat.le_refl _, Nat.le_refl _⟩) hP hD hS hA (fun x_1 u_1 H locs hw_1 hP hD hS => ?_)
  subst x_1
  obtain ⟨hz_2, hF⟩ := ob_if hF
  obtain rfl := ob_one hF
  exact gw_zret () hx hb hr hlocks (gz hz_2) hP hD hS rfl dX9_isLetterNumber_6
def f_X9_isQuill_23 (y0 : Int32) : Option Int32 := (if y0 = 0 ∨ y0 = 1 then (some y0) else none)
def f_X9_isQuill_22 : Option Int32 := (f_X9_isQuill_23 0)
def f_X9_isQuill (p1 : Int32) (p2 : Int32) : Option Int32 := (ob1 (f_X9_in p1 0 5) (fun r_1 => (if r_1 = 0 then (f_X9_isQuill_22) else (ob1 (f_X9_in p2 0 2) (fun r_3 => (if r_3 = 0 then (f_X9_isQuill_22) else (f_X9_isQuill_23 1)))))))
set_option maxHeartbeats 4000000 in
set_option maxRecDepth 100000 in
theorem c_X9_isQuill (l : Launch) (G : va_G) (cI cJ cZ cB cT : ClassId)   (p1 : Int32) (p2 : Int32) (rr : Int32)  (hF : f_X9_isQuill p1 p2 = some rr) : gMi l yX9_isQuill (gws yX9_isQuill cX9_isQuill 2 (some .boolean)) 2 G (gT cI cJ cZ cB cT) [.int p1, .int p2] ([] : va_W) (fun x (_ : Unit) => x = rr) (fun (_ : Unit) => ([] : va_W)) := by
  intro sz
  refine gM_start (y := yX9_isQuill) (av := [.int p1, .int p2]) (ws := ([] : va_W)) (Qf := fun A => va_Qi (fun x (_ : Unit) => x = rr) (gB G (fun (_ : Unit) => ([] : va_W)) A) A) (cc := cX9_isQuill) (maxL := 2) (ret := (some .boolean)) (by decide) (Nat.le_of_ble_eq_true rfl) ?_
  intro p e s m args below meth c A ls H hx hb hr hts hown hin hlocks hml hP hK hD hA hS hl hE
  have hl : lv_has ls 2 [(0, .int p1), (1, .int p2)] := hl
  have hJ_23 : ∀  (y0 : Int32), f_X9_isQuill_23 y0 = some rr → ∀ (H : Heap) (locs : List Loc) (ls : Array Slot), va_P G vwCl ([] : va_W) H → va_D A ([] : va_W) → va_S A s.heap H locs → lv_has ls 2 [] → W p l e (gRm 2) s m args below meth c H locs 0 0 (MQ below (va_Qi (fun x (_ : Unit) => x = rr) (gB G (fun (_ : Unit) => ([] : va_W)) A) A) args s 0 0 A) (F0 m 23 ls [.int y0]) := by
    intro  y0 hF H locs ls hP hD hS hl
    unfold f_X9_isQuill_23 at hF
    obtain ⟨hz_5, hF⟩ := ob_if hF
    obtain rfl := ob_one hF
    exact gw_zret () hx hb hr hlocks (gz hz_5) hP hD hS rfl dX9_isQuill_23
  have hJ_22 : f_X9_isQuill_22 = some rr → ∀ (H : Heap) (locs : List Loc) (ls : Array Slot), va_P G vwCl ([] : va_W) H → va_D A ([] : va_W) → va_S A s.heap H locs → lv_has ls 2 [] → W p l e (gRm 2) s m args below meth c H locs 0 0 (MQ below (va_Qi (fun x (_ : Unit) => x = rr) (gB G (fun (_ : Unit) => ([] : va_W)) A) A) args s 0 0 A) (F0 m 22 ls []) := by
    intro  hF H locs ls hP hD hS hl
    unfold f_X9_isQuill_22 at hF
    refine lv_iconst (v := 0) hx hb dX9_isQuill_22 (by decide) ?_
    exact hJ_23 0 hF H _ ls hP hD hS (lv_sub hl [] rfl)
  unfold f_X9_isQuill at hF
  refine lv_iload_n hx hb dX9_isQuill_0 rfl (lv_at hl 0 rfl) ?_
  refine lv_iconst (v := 0) hx hb dX9_isQuill_1 (by decide) ?_
  refine lv_iconst (v := 5) hx hb dX9_isQuill_2 (by decide) ?_
  obtain ⟨r_1, e_1, hF⟩ := ob1_some hF
  refine gx_calli0 (gx_runS0 (As := [.int p1, .int 0, .int 5]) (rest := []) ⟨hx, hb, hml, hown, hts⟩ (c_X9_in l G cI cJ cZ cB cT   p1 0 5 r_1 e_1 H.size) (gG_S m_62 m_63 m_64 m_61) rfl e_X9_in ⟨Nat.le_of_ble_eq_true rfl, Nat.le_of_ble_eq_true rfl⟩ hK hE hS hA rfl hl.1 rfl (Nat.le_of_ble_eq_true rfl) dX9_isQuill_3 ⟨Nat.le_refl _, Nat.le_refl _⟩) hP hD hS hA (fun x_1 u_1 H locs hw_1 hP hD hS => ?_)
  subst x_1
  refine lv_if_eq (tgt := 22) hx hb dX9_isQuill_6 (by decide) (fun c_2 => ?_) (fun c_2 => ?_)
  · have hF := ob_pos c_2 hF
    exact hJ_22 hF H _ ls hP hD hS (lv_sub hl [] rfl)
  · have hF := ob_neg c_2 hF
    refine lv_iload_n hx hb dX9_isQuill_9 rfl (lv_at hl 1 rfl) ?_
    refine lv_iconst (v := 0) hx hb dX9_isQuill_10 (by decide) ?_
    refine lv_iconst (v := 2) hx hb dX9_isQuill_11 (by decide) ?_
    obtain ⟨r_3, e_3, hF⟩ := ob1_some hF
    refine gx_calli0 (gx_runS0 (As := [.int p2, .int 0, .int 2]) (rest := []) ⟨hx, hb, hml, hown, hts⟩ (c_X9_in l G cI cJ cZ cB cT   p2 0 2 r_3 e_3 H.size) (gG_S m_62 m_63 m_64 m_61) rfl e_X9_in ⟨Nat.le_of_ble_eq_true rfl, Nat.le_of_ble_eq_true rfl⟩ hK hE hS hA rfl hl.1 rfl (Nat.le_of_ble_eq_true rfl) dX9_isQuill_12 ⟨Nat.le_refl _, Nat.le_refl _⟩) hP hD hS hA (fun x_3 u_3 H locs hw_3 hP hD hS => ?_)
    subst x_3
    refine lv_if_eq (tgt := 22) hx hb dX9_isQuill_15 (by decide) (fun c_4 => ?_) (fun c_4 => ?_)
    · have hF := ob_pos c_4 hF
      exact hJ_22 hF H _ ls hP hD hS (lv_sub hl [] rfl)
    · have hF := ob_neg c_4 hF
      refine lv_iconst (v := 1) hx hb dX9_isQuill_18 (by decide) ?_
      refine lv_goto (tgt := 23) hx hb dX9_isQuill_19 (by decide) ?_
      exact hJ_23 1 hF H _ ls hP hD hS (lv_sub hl [] rfl)
