def f_X9_next_439 (h : HS) : Option HS := (some h)
def f_X9_next_426 (h : HS) (y0 : Int32) : Option HS := (f_X9_next_439 (sI (sI h 0 18 y0) 0 15 ((eI h 0 15) + 1)))
def f_X9_next_385 (h : HS) (x1 : Int32) : Option HS := (if (eI h 0 14) ≤ (eI h 0 15) then (f_X9_next_439 h) else (if 0 ≤ ((eI h 0 15)).toInt ∧ ((eI h 0 15)).toInt < 300 then (if ((eA h 0 2) (((eI h 0 15)).toNatClampNeg)) = 61 then (if x1 = 60 then (f_X9_next_426 h 300) else (f_X9_next_426 h 301)) else (f_X9_next_439 h)) else none))
def f_X9_next_370 (h : HS) (x1 : Int32) (y0 : Int32) : Option HS := (if x1 = 60 then (f_X9_next_385 (sI h 0 17 y0) x1) else (if x1 = 62 then (f_X9_next_385 (sI h 0 17 y0) x1) else (f_X9_next_439 (sI h 0 17 y0))))
def f_X9_next_365 (h : HS) (x1 : Int32) : Option HS := (f_X9_next_370 h x1 3)
def f_X9_next_299 (k232 : HS → Option HS) (h : HS) (y0 : Int32) : Option HS := (k232 (sI (sI h 0 18 y0) 0 15 ((eI h 0 15) + 1)))
def f_X9_next_232 : Nat → HS → Option HS
  | 0, _ => none
  | n + 1, h => (if (eI h 0 14) ≤ (eI h 0 15) then (f_X9_next_439 h) else (if 0 ≤ ((eI h 0 15)).toInt ∧ ((eI h 0 15)).toInt < 300 then (ob1 (f_X9_in ((eA h 0 2) (((eI h 0 15)).toNatClampNeg)) 48 57) (fun r_22 => (if r_22 = 0 then (f_X9_next_439 h) else (if (eI h 0 18) ≤ 99999 then (if 0 ≤ ((eI h 0 15)).toInt ∧ ((eI h 0 15)).toInt < 300 then (f_X9_next_299 (f_X9_next_232 n) h (((10 * (eI h 0 18)) + ((eA h 0 2) (((eI h 0 15)).toNatClampNeg))) - 48)) else none) else (f_X9_next_299 (f_X9_next_232 n) h (eI h 0 18)))))) else none))
theorem f_X9_next_232_s (n : Nat) (h : HS) : f_X9_next_232 (n + 1) h = (if (eI h 0 14) ≤ (eI h 0 15) then (f_X9_next_439 h) else (if 0 ≤ ((eI h 0 15)).toInt ∧ ((eI h 0 15)).toInt < 300 then (ob1 (f_X9_in ((eA h 0 2) (((eI h 0 15)).toNatClampNeg)) 48 57) (fun r_22 => (if r_22 = 0 then (f_X9_next_439 h) else (if (eI h 0 18) ≤ 99999 then (if 0 ≤ ((eI h 0 15)).toInt ∧ ((eI h 0 15)).toInt < 300 then (f_X9_next_299 (f_X9_next_232 n) h (((10 * (eI h 0 18)) + ((eA h 0 2) (((eI h 0 15)).toNatClampNeg))) - 48)) else none) else (f_X9_next_299 (f_X9_next_232 n) h (eI h 0 18)))))) else none)) := rfl
def f_X9_next_205 (h : HS) (y0 : Int32) : Option HS := (f_X9_next_439 (sI h 0 17 y0))
def f_X9_next_189 (h : HS) (y0 : Int32) : Option HS := (if 0 ≤ y0 then (f_X9_next_205 (sI h 0 18 y0) 1) else (f_X9_next_205 (sI h 0 18 y0) 4))
def f_X9_next_173 (h : HS) (x2 : Int64) (x4 : Int32) : Option HS := (if x4 ≤ 8 then (ob1 (f_X9_wordOf x2) (fun r_37 => (f_X9_next_189 h r_37))) else (f_X9_next_189 h (-1)))
def f_X9_next_156 (k99 : HS → Int64 → Int32 → Option HS) (h : HS) (x4 : Int32) (y0 : Int64) : Option HS := (k99 (sI h 0 15 ((eI h 0 15) + 1)) y0 (x4 + 1))
def f_X9_next_99 : Nat → HS → Int64 → Int32 → Option HS
  | 0, _, _, _ => none
  | n + 1, h, x2, x4 => (if (eI h 0 14) ≤ (eI h 0 15) then (f_X9_next_173 h x2 x4) else (if 0 ≤ ((eI h 0 15)).toInt ∧ ((eI h 0 15)).toInt < 300 then (ob1 (f_X9_isLetter ((eA h 0 2) (((eI h 0 15)).toNatClampNeg))) (fun r_28 => (if r_28 = 0 then (f_X9_next_173 h x2 x4) else (if 9 ≤ x4 then (f_X9_next_156 (f_X9_next_99 n) h x4 x2) else (if 0 ≤ ((eI h 0 15)).toInt ∧ ((eI h 0 15)).toInt < 300 then (f_X9_next_156 (f_X9_next_99 n) h x4 (((64 * x2) + ((((eA h 0 2) (((eI h 0 15)).toNatClampNeg))).toInt64)) - 64)) else none))))) else none))
theorem f_X9_next_99_s (n : Nat) (h : HS) (x2 : Int64) (x4 : Int32) : f_X9_next_99 (n + 1) h x2 x4 = (if (eI h 0 14) ≤ (eI h 0 15) then (f_X9_next_173 h x2 x4) else (if 0 ≤ ((eI h 0 15)).toInt ∧ ((eI h 0 15)).toInt < 300 then (ob1 (f_X9_isLetter ((eA h 0 2) (((eI h 0 15)).toNatClampNeg))) (fun r_28 => (if r_28 = 0 then (f_X9_next_173 h x2 x4) else (if 9 ≤ x4 then (f_X9_next_156 (f_X9_next_99 n) h x4 x2) else (if 0 ≤ ((eI h 0 15)).toInt ∧ ((eI h 0 15)).toInt < 300 then (f_X9_next_156 (f_X9_next_99 n) h x4 (((64 * x2) + ((((eA h 0 2) (((eI h 0 15)).toNatClampNeg))).toInt64)) - 64)) else none))))) else none)) := rfl
def f_X9_next_52 (h : HS) : Option HS := (if (eI h 0 15) = (eI h 0 14) then (some (sI (sI h 0 16 (eI h 0 15)) 0 17 0)) else (if 0 ≤ ((eI h 0 15)).toInt ∧ ((eI h 0 15)).toInt < 300 then (ob1 (f_X9_isLetter ((eA h 0 2) (((eI h 0 15)).toNatClampNeg))) (fun r_8 => (if r_8 = 0 then (ob1 (f_X9_in ((eA h 0 2) (((eI h 0 15)).toNatClampNeg)) 48 57) (fun r_10 => (if r_10 = 0 then (ob1 (f_X9_in ((eA h 0 2) (((eI h 0 15)).toNatClampNeg)) 59 62) (fun r_12 => (if r_12 = 0 then (ob1 (f_X9_in ((eA h 0 2) (((eI h 0 15)).toNatClampNeg)) 40 45) (fun r_14 => (if r_14 = 0 then (if ((eA h 0 2) (((eI h 0 15)).toNatClampNeg)) = 47 then (f_X9_next_365 (sI (sI (sI h 0 16 (eI h 0 15)) 0 15 ((eI h 0 15) + 1)) 0 18 ((eA h 0 2) (((eI h 0 15)).toNatClampNeg))) ((eA h 0 2) (((eI h 0 15)).toNatClampNeg))) else (if ((eA h 0 2) (((eI h 0 15)).toNatClampNeg)) = 35 then (f_X9_next_365 (sI (sI (sI h 0 16 (eI h 0 15)) 0 15 ((eI h 0 15) + 1)) 0 18 ((eA h 0 2) (((eI h 0 15)).toNatClampNeg))) ((eA h 0 2) (((eI h 0 15)).toNatClampNeg))) else (f_X9_next_370 (sI (sI (sI h 0 16 (eI h 0 15)) 0 15 ((eI h 0 15) + 1)) 0 18 ((eA h 0 2) (((eI h 0 15)).toNatClampNeg))) ((eA h 0 2) (((eI h 0 15)).toNatClampNeg)) 4))) else (f_X9_next_365 (sI (sI (sI h 0 16 (eI h 0 15)) 0 15 ((eI h 0 15) + 1)) 0 18 ((eA h 0 2) (((eI h 0 15)).toNatClampNeg))) ((eA h 0 2) (((eI h 0 15)).toNatClampNeg)))))) else (f_X9_next_365 (sI (sI (sI h 0 16 (eI h 0 15)) 0 15 ((eI h 0 15) + 1)) 0 18 ((eA h 0 2) (((eI h 0 15)).toNatClampNeg))) ((eA h 0 2) (((eI h 0 15)).toNatClampNeg)))))) else (f_X9_next_232 8589934592 (sI (sI (sI h 0 16 (eI h 0 15)) 0 17 2) 0 18 0))))) else (f_X9_next_99 8589934592 (sI h 0 16 (eI h 0 15)) 0 0)))) else none))
def f_X9_next_39 (k0 : HS → Option HS) (h : HS) : Option HS := (k0 (sI h 0 15 ((eI h 0 15) + 1)))
def f_X9_next_0 : Nat → HS → Option HS
  | 0, _ => none
  | n + 1, h => (if (eI h 0 14) ≤ (eI h 0 15) then (f_X9_next_52 h) else (if 0 ≤ ((eI h 0 15)).toInt ∧ ((eI h 0 15)).toInt < 300 then (if ((eA h 0 2) (((eI h 0 15)).toNatClampNeg)) = 32 then (f_X9_next_39 (f_X9_next_0 n) h) else (if 0 ≤ ((eI h 0 15)).toInt ∧ ((eI h 0 15)).toInt < 300 then (if ((eA h 0 2) (((eI h 0 15)).toNatClampNeg)) = 10 then (f_X9_next_39 (f_X9_next_0 n) h) else (f_X9_next_52 h)) else none)) else none))
theorem f_X9_next_0_s (n : Nat) (h : HS) : f_X9_next_0 (n + 1) h = (if (eI h 0 14) ≤ (eI h 0 15) then (f_X9_next_52 h) else (if 0 ≤ ((eI h 0 15)).toInt ∧ ((eI h 0 15)).toInt < 300 then (if ((eA h 0 2) (((eI h 0 15)).toNatClampNeg)) = 32 then (f_X9_next_39 (f_X9_next_0 n) h) else (if 0 ≤ ((eI h 0 15)).toInt ∧ ((eI h 0 15)).toInt < 300 then (if ((eA h 0 2) (((eI h 0 15)).toNatClampNeg)) = 10 then (f_X9_next_39 (f_X9_next_0 n) h) else (f_X9_next_52 h)) else none)) else none)) := rfl
def f_X9_next (h : HS) : Option HS := (f_X9_next_0 8589934592 h)
theorem e_X9_isLetter : yX9_isLetter.cls = RX9 ∧ yX9_isLetter.cls ≠ "java/lang/invoke/MethodHandle" ∧ yX9_isLetter.cls ≠ "java/lang/invoke/VarHandle" ∧ (parseMethodDescriptor yX9_isLetter.desc).map (fun d => d.parameters.length) = some 1 := by decide +kernel
theorem e_X9_wordOf : yX9_wordOf.cls = RX9 ∧ yX9_wordOf.cls ≠ "java/lang/invoke/MethodHandle" ∧ yX9_wordOf.cls ≠ "java/lang/invoke/VarHandle" ∧ (parseMethodDescriptor yX9_wordOf.desc).map (fun d => d.parameters.length) = some 1 := by decide +kernel
set_option maxHeartbeats 4000000 in
set_option maxRecDepth 100000 in
theorem c_X9_next (l : Launch) (G : va_G) (cI cJ cZ cB cT : ClassId) (m0 : Nat) (r : Nat → Nat) (h : HS)  (hh : HS) (hF : f_X9_next h = some hh) : gMv l yX9_next (gws yX9_next cX9_next 5 none) 3 G (gT cI cJ cZ cB cT) [.ref m0] (wM m0 r cI cJ cZ cB cT h) (fun (_ : Unit) => True) (fun (_ : Unit) => (wM m0 r cI cJ cZ cB cT hh)) := by
  intro sz
  refine gM_start (y := yX9_next) (av := [.ref m0]) (ws := (wM m0 r cI cJ cZ cB cT h)) (Qf := fun A => va_Qv (fun (_ : Unit) => True) (gB G (fun (_ : Unit) => (wM m0 r cI cJ cZ cB cT hh)) A) A) (cc := cX9_next) (maxL := 5) (ret := none) (by decide) (Nat.le_of_ble_eq_true rfl) ?_
  intro p e s m args below meth c A ls H hx hb hr hts hown hin hlocks hml hP hK hD hA hS hl hE
  have hl : lv_has ls 5 [(0, .ref m0)] := hl
  have hJ_439 : ∀ (h : HS), f_X9_next_439 h = some hh → ∀ (H : Heap) (locs : List Loc) (ls : Array Slot), va_P G vwCl (wM m0 r cI cJ cZ cB cT h) H → va_D A (wM m0 r cI cJ cZ cB cT h) → va_S A s.heap H locs → lv_has ls 5 [] → W p l e (gRm 3) s m args below meth c H locs 0 0 (MQ below (va_Qv (fun (_ : Unit) => True) (gB G (fun (_ : Unit) => (wM m0 r cI cJ cZ cB cT hh)) A) A) args s 0 0 A) (F0 m 439 ls []) := by
    intro h hF H locs ls hP hD hS hl
    unfold f_X9_next_439 at hF
    obtain rfl := ob_one hF
    exact gw_vret () hx hb hr hlocks hP hD hS trivial dX9_next_439
  have hJ_426 : ∀ (h : HS) (y0 : Int32), f_X9_next_426 h y0 = some hh → ∀ (H : Heap) (locs : List Loc) (ls : Array Slot), va_P G vwCl (wM m0 r cI cJ cZ cB cT h) H → va_D A (wM m0 r cI cJ cZ cB cT h) → va_S A s.heap H locs → lv_has ls 5 [(0, .ref m0)] → W p l e (gRm 3) s m args below meth c H locs 0 0 (MQ below (va_Qv (fun (_ : Unit) => True) (gB G (fun (_ : Unit) => (wM m0 r cI cJ cZ cB cT hh)) A) A) args s 0 0 A) (F0 m 426 ls [.int y0, .ref m0]) := by
    intro h y0 hF H locs ls hP hD hS hl
    unfold f_X9_next_426 at hF
    refine va_put (D := G) (ci := 9) (v := .int y0) (ty := .int) (C := RX9) (T := TX9) (N := 53) hx hb hts iX9 tyX9 tyX9_ok nmX9 hown hK hP hD hS 0 wM_at0 rfl 18 (by decide) (hts _ m_130) (fun _ h9 => h9) rfl (tyX9_ok 18 (by decide)) rfl rfl (Nat.le_of_ble_eq_true rfl) dX9_next_426 (fun H locs hP hD hS => ?_)
    rw [wM_sI0_18] at hP hD
    refine lv_aload_n hx hb dX9_next_429 rfl (lv_at hl 0 rfl) ?_
    refine lv_dup hx hb dX9_next_430 rfl ?_
    refine va_get (D := G) (ci := 9) (v := .int (eI h 0 15)) (C := RX9) (T := TX9) (N := 53) hx hb hts iX9 hown hK hP 0 wM_at0 rfl 15 (by decide) (hts _ m_124) (fun _ h9 => h9) rfl dX9_next_431 ?_
    refine lv_iconst (v := 1) hx hb dX9_next_434 (by decide) ?_
    refine lv_iadd hx hb dX9_next_435 ?_
    refine va_put (D := G) (ci := 9) (v := .int ((eI h 0 15) + 1)) (ty := .int) (C := RX9) (T := TX9) (N := 53) hx hb hts iX9 tyX9 tyX9_ok nmX9 hown hK hP hD hS 0 wM_at0 rfl 15 (by decide) (hts _ m_124) (fun _ h9 => h9) rfl (tyX9_ok 15 (by decide)) rfl rfl (Nat.le_of_ble_eq_true rfl) dX9_next_436 (fun H locs hP hD hS => ?_)
    rw [wM_sI0_15] at hP hD
    exact hJ_439 (sI (sI h 0 18 y0) 0 15 ((eI h 0 15) + 1)) hF H _ ls hP hD hS (lv_sub hl [] rfl)
  have hJ_385 : ∀ (h : HS) (x1 : Int32), f_X9_next_385 h x1 = some hh → ∀ (H : Heap) (locs : List Loc) (ls : Array Slot), va_P G vwCl (wM m0 r cI cJ cZ cB cT h) H → va_D A (wM m0 r cI cJ cZ cB cT h) → va_S A s.heap H locs → lv_has ls 5 [(0, .ref m0), (1, .int x1)] → W p l e (gRm 3) s m args below meth c H locs 0 0 (MQ below (va_Qv (fun (_ : Unit) => True) (gB G (fun (_ : Unit) => (wM m0 r cI cJ cZ cB cT hh)) A) A) args s 0 0 A) (F0 m 385 ls []) := by
    intro h x1 hF H locs ls hP hD hS hl
    unfold f_X9_next_385 at hF
    refine lv_aload_n hx hb dX9_next_385 rfl (lv_at hl 0 rfl) ?_
    refine va_get (D := G) (ci := 9) (v := .int (eI h 0 15)) (C := RX9) (T := TX9) (N := 53) hx hb hts iX9 hown hK hP 0 wM_at0 rfl 15 (by decide) (hts _ m_124) (fun _ h9 => h9) rfl dX9_next_386 ?_
    refine lv_aload_n hx hb dX9_next_389 rfl (lv_at hl 0 rfl) ?_
    refine va_get (D := G) (ci := 9) (v := .int (eI h 0 14)) (C := RX9) (T := TX9) (N := 53) hx hb hts iX9 hown hK hP 0 wM_at0 rfl 14 (by decide) (hts _ m_125) (fun _ h9 => h9) rfl dX9_next_390 ?_
    refine lv_icmp_ge (tgt := 439) hx hb dX9_next_393 (by decide) (fun c_32 => ?_) (fun c_32 => ?_)
    · have hF := ob_pos c_32 hF
      exact hJ_439 h hF H _ ls hP hD hS (lv_sub hl [] rfl)
    · have hF := ob_neg c_32 hF
      refine lv_aload_n hx hb dX9_next_396 rfl (lv_at hl 0 rfl) ?_
      refine va_get (D := G) (ci := 9) (v := .ref (r 2)) (C := RX9) (T := TX9) (N := 53) hx hb hts iX9 hown hK hP 0 wM_at0 rfl 2 (by decide) (hts _ m_106) (fun _ h9 => h9) rfl dX9_next_397 ?_
      refine lv_aload_n hx hb dX9_next_400 rfl (lv_at hl 0 rfl) ?_
      refine va_get (D := G) (ci := 9) (v := .int (eI h 0 15)) (C := RX9) (T := TX9) (N := 53) hx hb hts iX9 hown hK hP 0 wM_at0 rfl 15 (by decide) (hts _ m_124) (fun _ h9 => h9) rfl dX9_next_401 ?_
      obtain ⟨hi_33, hF⟩ := ob_if hF
      refine va_bald (D := G) hx hb hK hP 3 3 wM_at3 rfl (vp_in_iff.mpr hi_33) dX9_next_404 ?_
      refine gw_topi (y := ((eA h 0 2) (((eI h 0 15)).toNatClampNeg))) rfl ?_
      refine lv_bipush (v := 61) hx hb dX9_next_405 (by decide) ?_
      refine lv_icmp_ne (tgt := 439) hx hb dX9_next_407 (by decide) (fun c_34 => ?_) (fun c_34 => ?_)
      · have hF := ob_neg c_34 hF
        exact hJ_439 h hF H _ ls hP hD hS (lv_sub hl [] rfl)
      · have hF := ob_pos c_34 hF
        refine lv_aload_n hx hb dX9_next_410 rfl (lv_at hl 0 rfl) ?_
        refine lv_iload_n hx hb dX9_next_411 rfl (lv_at hl 1 rfl) ?_
        refine lv_bipush (v := 60) hx hb dX9_next_412 (by decide) ?_
        refine lv_icmp_ne (tgt := 423) hx hb dX9_next_414 (by decide) (fun c_35 => ?_) (fun c_35 => ?_)
        · have hF := ob_neg c_35 hF
          refine lv_sipush (v := 301) hx hb dX9_next_423 (by decide) ?_
          exact hJ_426 h 301 hF H _ ls hP hD hS (lv_sub hl [0] rfl)
        · have hF := ob_pos c_35 hF
          refine lv_sipush (v := 300) hx hb dX9_next_417 (by decide) ?_
          refine lv_goto (tgt := 426) hx hb dX9_next_420 (by decide) ?_
          exact hJ_426 h 300 hF H _ ls hP hD hS (lv_sub hl [0] rfl)
  have hJ_370 : ∀ (h : HS) (x1 : Int32) (y0 : Int32), f_X9_next_370 h x1 y0 = some hh → ∀ (H : Heap) (locs : List Loc) (ls : Array Slot), va_P G vwCl (wM m0 r cI cJ cZ cB cT h) H → va_D A (wM m0 r cI cJ cZ cB cT h) → va_S A s.heap H locs → lv_has ls 5 [(0, .ref m0), (1, .int x1)] → W p l e (gRm 3) s m args below meth c H locs 0 0 (MQ below (va_Qv (fun (_ : Unit) => True) (gB G (fun (_ : Unit) => (wM m0 r cI cJ cZ cB cT hh)) A) A) args s 0 0 A) (F0 m 370 ls [.int y0, .ref m0]) := by
    intro h x1 y0 hF H locs ls hP hD hS hl
    unfold f_X9_next_370 at hF
    refine va_put (D := G) (ci := 9) (v := .int y0) (ty := .int) (C := RX9) (T := TX9) (N := 53) hx hb hts iX9 tyX9 tyX9_ok nmX9 hown hK hP hD hS 0 wM_at0 rfl 17 (by decide) (hts _ m_131) (fun _ h9 => h9) rfl (tyX9_ok 17 (by decide)) rfl rfl (Nat.le_of_ble_eq_true rfl) dX9_next_370 (fun H locs hP hD hS => ?_)
    rw [wM_sI0_17] at hP hD
    refine lv_iload_n hx hb dX9_next_373 rfl (lv_at hl 1 rfl) ?_
    refine lv_bipush (v := 60) hx hb dX9_next_374 (by decide) ?_
    refine lv_icmp_eq (tgt := 385) hx hb dX9_next_376 (by decide) (fun c_18 => ?_) (fun c_18 => ?_)
    · have hF := ob_pos c_18 hF
      exact hJ_385 (sI h 0 17 y0) x1 hF H _ ls hP hD hS (lv_sub hl [0, 1] rfl)
    · have hF := ob_neg c_18 hF
      refine lv_iload_n hx hb dX9_next_379 rfl (lv_at hl 1 rfl) ?_
      refine lv_bipush (v := 62) hx hb dX9_next_380 (by decide) ?_
      refine lv_icmp_ne (tgt := 439) hx hb dX9_next_382 (by decide) (fun c_19 => ?_) (fun c_19 => ?_)
      · have hF := ob_neg c_19 hF
        exact hJ_439 (sI h 0 17 y0) hF H _ ls hP hD hS (lv_sub hl [] rfl)
      · have hF := ob_pos c_19 hF
        exact hJ_385 (sI h 0 17 y0) x1 hF H _ ls hP hD hS (lv_sub hl [0, 1] rfl)
  have hJ_365 : ∀ (h : HS) (x1 : Int32), f_X9_next_365 h x1 = some hh → ∀ (H : Heap) (locs : List Loc) (ls : Array Slot), va_P G vwCl (wM m0 r cI cJ cZ cB cT h) H → va_D A (wM m0 r cI cJ cZ cB cT h) → va_S A s.heap H locs → lv_has ls 5 [(0, .ref m0), (1, .int x1)] → W p l e (gRm 3) s m args below meth c H locs 0 0 (MQ below (va_Qv (fun (_ : Unit) => True) (gB G (fun (_ : Unit) => (wM m0 r cI cJ cZ cB cT hh)) A) A) args s 0 0 A) (F0 m 365 ls [.ref m0]) := by
    intro h x1 hF H locs ls hP hD hS hl
    unfold f_X9_next_365 at hF
    refine lv_iconst (v := 3) hx hb dX9_next_365 (by decide) ?_
    refine lv_goto (tgt := 370) hx hb dX9_next_366 (by decide) ?_
    exact hJ_370 h x1 3 hF H _ ls hP hD hS (lv_sub hl [0, 1] rfl)
  have hJ_232 : ∀ (n_232 : Nat) (h : HS), f_X9_next_232 n_232 h = some hh → ∀ (H : Heap) (locs : List Loc) (ls : Array Slot), va_P G vwCl (wM m0 r cI cJ cZ cB cT h) H → va_D A (wM m0 r cI cJ cZ cB cT h) → va_S A s.heap H locs → lv_has ls 5 [(0, .ref m0)] → W p l e (gRm 3) s m args below meth c H locs 0 0 (MQ below (va_Qv (fun (_ : Unit) => True) (gB G (fun (_ : Unit) => (wM m0 r cI cJ cZ cB cT hh)) A) A) args s 0 0 A) (F0 m 232 ls []) := by
    intro n_232
    induction n_232 with
    | zero =>
      intro h hF
      exact absurd hF (by simp [f_X9_next_232])
    | succ n_232 ih_232 =>
      have hJ_299 : ∀ (h : HS) (y0 : Int32), f_X9_next_299 (f_X9_next_232 n_232) h y0 = some hh → ∀ (H : Heap) (locs : List Loc) (ls : Array Slot), va_P G vwCl (wM m0 r cI cJ cZ cB cT h) H → va_D A (wM m0 r cI cJ cZ cB cT h) → va_S A s.heap H locs → lv_has ls 5 [(0, .ref m0)] → W p l e (gRm 3) s m args below meth c H locs 0 0 (MQ below (va_Qv (fun (_ : Unit) => True) (gB G (fun (_ : Unit) => (wM m0 r cI cJ cZ cB cT hh)) A) A) args s 0 0 A) (F0 m 299 ls [.int y0, .ref m0]) := by
        intro h y0 hF H locs ls hP hD hS hl
        unfold f_X9_next_299 at hF
        refine va_put (D := G) (ci := 9) (v := .int y0) (ty := .int) (C := RX9) (T := TX9) (N := 53) hx hb hts iX9 tyX9 tyX9_ok nmX9 hown hK hP hD hS 0 wM_at0 rfl 18 (by decide) (hts _ m_130) (fun _ h9 => h9) rfl (tyX9_ok 18 (by decide)) rfl rfl (Nat.le_of_ble_eq_true rfl) dX9_next_299 (fun H locs hP hD hS => ?_)
        rw [wM_sI0_18] at hP hD
        refine lv_aload_n hx hb dX9_next_302 rfl (lv_at hl 0 rfl) ?_
        refine lv_dup hx hb dX9_next_303 rfl ?_
        refine va_get (D := G) (ci := 9) (v := .int (eI h 0 15)) (C := RX9) (T := TX9) (N := 53) hx hb hts iX9 hown hK hP 0 wM_at0 rfl 15 (by decide) (hts _ m_124) (fun _ h9 => h9) rfl dX9_next_304 ?_
        refine lv_iconst (v := 1) hx hb dX9_next_307 (by decide) ?_
        refine lv_iadd hx hb dX9_next_308 ?_
        refine va_put (D := G) (ci := 9) (v := .int ((eI h 0 15) + 1)) (ty := .int) (C := RX9) (T := TX9) (N := 53) hx hb hts iX9 tyX9 tyX9_ok nmX9 hown hK hP hD hS 0 wM_at0 rfl 15 (by decide) (hts _ m_124) (fun _ h9 => h9) rfl (tyX9_ok 15 (by decide)) rfl rfl (Nat.le_of_ble_eq_true rfl) dX9_next_309 (fun H locs hP hD hS => ?_)
        rw [wM_sI0_15] at hP hD
        refine lv_goto (tgt := 232) hx hb dX9_next_312 (by decide) ?_
        exact ih_232 (sI (sI h 0 18 y0) 0 15 ((eI h 0 15) + 1)) hF H _ ls hP hD hS (lv_sub hl [0] rfl)
      intro h hF H locs ls hP hD hS hl
      rw [f_X9_next_232_s] at hF
      refine lv_aload_n hx hb dX9_next_232 rfl (lv_at hl 0 rfl) ?_
      refine va_get (D := G) (ci := 9) (v := .int (eI h 0 15)) (C := RX9) (T := TX9) (N := 53) hx hb hts iX9 hown hK hP 0 wM_at0 rfl 15 (by decide) (hts _ m_124) (fun _ h9 => h9) rfl dX9_next_233 ?_
      refine lv_aload_n hx hb dX9_next_236 rfl (lv_at hl 0 rfl) ?_
      refine va_get (D := G) (ci := 9) (v := .int (eI h 0 14)) (C := RX9) (T := TX9) (N := 53) hx hb hts iX9 hown hK hP 0 wM_at0 rfl 14 (by decide) (hts _ m_125) (fun _ h9 => h9) rfl dX9_next_237 ?_
      refine lv_icmp_ge (tgt := 439) hx hb dX9_next_240 (by decide) (fun c_20 => ?_) (fun c_20 => ?_)
      · have hF := ob_pos c_20 hF
        exact hJ_439 h hF H _ ls hP hD hS (lv_sub hl [] rfl)
      · have hF := ob_neg c_20 hF
        refine lv_aload_n hx hb dX9_next_243 rfl (lv_at hl 0 rfl) ?_
        refine va_get (D := G) (ci := 9) (v := .ref (r 2)) (C := RX9) (T := TX9) (N := 53) hx hb hts iX9 hown hK hP 0 wM_at0 rfl 2 (by decide) (hts _ m_106) (fun _ h9 => h9) rfl dX9_next_244 ?_
        refine lv_aload_n hx hb dX9_next_247 rfl (lv_at hl 0 rfl) ?_
        refine va_get (D := G) (ci := 9) (v := .int (eI h 0 15)) (C := RX9) (T := TX9) (N := 53) hx hb hts iX9 hown hK hP 0 wM_at0 rfl 15 (by decide) (hts _ m_124) (fun _ h9 => h9) rfl dX9_next_248 ?_
        obtain ⟨hi_21, hF⟩ := ob_if hF
        refine va_bald (D := G) hx hb hK hP 3 3 wM_at3 rfl (vp_in_iff.mpr hi_21) dX9_next_251 ?_
        refine gw_topi (y := ((eA h 0 2) (((eI h 0 15)).toNatClampNeg))) rfl ?_
        refine lv_bipush (v := 48) hx hb dX9_next_252 (by decide) ?_
        refine lv_bipush (v := 57) hx hb dX9_next_254 (by decide) ?_
        obtain ⟨r_22, e_22, hF⟩ := ob1_some hF
        refine gx_calli0 (gx_runS0 (As := [.int ((eA h 0 2) (((eI h 0 15)).toNatClampNeg)), .int 48, .int 57]) (rest := []) ⟨hx, hb, hml, hown, hts⟩ (c_X9_in l G cI cJ cZ cB cT   ((eA h 0 2) (((eI h 0 15)).toNatClampNeg)) 48 57 r_22 e_22 H.size) (gG_S m_62 m_63 m_64 m_61) rfl e_X9_in ⟨Nat.le_of_ble_eq_true rfl, Nat.le_of_ble_eq_true rfl⟩ hK hE hS hA rfl hl.1 rfl (Nat.le_of_ble_eq_true rfl) dX9_next_256 ⟨Nat.le_refl _, Nat.le_refl _⟩) hP hD hS hA (fun x_22 u_22 H locs hw_22 hP hD hS => ?_)
        subst x_22
        refine lv_if_eq (tgt := 439) hx hb dX9_next_259 (by decide) (fun c_23 => ?_) (fun c_23 => ?_)
        · have hF := ob_pos c_23 hF
          exact hJ_439 h hF H _ ls hP hD hS (lv_sub hl [] rfl)
        · have hF := ob_neg c_23 hF
          refine lv_aload_n hx hb dX9_next_262 rfl (lv_at hl 0 rfl) ?_
          refine lv_aload_n hx hb dX9_next_263 rfl (lv_at hl 0 rfl) ?_
          refine va_get (D := G) (ci := 9) (v := .int (eI h 0 18)) (C := RX9) (T := TX9) (N := 53) hx hb hts iX9 hown hK hP 0 wM_at0 rfl 18 (by decide) (hts _ m_130) (fun _ h9 => h9) rfl dX9_next_264 ?_
          refine lv_ldc (v := 99999) hx hb hown (hts _ m_132) dX9_next_267 ?_
          refine lv_icmp_le (tgt := 279) hx hb dX9_next_269 (by decide) (fun c_24 => ?_) (fun c_24 => ?_)
          · have hF := ob_pos c_24 hF
            refine lv_bipush (v := 10) hx hb dX9_next_279 (by decide) ?_
            refine lv_aload_n hx hb dX9_next_281 rfl (lv_at hl 0 rfl) ?_
            refine va_get (D := G) (ci := 9) (v := .int (eI h 0 18)) (C := RX9) (T := TX9) (N := 53) hx hb hts iX9 hown hK hP 0 wM_at0 rfl 18 (by decide) (hts _ m_130) (fun _ h9 => h9) rfl dX9_next_282 ?_
            refine lv_imul hx hb dX9_next_285 ?_
            refine lv_aload_n hx hb dX9_next_286 rfl (lv_at hl 0 rfl) ?_
            refine va_get (D := G) (ci := 9) (v := .ref (r 2)) (C := RX9) (T := TX9) (N := 53) hx hb hts iX9 hown hK hP 0 wM_at0 rfl 2 (by decide) (hts _ m_106) (fun _ h9 => h9) rfl dX9_next_287 ?_
            refine lv_aload_n hx hb dX9_next_290 rfl (lv_at hl 0 rfl) ?_
            refine va_get (D := G) (ci := 9) (v := .int (eI h 0 15)) (C := RX9) (T := TX9) (N := 53) hx hb hts iX9 hown hK hP 0 wM_at0 rfl 15 (by decide) (hts _ m_124) (fun _ h9 => h9) rfl dX9_next_291 ?_
            obtain ⟨hi_25, hF⟩ := ob_if hF
            refine va_bald (D := G) hx hb hK hP 3 3 wM_at3 rfl (vp_in_iff.mpr hi_25) dX9_next_294 ?_
            refine gw_topi (y := ((eA h 0 2) (((eI h 0 15)).toNatClampNeg))) rfl ?_
            refine lv_iadd hx hb dX9_next_295 ?_
            refine lv_bipush (v := 48) hx hb dX9_next_296 (by decide) ?_
            refine lv_isub hx hb dX9_next_298 ?_
            exact hJ_299 h (((10 * (eI h 0 18)) + ((eA h 0 2) (((eI h 0 15)).toNatClampNeg))) - 48) hF H _ ls hP hD hS (lv_sub hl [0] rfl)
          · have hF := ob_neg c_24 hF
            refine lv_aload_n hx hb dX9_next_272 rfl (lv_at hl 0 rfl) ?_
            refine va_get (D := G) (ci := 9) (v := .int (eI h 0 18)) (C := RX9) (T := TX9) (N := 53) hx hb hts iX9 hown hK hP 0 wM_at0 rfl 18 (by decide) (hts _ m_130) (fun _ h9 => h9) rfl dX9_next_273 ?_
            refine lv_goto (tgt := 299) hx hb dX9_next_276 (by decide) ?_
            exact hJ_299 h (eI h 0 18) hF H _ ls hP hD hS (lv_sub hl [0] rfl)
  have hJ_205 : ∀ (h : HS) (y0 : Int32), f_X9_next_205 h y0 = some hh → ∀ (H : Heap) (locs : List Loc) (ls : Array Slot), va_P G vwCl (wM m0 r cI cJ cZ cB cT h) H → va_D A (wM m0 r cI cJ cZ cB cT h) → va_S A s.heap H locs → lv_has ls 5 [] → W p l e (gRm 3) s m args below meth c H locs 0 0 (MQ below (va_Qv (fun (_ : Unit) => True) (gB G (fun (_ : Unit) => (wM m0 r cI cJ cZ cB cT hh)) A) A) args s 0 0 A) (F0 m 205 ls [.int y0, .ref m0]) := by
    intro h y0 hF H locs ls hP hD hS hl
    unfold f_X9_next_205 at hF
    refine va_put (D := G) (ci := 9) (v := .int y0) (ty := .int) (C := RX9) (T := TX9) (N := 53) hx hb hts iX9 tyX9 tyX9_ok nmX9 hown hK hP hD hS 0 wM_at0 rfl 17 (by decide) (hts _ m_131) (fun _ h9 => h9) rfl (tyX9_ok 17 (by decide)) rfl rfl (Nat.le_of_ble_eq_true rfl) dX9_next_205 (fun H locs hP hD hS => ?_)
    rw [wM_sI0_17] at hP hD
    refine lv_goto (tgt := 439) hx hb dX9_next_208 (by decide) ?_
    exact hJ_439 (sI h 0 17 y0) hF H _ ls hP hD hS (lv_sub hl [] rfl)
  have hJ_189 : ∀ (h : HS) (y0 : Int32), f_X9_next_189 h y0 = some hh → ∀ (H : Heap) (locs : List Loc) (ls : Array Slot), va_P G vwCl (wM m0 r cI cJ cZ cB cT h) H → va_D A (wM m0 r cI cJ cZ cB cT h) → va_S A s.heap H locs → lv_has ls 5 [(0, .ref m0)] → W p l e (gRm 3) s m args below meth c H locs 0 0 (MQ below (va_Qv (fun (_ : Unit) => True) (gB G (fun (_ : Unit) => (wM m0 r cI cJ cZ cB cT hh)) A) A) args s 0 0 A) (F0 m 189 ls [.int y0, .ref m0]) := by
    intro h y0 hF H locs ls hP hD hS hl
    unfold f_X9_next_189 at hF
    refine va_put (D := G) (ci := 9) (v := .int y0) (ty := .int) (C := RX9) (T := TX9) (N := 53) hx hb hts iX9 tyX9 tyX9_ok nmX9 hown hK hP hD hS 0 wM_at0 rfl 18 (by decide) (hts _ m_130) (fun _ h9 => h9) rfl (tyX9_ok 18 (by decide)) rfl rfl (Nat.le_of_ble_eq_true rfl) dX9_next_189 (fun H locs hP hD hS => ?_)
    rw [wM_sI0_18] at hP hD
    refine lv_aload_n hx hb dX9_next_192 rfl (lv_at hl 0 rfl) ?_
    refine lv_aload_n hx hb dX9_next_193 rfl (lv_at hl 0 rfl) ?_
    refine va_get (D := G) (ci := 9) (v := .int y0) (C := RX9) (T := TX9) (N := 53) hx hb hts iX9 hown hK hP 0 wM_at0 rfl 18 (by decide) (hts _ m_130) (fun _ h9 => h9) rfl dX9_next_194 ?_
    refine lv_if_ge (tgt := 204) hx hb dX9_next_197 (by decide) (fun c_38 => ?_) (fun c_38 => ?_)
    · have hF := ob_pos c_38 hF
      refine lv_iconst (v := 1) hx hb dX9_next_204 (by decide) ?_
      exact hJ_205 (sI h 0 18 y0) 1 hF H _ ls hP hD hS (lv_sub hl [] rfl)
    · have hF := ob_neg c_38 hF
      refine lv_iconst (v := 4) hx hb dX9_next_200 (by decide) ?_
      refine lv_goto (tgt := 205) hx hb dX9_next_201 (by decide) ?_
      exact hJ_205 (sI h 0 18 y0) 4 hF H _ ls hP hD hS (lv_sub hl [] rfl)
  have hJ_173 : ∀ (h : HS) (x2 : Int64) (x4 : Int32), f_X9_next_173 h x2 x4 = some hh → ∀ (H : Heap) (locs : List Loc) (ls : Array Slot), va_P G vwCl (wM m0 r cI cJ cZ cB cT h) H → va_D A (wM m0 r cI cJ cZ cB cT h) → va_S A s.heap H locs → lv_has ls 5 [(0, .ref m0), (2, .long x2), (4, .int x4)] → W p l e (gRm 3) s m args below meth c H locs 0 0 (MQ below (va_Qv (fun (_ : Unit) => True) (gB G (fun (_ : Unit) => (wM m0 r cI cJ cZ cB cT hh)) A) A) args s 0 0 A) (F0 m 173 ls []) := by
    intro h x2 x4 hF H locs ls hP hD hS hl
    unfold f_X9_next_173 at hF
    refine lv_aload_n hx hb dX9_next_173 rfl (lv_at hl 0 rfl) ?_
    refine lv_iload hx hb dX9_next_174 (lv_at hl 2 rfl) ?_
    refine lv_bipush (v := 8) hx hb dX9_next_176 (by decide) ?_
    refine lv_icmp_le (tgt := 185) hx hb dX9_next_178 (by decide) (fun c_36 => ?_) (fun c_36 => ?_)
    · have hF := ob_pos c_36 hF
      refine lv_lload_n hx hb dX9_next_185 rfl (lv_at hl 1 rfl) ?_
      obtain ⟨r_37, e_37, hF⟩ := ob1_some hF
      refine gx_calli0 (gx_runS0 (As := [.long x2]) (rest := [.ref m0]) ⟨hx, hb, hml, hown, hts⟩ (c_X9_wordOf l G cI cJ cZ cB cT   x2 r_37 e_37 H.size) (gG_S m_135 m_136 m_64 m_134) rfl e_X9_wordOf ⟨Nat.le_of_ble_eq_true rfl, Nat.le_of_ble_eq_true rfl⟩ hK hE hS hA rfl hl.1 rfl (Nat.le_of_ble_eq_true rfl) dX9_next_186 ⟨Nat.le_refl _, Nat.le_refl _⟩) hP hD hS hA (fun x_37 u_37 H locs hw_37 hP hD hS => ?_)
      subst x_37
      exact hJ_189 h r_37 hF H _ ls hP hD hS (lv_sub hl [0] rfl)
    · have hF := ob_neg c_36 hF
      refine lv_iconst (v := (-1)) hx hb dX9_next_181 (by decide) ?_
      refine lv_goto (tgt := 189) hx hb dX9_next_182 (by decide) ?_
      exact hJ_189 h (-1) hF H _ ls hP hD hS (lv_sub hl [0] rfl)
  have hJ_99 : ∀ (n_99 : Nat) (h : HS) (x2 : Int64) (x4 : Int32), f_X9_next_99 n_99 h x2 x4 = some hh → ∀ (H : Heap) (locs : List Loc) (ls : Array Slot), va_P G vwCl (wM m0 r cI cJ cZ cB cT h) H → va_D A (wM m0 r cI cJ cZ cB cT h) → va_S A s.heap H locs → lv_has ls 5 [(0, .ref m0), (2, .long x2), (4, .int x4)] → W p l e (gRm 3) s m args below meth c H locs 0 0 (MQ below (va_Qv (fun (_ : Unit) => True) (gB G (fun (_ : Unit) => (wM m0 r cI cJ cZ cB cT hh)) A) A) args s 0 0 A) (F0 m 99 ls []) := by
    intro n_99
    induction n_99 with
    | zero =>
      intro h x2 x4 hF
      exact absurd hF (by simp [f_X9_next_99])
    | succ n_99 ih_99 =>
      have hJ_156 : ∀ (h : HS) (x4 : Int32) (y0 : Int64), f_X9_next_156 (f_X9_next_99 n_99) h x4 y0 = some hh → ∀ (H : Heap) (locs : List Loc) (ls : Array Slot), va_P G vwCl (wM m0 r cI cJ cZ cB cT h) H → va_D A (wM m0 r cI cJ cZ cB cT h) → va_S A s.heap H locs → lv_has ls 5 [(0, .ref m0), (4, .int x4)] → W p l e (gRm 3) s m args below meth c H locs 0 0 (MQ below (va_Qv (fun (_ : Unit) => True) (gB G (fun (_ : Unit) => (wM m0 r cI cJ cZ cB cT hh)) A) A) args s 0 0 A) (F0 m 156 ls [.long y0]) := by
        intro h x4 y0 hF H locs ls hP hD hS hl
        unfold f_X9_next_156 at hF
        refine lv_lstore_n (lv' := [(2, .long y0), (0, .ref m0), (4, .int x4)]) hx hb dX9_next_156 rfl hl (by decide) rfl (fun ls hl => ?_)
        refine lv_iinc (v := (x4 + 1)) (lv' := [(4, .int (x4 + 1)), (2, .long y0), (0, .ref m0)]) hx hb dX9_next_157 hl (k := 2) rfl rfl (by decide) rfl (fun ls hl => ?_)
        refine lv_aload_n hx hb dX9_next_160 rfl (lv_at hl 2 rfl) ?_
        refine lv_dup hx hb dX9_next_161 rfl ?_
        refine va_get (D := G) (ci := 9) (v := .int (eI h 0 15)) (C := RX9) (T := TX9) (N := 53) hx hb hts iX9 hown hK hP 0 wM_at0 rfl 15 (by decide) (hts _ m_124) (fun _ h9 => h9) rfl dX9_next_162 ?_
        refine lv_iconst (v := 1) hx hb dX9_next_165 (by decide) ?_
        refine lv_iadd hx hb dX9_next_166 ?_
        refine va_put (D := G) (ci := 9) (v := .int ((eI h 0 15) + 1)) (ty := .int) (C := RX9) (T := TX9) (N := 53) hx hb hts iX9 tyX9 tyX9_ok nmX9 hown hK hP hD hS 0 wM_at0 rfl 15 (by decide) (hts _ m_124) (fun _ h9 => h9) rfl (tyX9_ok 15 (by decide)) rfl rfl (Nat.le_of_ble_eq_true rfl) dX9_next_167 (fun H locs hP hD hS => ?_)
        rw [wM_sI0_15] at hP hD
        refine lv_goto (tgt := 99) hx hb dX9_next_170 (by decide) ?_
        exact ih_99 (sI h 0 15 ((eI h 0 15) + 1)) y0 (x4 + 1) hF H _ ls hP hD hS (lv_sub hl [2, 1, 0] rfl)
      intro h x2 x4 hF H locs ls hP hD hS hl
      rw [f_X9_next_99_s] at hF
      refine lv_aload_n hx hb dX9_next_99 rfl (lv_at hl 0 rfl) ?_
      refine va_get (D := G) (ci := 9) (v := .int (eI h 0 15)) (C := RX9) (T := TX9) (N := 53) hx hb hts iX9 hown hK hP 0 wM_at0 rfl 15 (by decide) (hts _ m_124) (fun _ h9 => h9) rfl dX9_next_100 ?_
      refine lv_aload_n hx hb dX9_next_103 rfl (lv_at hl 0 rfl) ?_
      refine va_get (D := G) (ci := 9) (v := .int (eI h 0 14)) (C := RX9) (T := TX9) (N := 53) hx hb hts iX9 hown hK hP 0 wM_at0 rfl 14 (by decide) (hts _ m_125) (fun _ h9 => h9) rfl dX9_next_104 ?_
      refine lv_icmp_ge (tgt := 173) hx hb dX9_next_107 (by decide) (fun c_26 => ?_) (fun c_26 => ?_)
      · have hF := ob_pos c_26 hF
        exact hJ_173 h x2 x4 hF H _ ls hP hD hS (lv_sub hl [0, 1, 2] rfl)
      · have hF := ob_neg c_26 hF
        refine lv_aload_n hx hb dX9_next_110 rfl (lv_at hl 0 rfl) ?_
        refine va_get (D := G) (ci := 9) (v := .ref (r 2)) (C := RX9) (T := TX9) (N := 53) hx hb hts iX9 hown hK hP 0 wM_at0 rfl 2 (by decide) (hts _ m_106) (fun _ h9 => h9) rfl dX9_next_111 ?_
        refine lv_aload_n hx hb dX9_next_114 rfl (lv_at hl 0 rfl) ?_
        refine va_get (D := G) (ci := 9) (v := .int (eI h 0 15)) (C := RX9) (T := TX9) (N := 53) hx hb hts iX9 hown hK hP 0 wM_at0 rfl 15 (by decide) (hts _ m_124) (fun _ h9 => h9) rfl dX9_next_115 ?_
        obtain ⟨hi_27, hF⟩ := ob_if hF
        refine va_bald (D := G) hx hb hK hP 3 3 wM_at3 rfl (vp_in_iff.mpr hi_27) dX9_next_118 ?_
        refine gw_topi (y := ((eA h 0 2) (((eI h 0 15)).toNatClampNeg))) rfl ?_
        obtain ⟨r_28, e_28, hF⟩ := ob1_some hF
        refine gx_calli0 (gx_runS0 (As := [.int ((eA h 0 2) (((eI h 0 15)).toNatClampNeg))]) (rest := []) ⟨hx, hb, hml, hown, hts⟩ (c_X9_isLetter l G cI cJ cZ cB cT   ((eA h 0 2) (((eI h 0 15)).toNatClampNeg)) r_28 e_28 H.size) (gG_S m_128 m_129 m_64 m_127) rfl e_X9_isLetter ⟨Nat.le_of_ble_eq_true rfl, Nat.le_of_ble_eq_true rfl⟩ hK hE hS hA rfl hl.1 rfl (Nat.le_of_ble_eq_true rfl) dX9_next_119 ⟨Nat.le_refl _, Nat.le_refl _⟩) hP hD hS hA (fun x_28 u_28 H locs hw_28 hP hD hS => ?_)
        subst x_28
        refine lv_if_eq (tgt := 173) hx hb dX9_next_122 (by decide) (fun c_29 => ?_) (fun c_29 => ?_)
        · have hF := ob_pos c_29 hF
          exact hJ_173 h x2 x4 hF H _ ls hP hD hS (lv_sub hl [0, 1, 2] rfl)
        · have hF := ob_neg c_29 hF
          refine lv_iload hx hb dX9_next_125 (lv_at hl 2 rfl) ?_
          refine lv_bipush (v := 9) hx hb dX9_next_127 (by decide) ?_
          refine lv_icmp_ge (tgt := 155) hx hb dX9_next_129 (by decide) (fun c_30 => ?_) (fun c_30 => ?_)
          · have hF := ob_pos c_30 hF
            refine lv_lload_n hx hb dX9_next_155 rfl (lv_at hl 1 rfl) ?_
            exact hJ_156 h x4 x2 hF H _ ls hP hD hS (lv_sub hl [0, 2] rfl)
          · have hF := ob_neg c_30 hF
            refine lv_ldc2 (v := 64) hx hb hown (hts _ m_133) dX9_next_132 ?_
            refine lv_lload_n hx hb dX9_next_135 rfl (lv_at hl 1 rfl) ?_
            refine lv_lmul hx hb dX9_next_136 ?_
            refine lv_aload_n hx hb dX9_next_137 rfl (lv_at hl 0 rfl) ?_
            refine va_get (D := G) (ci := 9) (v := .ref (r 2)) (C := RX9) (T := TX9) (N := 53) hx hb hts iX9 hown hK hP 0 wM_at0 rfl 2 (by decide) (hts _ m_106) (fun _ h9 => h9) rfl dX9_next_138 ?_
            refine lv_aload_n hx hb dX9_next_141 rfl (lv_at hl 0 rfl) ?_
            refine va_get (D := G) (ci := 9) (v := .int (eI h 0 15)) (C := RX9) (T := TX9) (N := 53) hx hb hts iX9 hown hK hP 0 wM_at0 rfl 15 (by decide) (hts _ m_124) (fun _ h9 => h9) rfl dX9_next_142 ?_
            obtain ⟨hi_31, hF⟩ := ob_if hF
            refine va_bald (D := G) hx hb hK hP 3 3 wM_at3 rfl (vp_in_iff.mpr hi_31) dX9_next_145 ?_
            refine gw_topi (y := ((eA h 0 2) (((eI h 0 15)).toNatClampNeg))) rfl ?_
            refine lv_i2l (v := (((eA h 0 2) (((eI h 0 15)).toNatClampNeg))).toInt64) hx hb dX9_next_146 rfl ?_
            refine lv_ladd hx hb dX9_next_147 ?_
            refine lv_ldc2 (v := 64) hx hb hown (hts _ m_133) dX9_next_148 ?_
            refine lv_lsub hx hb dX9_next_151 ?_
            refine lv_goto (tgt := 156) hx hb dX9_next_152 (by decide) ?_
            exact hJ_156 h x4 (((64 * x2) + ((((eA h 0 2) (((eI h 0 15)).toNatClampNeg))).toInt64)) - 64) hF H _ ls hP hD hS (lv_sub hl [0, 2] rfl)
  have hJ_52 : ∀ (h : HS), f_X9_next_52 h = some hh → ∀ (H : Heap) (locs : List Loc) (ls : Array Slot), va_P G vwCl (wM m0 r cI cJ cZ cB cT h) H → va_D A (wM m0 r cI cJ cZ cB cT h) → va_S A s.heap H locs → lv_has ls 5 [(0, .ref m0)] → W p l e (gRm 3) s m args below meth c H locs 0 0 (MQ below (va_Qv (fun (_ : Unit) => True) (gB G (fun (_ : Unit) => (wM m0 r cI cJ cZ cB cT hh)) A) A) args s 0 0 A) (F0 m 52 ls []) := by
    intro h hF H locs ls hP hD hS hl
    unfold f_X9_next_52 at hF
    refine lv_aload_n hx hb dX9_next_52 rfl (lv_at hl 0 rfl) ?_
    refine lv_aload_n hx hb dX9_next_53 rfl (lv_at hl 0 rfl) ?_
    refine va_get (D := G) (ci := 9) (v := .int (eI h 0 15)) (C := RX9) (T := TX9) (N := 53) hx hb hts iX9 hown hK hP 0 wM_at0 rfl 15 (by decide) (hts _ m_124) (fun _ h9 => h9) rfl dX9_next_54 ?_
    refine va_put (D := G) (ci := 9) (v := .int (eI h 0 15)) (ty := .int) (C := RX9) (T := TX9) (N := 53) hx hb hts iX9 tyX9 tyX9_ok nmX9 hown hK hP hD hS 0 wM_at0 rfl 16 (by decide) (hts _ m_126) (fun _ h9 => h9) rfl (tyX9_ok 16 (by decide)) rfl rfl (Nat.le_of_ble_eq_true rfl) dX9_next_57 (fun H locs hP hD hS => ?_)
    rw [wM_sI0_16] at hP hD
    refine lv_aload_n hx hb dX9_next_60 rfl (lv_at hl 0 rfl) ?_
    refine va_get (D := G) (ci := 9) (v := .int (eI h 0 15)) (C := RX9) (T := TX9) (N := 53) hx hb hts iX9 hown hK hP 0 wM_at0 rfl 15 (by decide) (hts _ m_124) (fun _ h9 => h9) rfl dX9_next_61 ?_
    refine lv_aload_n hx hb dX9_next_64 rfl (lv_at hl 0 rfl) ?_
    refine va_get (D := G) (ci := 9) (v := .int (eI h 0 14)) (C := RX9) (T := TX9) (N := 53) hx hb hts iX9 hown hK hP 0 wM_at0 rfl 14 (by decide) (hts _ m_125) (fun _ h9 => h9) rfl dX9_next_65 ?_
    refine lv_icmp_ne (tgt := 77) hx hb dX9_next_68 (by decide) (fun c_6 => ?_) (fun c_6 => ?_)
    · have hF := ob_neg c_6 hF
      refine lv_aload_n hx hb dX9_next_77 rfl (lv_at hl 0 rfl) ?_
      refine va_get (D := G) (ci := 9) (v := .ref (r 2)) (C := RX9) (T := TX9) (N := 53) hx hb hts iX9 hown hK hP 0 wM_at0 rfl 2 (by decide) (hts _ m_106) (fun _ h9 => h9) rfl dX9_next_78 ?_
      refine lv_aload_n hx hb dX9_next_81 rfl (lv_at hl 0 rfl) ?_
      refine va_get (D := G) (ci := 9) (v := .int (eI h 0 15)) (C := RX9) (T := TX9) (N := 53) hx hb hts iX9 hown hK hP 0 wM_at0 rfl 15 (by decide) (hts _ m_124) (fun _ h9 => h9) rfl dX9_next_82 ?_
      obtain ⟨hi_7, hF⟩ := ob_if hF
      refine va_bald (D := G) hx hb hK hP 3 3 wM_at3 rfl (vp_in_iff.mpr hi_7) dX9_next_85 ?_
      refine gw_topi (y := ((eA h 0 2) (((eI h 0 15)).toNatClampNeg))) rfl ?_
      refine lv_istore_n (lv' := [(1, .int ((eA h 0 2) (((eI h 0 15)).toNatClampNeg))), (0, .ref m0)]) hx hb dX9_next_86 rfl hl (by decide) rfl (fun ls hl => ?_)
      refine lv_iload_n hx hb dX9_next_87 rfl (lv_at hl 0 rfl) ?_
      obtain ⟨r_8, e_8, hF⟩ := ob1_some hF
      refine gx_calli0 (gx_runS0 (As := [.int ((eA h 0 2) (((eI h 0 15)).toNatClampNeg))]) (rest := []) ⟨hx, hb, hml, hown, hts⟩ (c_X9_isLetter l G cI cJ cZ cB cT   ((eA h 0 2) (((eI h 0 15)).toNatClampNeg)) r_8 e_8 H.size) (gG_S m_128 m_129 m_64 m_127) rfl e_X9_isLetter ⟨Nat.le_of_ble_eq_true rfl, Nat.le_of_ble_eq_true rfl⟩ hK hE hS hA rfl hl.1 rfl (Nat.le_of_ble_eq_true rfl) dX9_next_88 ⟨Nat.le_refl _, Nat.le_refl _⟩) hP hD hS hA (fun x_8 u_8 H locs hw_8 hP hD hS => ?_)
      subst x_8
      refine lv_if_eq (tgt := 211) hx hb dX9_next_91 (by decide) (fun c_9 => ?_) (fun c_9 => ?_)
      · have hF := ob_pos c_9 hF
        refine lv_iload_n hx hb dX9_next_211 rfl (lv_at hl 0 rfl) ?_
        refine lv_bipush (v := 48) hx hb dX9_next_212 (by decide) ?_
        refine lv_bipush (v := 57) hx hb dX9_next_214 (by decide) ?_
        obtain ⟨r_10, e_10, hF⟩ := ob1_some hF
        refine gx_calli0 (gx_runS0 (As := [.int ((eA h 0 2) (((eI h 0 15)).toNatClampNeg)), .int 48, .int 57]) (rest := []) ⟨hx, hb, hml, hown, hts⟩ (c_X9_in l G cI cJ cZ cB cT   ((eA h 0 2) (((eI h 0 15)).toNatClampNeg)) 48 57 r_10 e_10 H.size) (gG_S m_62 m_63 m_64 m_61) rfl e_X9_in ⟨Nat.le_of_ble_eq_true rfl, Nat.le_of_ble_eq_true rfl⟩ hK hE hS hA rfl hl.1 rfl (Nat.le_of_ble_eq_true rfl) dX9_next_216 ⟨Nat.le_refl _, Nat.le_refl _⟩) hP hD hS hA (fun x_10 u_10 H locs hw_10 hP hD hS => ?_)
        subst x_10
        refine lv_if_eq (tgt := 315) hx hb dX9_next_219 (by decide) (fun c_11 => ?_) (fun c_11 => ?_)
        · have hF := ob_pos c_11 hF
          refine lv_aload_n hx hb dX9_next_315 rfl (lv_at hl 1 rfl) ?_
          refine lv_dup hx hb dX9_next_316 rfl ?_
          refine va_get (D := G) (ci := 9) (v := .int (eI h 0 15)) (C := RX9) (T := TX9) (N := 53) hx hb hts iX9 hown hK hP 0 wM_at0 rfl 15 (by decide) (hts _ m_124) (fun _ h9 => h9) rfl dX9_next_317 ?_
          refine lv_iconst (v := 1) hx hb dX9_next_320 (by decide) ?_
          refine lv_iadd hx hb dX9_next_321 ?_
          refine va_put (D := G) (ci := 9) (v := .int ((eI h 0 15) + 1)) (ty := .int) (C := RX9) (T := TX9) (N := 53) hx hb hts iX9 tyX9 tyX9_ok nmX9 hown hK hP hD hS 0 wM_at0 rfl 15 (by decide) (hts _ m_124) (fun _ h9 => h9) rfl (tyX9_ok 15 (by decide)) rfl rfl (Nat.le_of_ble_eq_true rfl) dX9_next_322 (fun H locs hP hD hS => ?_)
          rw [wM_sI0_15] at hP hD
          refine lv_aload_n hx hb dX9_next_325 rfl (lv_at hl 1 rfl) ?_
          refine lv_iload_n hx hb dX9_next_326 rfl (lv_at hl 0 rfl) ?_
          refine va_put (D := G) (ci := 9) (v := .int ((eA h 0 2) (((eI h 0 15)).toNatClampNeg))) (ty := .int) (C := RX9) (T := TX9) (N := 53) hx hb hts iX9 tyX9 tyX9_ok nmX9 hown hK hP hD hS 0 wM_at0 rfl 18 (by decide) (hts _ m_130) (fun _ h9 => h9) rfl (tyX9_ok 18 (by decide)) rfl rfl (Nat.le_of_ble_eq_true rfl) dX9_next_327 (fun H locs hP hD hS => ?_)
          rw [wM_sI0_18] at hP hD
          refine lv_aload_n hx hb dX9_next_330 rfl (lv_at hl 1 rfl) ?_
          refine lv_iload_n hx hb dX9_next_331 rfl (lv_at hl 0 rfl) ?_
          refine lv_bipush (v := 59) hx hb dX9_next_332 (by decide) ?_
          refine lv_bipush (v := 62) hx hb dX9_next_334 (by decide) ?_
          obtain ⟨r_12, e_12, hF⟩ := ob1_some hF
          refine gx_calli0 (gx_runS0 (As := [.int ((eA h 0 2) (((eI h 0 15)).toNatClampNeg)), .int 59, .int 62]) (rest := [.ref m0]) ⟨hx, hb, hml, hown, hts⟩ (c_X9_in l G cI cJ cZ cB cT   ((eA h 0 2) (((eI h 0 15)).toNatClampNeg)) 59 62 r_12 e_12 H.size) (gG_S m_62 m_63 m_64 m_61) rfl e_X9_in ⟨Nat.le_of_ble_eq_true rfl, Nat.le_of_ble_eq_true rfl⟩ hK hE hS hA rfl hl.1 rfl (Nat.le_of_ble_eq_true rfl) dX9_next_336 ⟨Nat.le_refl _, Nat.le_refl _⟩) hP hD hS hA (fun x_12 u_12 H locs hw_12 hP hD hS => ?_)
          subst x_12
          refine lv_if_ne (tgt := 365) hx hb dX9_next_339 (by decide) (fun c_13 => ?_) (fun c_13 => ?_)
          · have hF := ob_neg c_13 hF
            exact hJ_365 (sI (sI (sI h 0 16 (eI h 0 15)) 0 15 ((eI h 0 15) + 1)) 0 18 ((eA h 0 2) (((eI h 0 15)).toNatClampNeg))) ((eA h 0 2) (((eI h 0 15)).toNatClampNeg)) hF H _ ls hP hD hS (lv_sub hl [1, 0] rfl)
          · have hF := ob_pos c_13 hF
            refine lv_iload_n hx hb dX9_next_342 rfl (lv_at hl 0 rfl) ?_
            refine lv_bipush (v := 40) hx hb dX9_next_343 (by decide) ?_
            refine lv_bipush (v := 45) hx hb dX9_next_345 (by decide) ?_
            obtain ⟨r_14, e_14, hF⟩ := ob1_some hF
            refine gx_calli0 (gx_runS0 (As := [.int ((eA h 0 2) (((eI h 0 15)).toNatClampNeg)), .int 40, .int 45]) (rest := [.ref m0]) ⟨hx, hb, hml, hown, hts⟩ (c_X9_in l G cI cJ cZ cB cT   ((eA h 0 2) (((eI h 0 15)).toNatClampNeg)) 40 45 r_14 e_14 H.size) (gG_S m_62 m_63 m_64 m_61) rfl e_X9_in ⟨Nat.le_of_ble_eq_true rfl, Nat.le_of_ble_eq_true rfl⟩ hK hE hS hA rfl hl.1 rfl (Nat.le_of_ble_eq_true rfl) dX9_next_347 ⟨Nat.le_refl _, Nat.le_refl _⟩) hP hD hS hA (fun x_14 u_14 H locs hw_14 hP hD hS => ?_)
            subst x_14
            refine lv_if_ne (tgt := 365) hx hb dX9_next_350 (by decide) (fun c_15 => ?_) (fun c_15 => ?_)
            · have hF := ob_neg c_15 hF
              exact hJ_365 (sI (sI (sI h 0 16 (eI h 0 15)) 0 15 ((eI h 0 15) + 1)) 0 18 ((eA h 0 2) (((eI h 0 15)).toNatClampNeg))) ((eA h 0 2) (((eI h 0 15)).toNatClampNeg)) hF H _ ls hP hD hS (lv_sub hl [1, 0] rfl)
            · have hF := ob_pos c_15 hF
              refine lv_iload_n hx hb dX9_next_353 rfl (lv_at hl 0 rfl) ?_
              refine lv_bipush (v := 47) hx hb dX9_next_354 (by decide) ?_
              refine lv_icmp_eq (tgt := 365) hx hb dX9_next_356 (by decide) (fun c_16 => ?_) (fun c_16 => ?_)
              · have hF := ob_pos c_16 hF
                exact hJ_365 (sI (sI (sI h 0 16 (eI h 0 15)) 0 15 ((eI h 0 15) + 1)) 0 18 ((eA h 0 2) (((eI h 0 15)).toNatClampNeg))) ((eA h 0 2) (((eI h 0 15)).toNatClampNeg)) hF H _ ls hP hD hS (lv_sub hl [1, 0] rfl)
              · have hF := ob_neg c_16 hF
                refine lv_iload_n hx hb dX9_next_359 rfl (lv_at hl 0 rfl) ?_
                refine lv_bipush (v := 35) hx hb dX9_next_360 (by decide) ?_
                refine lv_icmp_ne (tgt := 369) hx hb dX9_next_362 (by decide) (fun c_17 => ?_) (fun c_17 => ?_)
                · have hF := ob_neg c_17 hF
                  refine lv_iconst (v := 4) hx hb dX9_next_369 (by decide) ?_
                  exact hJ_370 (sI (sI (sI h 0 16 (eI h 0 15)) 0 15 ((eI h 0 15) + 1)) 0 18 ((eA h 0 2) (((eI h 0 15)).toNatClampNeg))) ((eA h 0 2) (((eI h 0 15)).toNatClampNeg)) 4 hF H _ ls hP hD hS (lv_sub hl [1, 0] rfl)
                · have hF := ob_pos c_17 hF
                  exact hJ_365 (sI (sI (sI h 0 16 (eI h 0 15)) 0 15 ((eI h 0 15) + 1)) 0 18 ((eA h 0 2) (((eI h 0 15)).toNatClampNeg))) ((eA h 0 2) (((eI h 0 15)).toNatClampNeg)) hF H _ ls hP hD hS (lv_sub hl [1, 0] rfl)
        · have hF := ob_neg c_11 hF
          refine lv_aload_n hx hb dX9_next_222 rfl (lv_at hl 1 rfl) ?_
          refine lv_iconst (v := 2) hx hb dX9_next_223 (by decide) ?_
          refine va_put (D := G) (ci := 9) (v := .int 2) (ty := .int) (C := RX9) (T := TX9) (N := 53) hx hb hts iX9 tyX9 tyX9_ok nmX9 hown hK hP hD hS 0 wM_at0 rfl 17 (by decide) (hts _ m_131) (fun _ h9 => h9) rfl (tyX9_ok 17 (by decide)) rfl rfl (Nat.le_of_ble_eq_true rfl) dX9_next_224 (fun H locs hP hD hS => ?_)
          rw [wM_sI0_17] at hP hD
          refine lv_aload_n hx hb dX9_next_227 rfl (lv_at hl 1 rfl) ?_
          refine lv_iconst (v := 0) hx hb dX9_next_228 (by decide) ?_
          refine va_put (D := G) (ci := 9) (v := .int 0) (ty := .int) (C := RX9) (T := TX9) (N := 53) hx hb hts iX9 tyX9 tyX9_ok nmX9 hown hK hP hD hS 0 wM_at0 rfl 18 (by decide) (hts _ m_130) (fun _ h9 => h9) rfl (tyX9_ok 18 (by decide)) rfl rfl (Nat.le_of_ble_eq_true rfl) dX9_next_229 (fun H locs hP hD hS => ?_)
          rw [wM_sI0_18] at hP hD
          exact hJ_232 8589934592 (sI (sI (sI h 0 16 (eI h 0 15)) 0 17 2) 0 18 0) hF H _ ls hP hD hS (lv_sub hl [1] rfl)
      · have hF := ob_neg c_9 hF
        refine lv_lconst (v := 0) hx hb dX9_next_94 (by decide) ?_
        refine lv_lstore_n (lv' := [(2, .long 0), (1, .int ((eA h 0 2) (((eI h 0 15)).toNatClampNeg))), (0, .ref m0)]) hx hb dX9_next_95 rfl hl (by decide) rfl (fun ls hl => ?_)
        refine lv_iconst (v := 0) hx hb dX9_next_96 (by decide) ?_
        refine lv_istore (lv' := [(4, .int 0), (2, .long 0), (1, .int ((eA h 0 2) (((eI h 0 15)).toNatClampNeg))), (0, .ref m0)]) hx hb dX9_next_97 hl (by decide) rfl (fun ls hl => ?_)
        exact hJ_99 8589934592 (sI h 0 16 (eI h 0 15)) 0 0 hF H _ ls hP hD hS (lv_sub hl [3, 1, 0] rfl)
    · have hF := ob_pos c_6 hF
      refine lv_aload_n hx hb dX9_next_71 rfl (lv_at hl 0 rfl) ?_
      refine lv_iconst (v := 0) hx hb dX9_next_72 (by decide) ?_
      refine va_put (D := G) (ci := 9) (v := .int 0) (ty := .int) (C := RX9) (T := TX9) (N := 53) hx hb hts iX9 tyX9 tyX9_ok nmX9 hown hK hP hD hS 0 wM_at0 rfl 17 (by decide) (hts _ m_131) (fun _ h9 => h9) rfl (tyX9_ok 17 (by decide)) rfl rfl (Nat.le_of_ble_eq_true rfl) dX9_next_73 (fun H locs hP hD hS => ?_)
      rw [wM_sI0_17] at hP hD
      obtain rfl := ob_one hF
      exact gw_vret () hx hb hr hlocks hP hD hS trivial dX9_next_76
  have hJ_0 : ∀ (n_0 : Nat) (h : HS), f_X9_next_0 n_0 h = some hh → ∀ (H : Heap) (locs : List Loc) (ls : Array Slot), va_P G vwCl (wM m0 r cI cJ cZ cB cT h) H → va_D A (wM m0 r cI cJ cZ cB cT h) → va_S A s.heap H locs → lv_has ls 5 [(0, .ref m0)] → W p l e (gRm 3) s m args below meth c H locs 0 0 (MQ below (va_Qv (fun (_ : Unit) => True) (gB G (fun (_ : Unit) => (wM m0 r cI cJ cZ cB cT hh)) A) A) args s 0 0 A) (F0 m 0 ls []) := by
    intro n_0
    induction n_0 with
    | zero =>
      intro h hF
      exact absurd hF (by simp [f_X9_next_0])
    | succ n_0 ih_0 =>
      have hJ_39 : ∀ (h : HS), f_X9_next_39 (f_X9_next_0 n_0) h = some hh → ∀ (H : Heap) (locs : List Loc) (ls : Array Slot), va_P G vwCl (wM m0 r cI cJ cZ cB cT h) H → va_D A (wM m0 r cI cJ cZ cB cT h) → va_S A s.heap H locs → lv_has ls 5 [(0, .ref m0)] → W p l e (gRm 3) s m args below meth c H locs 0 0 (MQ below (va_Qv (fun (_ : Unit) => True) (gB G (fun (_ : Unit) => (wM m0 r cI cJ cZ cB cT hh)) A) A) args s 0 0 A) (F0 m 39 ls []) := by
        intro h hF H locs ls hP hD hS hl
        unfold f_X9_next_39 at hF
        refine lv_aload_n hx hb dX9_next_39 rfl (lv_at hl 0 rfl) ?_
        refine lv_dup hx hb dX9_next_40 rfl ?_
        refine va_get (D := G) (ci := 9) (v := .int (eI h 0 15)) (C := RX9) (T := TX9) (N := 53) hx hb hts iX9 hown hK hP 0 wM_at0 rfl 15 (by decide) (hts _ m_124) (fun _ h9 => h9) rfl dX9_next_41 ?_
        refine lv_iconst (v := 1) hx hb dX9_next_44 (by decide) ?_
        refine lv_iadd hx hb dX9_next_45 ?_
        refine va_put (D := G) (ci := 9) (v := .int ((eI h 0 15) + 1)) (ty := .int) (C := RX9) (T := TX9) (N := 53) hx hb hts iX9 tyX9 tyX9_ok nmX9 hown hK hP hD hS 0 wM_at0 rfl 15 (by decide) (hts _ m_124) (fun _ h9 => h9) rfl (tyX9_ok 15 (by decide)) rfl rfl (Nat.le_of_ble_eq_true rfl) dX9_next_46 (fun H locs hP hD hS => ?_)
        rw [wM_sI0_15] at hP hD
        refine lv_goto (tgt := 0) hx hb dX9_next_49 (by decide) ?_
        exact ih_0 (sI h 0 15 ((eI h 0 15) + 1)) hF H _ ls hP hD hS (lv_sub hl [0] rfl)
      intro h hF H locs ls hP hD hS hl
      rw [f_X9_next_0_s] at hF
      refine lv_aload_n hx hb dX9_next_0 rfl (lv_at hl 0 rfl) ?_
      refine va_get (D := G) (ci := 9) (v := .int (eI h 0 15)) (C := RX9) (T := TX9) (N := 53) hx hb hts iX9 hown hK hP 0 wM_at0 rfl 15 (by decide) (hts _ m_124) (fun _ h9 => h9) rfl dX9_next_1 ?_
      refine lv_aload_n hx hb dX9_next_4 rfl (lv_at hl 0 rfl) ?_
      refine va_get (D := G) (ci := 9) (v := .int (eI h 0 14)) (C := RX9) (T := TX9) (N := 53) hx hb hts iX9 hown hK hP 0 wM_at0 rfl 14 (by decide) (hts _ m_125) (fun _ h9 => h9) rfl dX9_next_5 ?_
      refine lv_icmp_ge (tgt := 52) hx hb dX9_next_8 (by decide) (fun c_1 => ?_) (fun c_1 => ?_)
      · have hF := ob_pos c_1 hF
        exact hJ_52 h hF H _ ls hP hD hS (lv_sub hl [0] rfl)
      · have hF := ob_neg c_1 hF
        refine lv_aload_n hx hb dX9_next_11 rfl (lv_at hl 0 rfl) ?_
        refine va_get (D := G) (ci := 9) (v := .ref (r 2)) (C := RX9) (T := TX9) (N := 53) hx hb hts iX9 hown hK hP 0 wM_at0 rfl 2 (by decide) (hts _ m_106) (fun _ h9 => h9) rfl dX9_next_12 ?_
        refine lv_aload_n hx hb dX9_next_15 rfl (lv_at hl 0 rfl) ?_
        refine va_get (D := G) (ci := 9) (v := .int (eI h 0 15)) (C := RX9) (T := TX9) (N := 53) hx hb hts iX9 hown hK hP 0 wM_at0 rfl 15 (by decide) (hts _ m_124) (fun _ h9 => h9) rfl dX9_next_16 ?_
        obtain ⟨hi_2, hF⟩ := ob_if hF
        refine va_bald (D := G) hx hb hK hP 3 3 wM_at3 rfl (vp_in_iff.mpr hi_2) dX9_next_19 ?_
        refine gw_topi (y := ((eA h 0 2) (((eI h 0 15)).toNatClampNeg))) rfl ?_
        refine lv_bipush (v := 32) hx hb dX9_next_20 (by decide) ?_
        refine lv_icmp_eq (tgt := 39) hx hb dX9_next_22 (by decide) (fun c_3 => ?_) (fun c_3 => ?_)
        · have hF := ob_pos c_3 hF
          exact hJ_39 h hF H _ ls hP hD hS (lv_sub hl [0] rfl)
        · have hF := ob_neg c_3 hF
          refine lv_aload_n hx hb dX9_next_25 rfl (lv_at hl 0 rfl) ?_
          refine va_get (D := G) (ci := 9) (v := .ref (r 2)) (C := RX9) (T := TX9) (N := 53) hx hb hts iX9 hown hK hP 0 wM_at0 rfl 2 (by decide) (hts _ m_106) (fun _ h9 => h9) rfl dX9_next_26 ?_
          refine lv_aload_n hx hb dX9_next_29 rfl (lv_at hl 0 rfl) ?_
          refine va_get (D := G) (ci := 9) (v := .int (eI h 0 15)) (C := RX9) (T := TX9) (N := 53) hx hb hts iX9 hown hK hP 0 wM_at0 rfl 15 (by decide) (hts _ m_124) (fun _ h9 => h9) rfl dX9_next_30 ?_
          obtain ⟨hi_4, hF⟩ := ob_if hF
          refine va_bald (D := G) hx hb hK hP 3 3 wM_at3 rfl (vp_in_iff.mpr hi_4) dX9_next_33 ?_
          refine gw_topi (y := ((eA h 0 2) (((eI h 0 15)).toNatClampNeg))) rfl ?_
          refine lv_bipush (v := 10) hx hb dX9_next_34 (by decide) ?_
          refine lv_icmp_ne (tgt := 52) hx hb dX9_next_36 (by decide) (fun c_5 => ?_) (fun c_5 => ?_)
          · have hF := ob_neg c_5 hF
            exact hJ_52 h hF H _ ls hP hD hS (lv_sub hl [0] rfl)
          · have hF := ob_pos c_5 hF
            exact hJ_39 h hF H _ ls hP hD hS (lv_sub hl [0] rfl)
  unfold f_X9_next at hF
  exact hJ_0 8589934592 h hF H _ ls hP hD hS (lv_sub hl [0] rfl)
def f_X9_isSign_21 (h : HS) (y0 : Int32) : Option (Int32 × HS) := (if y0 = 0 ∨ y0 = 1 then (some (y0, h)) else none)
def f_X9_isSign_20 (h : HS) : Option (Int32 × HS) := (f_X9_isSign_21 h 0)
def f_X9_isSign (h : HS) (p1 : Int32) : Option (Int32 × HS) := (if (eI h 0 17) = 3 then (if (eI h 0 18) = p1 then (f_X9_isSign_21 h 1) else (f_X9_isSign_20 h)) else (f_X9_isSign_20 h))
set_option maxHeartbeats 4000000 in
set_option maxRecDepth 100000 in
theorem c_X9_isSign (l : Launch) (G : va_G) (cI cJ cZ cB cT : ClassId) (m0 : Nat) (r : Nat → Nat) (h : HS) (p1 : Int32) (rr : Int32) (hh : HS) (hF : f_X9_isSign h p1 = some (rr, hh)) : gMi l yX9_isSign (gws yX9_isSign cX9_isSign 2 (some .boolean)) 1 G (gT cI cJ cZ cB cT) [.ref m0, .int p1] (wM m0 r cI cJ cZ cB cT h) (fun x (_ : Unit) => x = rr) (fun (_ : Unit) => (wM m0 r cI cJ cZ cB cT hh)) := by
  intro sz
  refine gM_start (y := yX9_isSign) (av := [.ref m0, .int p1]) (ws := (wM m0 r cI cJ cZ cB cT h)) (Qf := fun A => va_Qi (fun x (_ : Unit) => x = rr) (gB G (fun (_ : Unit) => (wM m0 r cI cJ cZ cB cT hh)) A) A) (cc := cX9_isSign) (maxL := 2) (ret := (some .boolean)) (by decide) (Nat.le_of_ble_eq_true rfl) ?_
  intro p e s m args below meth c A ls H hx hb hr hts hown hin hlocks hml hP hK hD hA hS hl hE
  have hl : lv_has ls 2 [(0, .ref m0), (1, .int p1)] := hl
  have hJ_21 : ∀ (h : HS) (y0 : Int32), f_X9_isSign_21 h y0 = some (rr, hh) → ∀ (H : Heap) (locs : List Loc) (ls : Array Slot), va_P G vwCl (wM m0 r cI cJ cZ cB cT h) H → va_D A (wM m0 r cI cJ cZ cB cT h) → va_S A s.heap H locs → lv_has ls 2 [] → W p l e (gRm 1) s m args below meth c H locs 0 0 (MQ below (va_Qi (fun x (_ : Unit) => x = rr) (gB G (fun (_ : Unit) => (wM m0 r cI cJ cZ cB cT hh)) A) A) args s 0 0 A) (F0 m 21 ls [.int y0]) := by
    intro h y0 hF H locs ls hP hD hS hl
    unfold f_X9_isSign_21 at hF
    obtain ⟨hz_3, hF⟩ := ob_if hF
    obtain ⟨rfl, rfl⟩ := ob_pair hF
    exact gw_zret () hx hb hr hlocks (gz hz_3) hP hD hS rfl dX9_isSign_21
  have hJ_20 : ∀ (h : HS), f_X9_isSign_20 h = some (rr, hh) → ∀ (H : Heap) (locs : List Loc) (ls : Array Slot), va_P G vwCl (wM m0 r cI cJ cZ cB cT h) H → va_D A (wM m0 r cI cJ cZ cB cT h) → va_S A s.heap H locs → lv_has ls 2 [] → W p l e (gRm 1) s m args below meth c H locs 0 0 (MQ below (va_Qi (fun x (_ : Unit) => x = rr) (gB G (fun (_ : Unit) => (wM m0 r cI cJ cZ cB cT hh)) A) A) args s 0 0 A) (F0 m 20 ls []) := by
    intro h hF H locs ls hP hD hS hl
    unfold f_X9_isSign_20 at hF
    refine lv_iconst (v := 0) hx hb dX9_isSign_20 (by decide) ?_
    exact hJ_21 h 0 hF H _ ls hP hD hS (lv_sub hl [] rfl)
  unfold f_X9_isSign at hF
  refine lv_aload_n hx hb dX9_isSign_0 rfl (lv_at hl 0 rfl) ?_
  refine va_get (D := G) (ci := 9) (v := .int (eI h 0 17)) (C := RX9) (T := TX9) (N := 53) hx hb hts iX9 hown hK hP 0 wM_at0 rfl 17 (by decide) (hts _ m_131) (fun _ h9 => h9) rfl dX9_isSign_1 ?_
  refine lv_iconst (v := 3) hx hb dX9_isSign_4 (by decide) ?_
  refine lv_icmp_ne (tgt := 20) hx hb dX9_isSign_5 (by decide) (fun c_1 => ?_) (fun c_1 => ?_)
  · have hF := ob_neg c_1 hF
    exact hJ_20 h hF H _ ls hP hD hS (lv_sub hl [] rfl)
  · have hF := ob_pos c_1 hF
    refine lv_aload_n hx hb dX9_isSign_8 rfl (lv_at hl 0 rfl) ?_
    refine va_get (D := G) (ci := 9) (v := .int (eI h 0 18)) (C := RX9) (T := TX9) (N := 53) hx hb hts iX9 hown hK hP 0 wM_at0 rfl 18 (by decide) (hts _ m_130) (fun _ h9 => h9) rfl dX9_isSign_9 ?_
    refine lv_iload_n hx hb dX9_isSign_12 rfl (lv_at hl 1 rfl) ?_
    refine lv_icmp_ne (tgt := 20) hx hb dX9_isSign_13 (by decide) (fun c_2 => ?_) (fun c_2 => ?_)
    · have hF := ob_neg c_2 hF
      exact hJ_20 h hF H _ ls hP hD hS (lv_sub hl [] rfl)
    · have hF := ob_pos c_2 hF
      refine lv_iconst (v := 1) hx hb dX9_isSign_16 (by decide) ?_
      refine lv_goto (tgt := 21) hx hb dX9_isSign_17 (by decide) ?_
      exact hJ_21 h 1 hF H _ ls hP hD hS (lv_sub hl [] rfl)
def f_X9_isWord_21 (h : HS) (y0 : Int32) : Option (Int32 × HS) := (if y0 = 0 ∨ y0 = 1 then (some (y0, h)) else none)
def f_X9_isWord_20 (h : HS) : Option (Int32 × HS) := (f_X9_isWord_21 h 0)
def f_X9_isWord (h : HS) (p1 : Int32) : Option (Int32 × HS) := (if (eI h 0 17) = 1 then (if (eI h 0 18) = p1 then (f_X9_isWord_21 h 1) else (f_X9_isWord_20 h)) else (f_X9_isWord_20 h))
set_option maxHeartbeats 4000000 in
set_option maxRecDepth 100000 in
theorem c_X9_isWord (l : Launch) (G : va_G) (cI cJ cZ cB cT : ClassId) (m0 : Nat) (r : Nat → Nat) (h : HS) (p1 : Int32) (rr : Int32) (hh : HS) (hF : f_X9_isWord h p1 = some (rr, hh)) : gMi l yX9_isWord (gws yX9_isWord cX9_isWord 2 (some .boolean)) 1 G (gT cI cJ cZ cB cT) [.ref m0, .int p1] (wM m0 r cI cJ cZ cB cT h) (fun x (_ : Unit) => x = rr) (fun (_ : Unit) => (wM m0 r cI cJ cZ cB cT hh)) := by
  intro sz
  refine gM_start (y := yX9_isWord) (av := [.ref m0, .int p1]) (ws := (wM m0 r cI cJ cZ cB cT h)) (Qf := fun A => va_Qi (fun x (_ : Unit) => x = rr) (gB G (fun (_ : Unit) => (wM m0 r cI cJ cZ cB cT hh)) A) A) (cc := cX9_isWord) (maxL := 2) (ret := (some .boolean)) (by decide) (Nat.le_of_ble_eq_true rfl) ?_
  intro p e s m args below meth c A ls H hx hb hr hts hown hin hlocks hml hP hK hD hA hS hl hE
  have hl : lv_has ls 2 [(0, .ref m0), (1, .int p1)] := hl
  have hJ_21 : ∀ (h : HS) (y0 : Int32), f_X9_isWord_21 h y0 = some (rr, hh) → ∀ (H : Heap) (locs : List Loc) (ls : Array Slot), va_P G vwCl (wM m0 r cI cJ cZ cB cT h) H → va_D A (wM m0 r cI cJ cZ cB cT h) → va_S A s.heap H locs → lv_has ls 2 [] → W p l e (gRm 1) s m args below meth c H locs 0 0 (MQ below (va_Qi (fun x (_ : Unit) => x = rr) (gB G (fun (_ : Unit) => (wM m0 r cI cJ cZ cB cT hh)) A) A) args s 0 0 A) (F0 m 21 ls [.int y0]) := by
    intro h y0 hF H locs ls hP hD hS hl
    unfold f_X9_isWord_21 at hF
    obtain ⟨hz_3, hF⟩ := ob_if hF
    obtain ⟨rfl, rfl⟩ := ob_pair hF
    exact gw_zret () hx hb hr hlocks (gz hz_3) hP hD hS rfl dX9_isWord_21
  have hJ_20 : ∀ (h : HS), f_X9_isWord_20 h = some (rr, hh) → ∀ (H : Heap) (locs : List Loc) (ls : Array Slot), va_P G vwCl (wM m0 r cI cJ cZ cB cT h) H → va_D A (wM m0 r cI cJ cZ cB cT h) → va_S A s.heap H locs → lv_has ls 2 [] → W p l e (gRm 1) s m args below meth c H locs 0 0 (MQ below (va_Qi (fun x (_ : Unit) => x = rr) (gB G (fun (_ : Unit) => (wM m0 r cI cJ cZ cB cT hh)) A) A) args s 0 0 A) (F0 m 20 ls []) := by
    intro h hF H locs ls hP hD hS hl
    unfold f_X9_isWord_20 at hF
    refine lv_iconst (v := 0) hx hb dX9_isWord_20 (by decide) ?_
    exact hJ_21 h 0 hF H _ ls hP hD hS (lv_sub hl [] rfl)
  unfold f_X9_isWord at hF
  refine lv_aload_n hx hb dX9_isWord_0 rfl (lv_at hl 0 rfl) ?_
  refine va_get (D := G) (ci := 9) (v := .int (eI h 0 17)) (C := RX9) (T := TX9) (N := 53) hx hb hts iX9 hown hK hP 0 wM_at0 rfl 17 (by decide) (hts _ m_131) (fun _ h9 => h9) rfl dX9_isWord_1 ?_
  refine lv_iconst (v := 1) hx hb dX9_isWord_4 (by decide) ?_
  refine lv_icmp_ne (tgt := 20) hx hb dX9_isWord_5 (by decide) (fun c_1 => ?_) (fun c_1 => ?_)
  · have hF := ob_neg c_1 hF
    exact hJ_20 h hF H _ ls hP hD hS (lv_sub hl [] rfl)
  · have hF := ob_pos c_1 hF
    refine lv_aload_n hx hb dX9_isWord_8 rfl (lv_at hl 0 rfl) ?_
    refine va_get (D := G) (ci := 9) (v := .int (eI h 0 18)) (C := RX9) (T := TX9) (N := 53) hx hb hts iX9 hown hK hP 0 wM_at0 rfl 18 (by decide) (hts _ m_130) (fun _ h9 => h9) rfl dX9_isWord_9 ?_
    refine lv_iload_n hx hb dX9_isWord_12 rfl (lv_at hl 1 rfl) ?_
    refine lv_icmp_ne (tgt := 20) hx hb dX9_isWord_13 (by decide) (fun c_2 => ?_) (fun c_2 => ?_)
    · have hF := ob_neg c_2 hF
      exact hJ_20 h hF H _ ls hP hD hS (lv_sub hl [] rfl)
    · have hF := ob_pos c_2 hF
      refine lv_iconst (v := 1) hx hb dX9_isWord_16 (by decide) ?_
      refine lv_goto (tgt := 21) hx hb dX9_isWord_17 (by decide) ?_
      exact hJ_21 h 1 hF H _ ls hP hD hS (lv_sub hl [] rfl)
def f_X9_errs_20 (h : HS) : Option HS := (some h)
def f_X9_errs (h : HS) (p1 : Int32) : Option HS := (if (eI h 0 19) = 0 then (f_X9_errs_20 (sI (sI h 0 19 p1) 0 20 (eI h 0 16))) else (f_X9_errs_20 h))
set_option maxHeartbeats 4000000 in
set_option maxRecDepth 100000 in
theorem c_X9_errs (l : Launch) (G : va_G) (cI cJ cZ cB cT : ClassId) (m0 : Nat) (r : Nat → Nat) (h : HS) (p1 : Int32) (hh : HS) (hF : f_X9_errs h p1 = some hh) : gMv l yX9_errs (gws yX9_errs cX9_errs 2 none) 1 G (gT cI cJ cZ cB cT) [.ref m0, .int p1] (wM m0 r cI cJ cZ cB cT h) (fun (_ : Unit) => True) (fun (_ : Unit) => (wM m0 r cI cJ cZ cB cT hh)) := by
  intro sz
  refine gM_start (y := yX9_errs) (av := [.ref m0, .int p1]) (ws := (wM m0 r cI cJ cZ cB cT h)) (Qf := fun A => va_Qv (fun (_ : Unit) => True) (gB G (fun (_ : Unit) => (wM m0 r cI cJ cZ cB cT hh)) A) A) (cc := cX9_errs) (maxL := 2) (ret := none) (by decide) (Nat.le_of_ble_eq_true rfl) ?_
  intro p e s m args below meth c A ls H hx hb hr hts hown hin hlocks hml hP hK hD hA hS hl hE
  have hl : lv_has ls 2 [(0, .ref m0), (1, .int p1)] := hl
  have hJ_20 : ∀ (h : HS), f_X9_errs_20 h = some hh → ∀ (H : Heap) (locs : List Loc) (ls : Array Slot), va_P G vwCl (wM m0 r cI cJ cZ cB cT h) H → va_D A (wM m0 r cI cJ cZ cB cT h) → va_S A s.heap H locs → lv_has ls 2 [] → W p l e (gRm 1) s m args below meth c H locs 0 0 (MQ below (va_Qv (fun (_ : Unit) => True) (gB G (fun (_ : Unit) => (wM m0 r cI cJ cZ cB cT hh)) A) A) args s 0 0 A) (F0 m 20 ls []) := by
    intro h hF H locs ls hP hD hS hl
    unfold f_X9_errs_20 at hF
    obtain rfl := ob_one hF
    exact gw_vret () hx hb hr hlocks hP hD hS trivial dX9_errs_20
  unfold f_X9_errs at hF
  refine lv_aload_n hx hb dX9_errs_0 rfl (lv_at hl 0 rfl) ?_
  refine va_get (D := G) (ci := 9) (v := .int (eI h 0 19)) (C := RX9) (T := TX9) (N := 53) hx hb hts iX9 hown hK hP 0 wM_at0 rfl 19 (by decide) (hts _ m_137) (fun _ h9 => h9) rfl dX9_errs_1 ?_
  refine lv_if_ne (tgt := 20) hx hb dX9_errs_4 (by decide) (fun c_1 => ?_) (fun c_1 => ?_)
  · have hF := ob_neg c_1 hF
    exact hJ_20 h hF H _ ls hP hD hS (lv_sub hl [] rfl)
  · have hF := ob_pos c_1 hF
    refine lv_aload_n hx hb dX9_errs_7 rfl (lv_at hl 0 rfl) ?_
    refine lv_iload_n hx hb dX9_errs_8 rfl (lv_at hl 1 rfl) ?_
    refine va_put (D := G) (ci := 9) (v := .int p1) (ty := .int) (C := RX9) (T := TX9) (N := 53) hx hb hts iX9 tyX9 tyX9_ok nmX9 hown hK hP hD hS 0 wM_at0 rfl 19 (by decide) (hts _ m_137) (fun _ h9 => h9) rfl (tyX9_ok 19 (by decide)) rfl rfl (Nat.le_of_ble_eq_true rfl) dX9_errs_9 (fun H locs hP hD hS => ?_)
    rw [wM_sI0_19] at hP hD
    refine lv_aload_n hx hb dX9_errs_12 rfl (lv_at hl 0 rfl) ?_
    refine lv_aload_n hx hb dX9_errs_13 rfl (lv_at hl 0 rfl) ?_
    refine va_get (D := G) (ci := 9) (v := .int (eI h 0 16)) (C := RX9) (T := TX9) (N := 53) hx hb hts iX9 hown hK hP 0 wM_at0 rfl 16 (by decide) (hts _ m_126) (fun _ h9 => h9) rfl dX9_errs_14 ?_
    refine va_put (D := G) (ci := 9) (v := .int (eI h 0 16)) (ty := .int) (C := RX9) (T := TX9) (N := 53) hx hb hts iX9 tyX9 tyX9_ok nmX9 hown hK hP hD hS 0 wM_at0 rfl 20 (by decide) (hts _ m_138) (fun _ h9 => h9) rfl (tyX9_ok 20 (by decide)) rfl rfl (Nat.le_of_ble_eq_true rfl) dX9_errs_17 (fun H locs hP hD hS => ?_)
    rw [wM_sI0_20] at hP hD
    exact hJ_20 (sI (sI h 0 19 p1) 0 20 (eI h 0 16)) hF H _ ls hP hD hS (lv_sub hl [] rfl)
def f_X9_emits (h : HS) (p1 : Int32) (p2 : Int32) : Option HS := (if 0 ≤ ((eI h 0 36)).toInt ∧ ((eI h 0 36)).toInt < 400 then (if 0 ≤ ((eI h 0 36)).toInt ∧ ((eI h 0 36)).toInt < 400 then (some (sI (sA (sA h 0 37 (upd (eA h 0 37) (((eI h 0 36)).toNatClampNeg) p1)) 0 38 (upd (eA h 0 38) (((eI h 0 36)).toNatClampNeg) p2)) 0 36 ((eI h 0 36) + 1))) else none) else none)
set_option maxHeartbeats 4000000 in
set_option maxRecDepth 100000 in
theorem c_X9_emits (l : Launch) (G : va_G) (cI cJ cZ cB cT : ClassId) (m0 : Nat) (r : Nat → Nat) (h : HS) (p1 : Int32) (p2 : Int32) (hh : HS) (hF : f_X9_emits h p1 p2 = some hh) : gMv l yX9_emits (gws yX9_emits cX9_emits 3 none) 1 G (gT cI cJ cZ cB cT) [.ref m0, .int p1, .int p2] (wM m0 r cI cJ cZ cB cT h) (fun (_ : Unit) => True) (fun (_ : Unit) => (wM m0 r cI cJ cZ cB cT hh)) := by
  intro sz
  refine gM_start (y := yX9_emits) (av := [.ref m0, .int p1, .int p2]) (ws := (wM m0 r cI cJ cZ cB cT h)) (Qf := fun A => va_Qv (fun (_ : Unit) => True) (gB G (fun (_ : Unit) => (wM m0 r cI cJ cZ cB cT hh)) A) A) (cc := cX9_emits) (maxL := 3) (ret := none) (by decide) (Nat.le_of_ble_eq_true rfl) ?_
  intro p e s m args below meth c A ls H hx hb hr hts hown hin hlocks hml hP hK hD hA hS hl hE
  have hl : lv_has ls 3 [(0, .ref m0), (1, .int p1), (2, .int p2)] := hl
  unfold f_X9_emits at hF
  refine lv_aload_n hx hb dX9_emits_0 rfl (lv_at hl 0 rfl) ?_
  refine va_get (D := G) (ci := 9) (v := .ref (r 37)) (C := RX9) (T := TX9) (N := 53) hx hb hts iX9 hown hK hP 0 wM_at0 rfl 37 (by decide) (hts _ m_139) (fun _ h9 => h9) rfl dX9_emits_1 ?_
  refine lv_aload_n hx hb dX9_emits_4 rfl (lv_at hl 0 rfl) ?_
  refine va_get (D := G) (ci := 9) (v := .int (eI h 0 36)) (C := RX9) (T := TX9) (N := 53) hx hb hts iX9 hown hK hP 0 wM_at0 rfl 36 (by decide) (hts _ m_140) (fun _ h9 => h9) rfl dX9_emits_5 ?_
  refine lv_iload_n hx hb dX9_emits_8 rfl (lv_at hl 1 rfl) ?_
  obtain ⟨hi_1, hF⟩ := ob_if hF
  refine va_iast (D := G) hx hb hK hP hD hS 21 0 wM_at21 rfl (vp_in_iff.mpr hi_1) dX9_emits_9 (fun H locs hP hD hS => ?_)
  rw [wM_sA21] at hP hD
  have hP : va_P G vwCl (wM m0 r cI cJ cZ cB cT (sA h 0 37 (upd (eA h 0 37) (((eI h 0 36)).toNatClampNeg) p1))) H := hP
  have hD : va_D A (wM m0 r cI cJ cZ cB cT (sA h 0 37 (upd (eA h 0 37) (((eI h 0 36)).toNatClampNeg) p1))) := hD
  refine lv_aload_n hx hb dX9_emits_10 rfl (lv_at hl 0 rfl) ?_
  refine va_get (D := G) (ci := 9) (v := .ref (r 38)) (C := RX9) (T := TX9) (N := 53) hx hb hts iX9 hown hK hP 0 wM_at0 rfl 38 (by decide) (hts _ m_141) (fun _ h9 => h9) rfl dX9_emits_11 ?_
  refine lv_aload_n hx hb dX9_emits_14 rfl (lv_at hl 0 rfl) ?_
  refine va_get (D := G) (ci := 9) (v := .int (eI h 0 36)) (C := RX9) (T := TX9) (N := 53) hx hb hts iX9 hown hK hP 0 wM_at0 rfl 36 (by decide) (hts _ m_140) (fun _ h9 => h9) rfl dX9_emits_15 ?_
  refine lv_iload_n hx hb dX9_emits_18 rfl (lv_at hl 2 rfl) ?_
  obtain ⟨hi_2, hF⟩ := ob_if hF
  refine va_iast (D := G) hx hb hK hP hD hS 22 0 wM_at22 rfl (vp_in_iff.mpr hi_2) dX9_emits_19 (fun H locs hP hD hS => ?_)
  rw [wM_sA22] at hP hD
  have hP : va_P G vwCl (wM m0 r cI cJ cZ cB cT (sA (sA h 0 37 (upd (eA h 0 37) (((eI h 0 36)).toNatClampNeg) p1)) 0 38 (upd (eA h 0 38) (((eI h 0 36)).toNatClampNeg) p2))) H := hP
  have hD : va_D A (wM m0 r cI cJ cZ cB cT (sA (sA h 0 37 (upd (eA h 0 37) (((eI h 0 36)).toNatClampNeg) p1)) 0 38 (upd (eA h 0 38) (((eI h 0 36)).toNatClampNeg) p2))) := hD
  refine lv_aload_n hx hb dX9_emits_20 rfl (lv_at hl 0 rfl) ?_
  refine lv_dup hx hb dX9_emits_21 rfl ?_
  refine va_get (D := G) (ci := 9) (v := .int (eI h 0 36)) (C := RX9) (T := TX9) (N := 53) hx hb hts iX9 hown hK hP 0 wM_at0 rfl 36 (by decide) (hts _ m_140) (fun _ h9 => h9) rfl dX9_emits_22 ?_
  refine lv_iconst (v := 1) hx hb dX9_emits_25 (by decide) ?_
  refine lv_iadd hx hb dX9_emits_26 ?_
  refine va_put (D := G) (ci := 9) (v := .int ((eI h 0 36) + 1)) (ty := .int) (C := RX9) (T := TX9) (N := 53) hx hb hts iX9 tyX9 tyX9_ok nmX9 hown hK hP hD hS 0 wM_at0 rfl 36 (by decide) (hts _ m_140) (fun _ h9 => h9) rfl (tyX9_ok 36 (by decide)) rfl rfl (Nat.le_of_ble_eq_true rfl) dX9_emits_27 (fun H locs hP hD hS => ?_)
  rw [wM_sI0_36] at hP hD
  obtain rfl := ob_one hF
  exact gw_vret () hx hb hr hlocks hP hD hS trivial dX9_emits_30
def f_X9_opensFrame (h : HS) (p1 : Int32) : Option HS := (if 0 ≤ ((eI h 0 22)).toInt ∧ ((eI h 0 22)).toInt < 40 then (some (sI (sA h 0 23 (upd (eA h 0 23) (((eI h 0 22)).toNatClampNeg) p1)) 0 22 ((eI h 0 22) + 1))) else none)
set_option maxHeartbeats 4000000 in
set_option maxRecDepth 100000 in
theorem c_X9_opensFrame (l : Launch) (G : va_G) (cI cJ cZ cB cT : ClassId) (m0 : Nat) (r : Nat → Nat) (h : HS) (p1 : Int32) (hh : HS) (hF : f_X9_opensFrame h p1 = some hh) : gMv l yX9_opensFrame (gws yX9_opensFrame cX9_opensFrame 2 none) 1 G (gT cI cJ cZ cB cT) [.ref m0, .int p1] (wM m0 r cI cJ cZ cB cT h) (fun (_ : Unit) => True) (fun (_ : Unit) => (wM m0 r cI cJ cZ cB cT hh)) := by
  intro sz
  refine gM_start (y := yX9_opensFrame) (av := [.ref m0, .int p1]) (ws := (wM m0 r cI cJ cZ cB cT h)) (Qf := fun A => va_Qv (fun (_ : Unit) => True) (gB G (fun (_ : Unit) => (wM m0 r cI cJ cZ cB cT hh)) A) A) (cc := cX9_opensFrame) (maxL := 2) (ret := none) (by decide) (Nat.le_of_ble_eq_true rfl) ?_
  intro p e s m args below meth c A ls H hx hb hr hts hown hin hlocks hml hP hK hD hA hS hl hE
  have hl : lv_has ls 2 [(0, .ref m0), (1, .int p1)] := hl
  unfold f_X9_opensFrame at hF
  refine lv_aload_n hx hb dX9_opensFrame_0 rfl (lv_at hl 0 rfl) ?_
  refine va_get (D := G) (ci := 9) (v := .ref (r 23)) (C := RX9) (T := TX9) (N := 53) hx hb hts iX9 hown hK hP 0 wM_at0 rfl 23 (by decide) (hts _ m_142) (fun _ h9 => h9) rfl dX9_opensFrame_1 ?_
  refine lv_aload_n hx hb dX9_opensFrame_4 rfl (lv_at hl 0 rfl) ?_
  refine va_get (D := G) (ci := 9) (v := .int (eI h 0 22)) (C := RX9) (T := TX9) (N := 53) hx hb hts iX9 hown hK hP 0 wM_at0 rfl 22 (by decide) (hts _ m_143) (fun _ h9 => h9) rfl dX9_opensFrame_5 ?_
  refine lv_iload_n hx hb dX9_opensFrame_8 rfl (lv_at hl 1 rfl) ?_
  obtain ⟨hi_1, hF⟩ := ob_if hF
  refine va_iast (D := G) hx hb hK hP hD hS 12 0 wM_at12 rfl (vp_in_iff.mpr hi_1) dX9_opensFrame_9 (fun H locs hP hD hS => ?_)
  rw [wM_sA12] at hP hD
  have hP : va_P G vwCl (wM m0 r cI cJ cZ cB cT (sA h 0 23 (upd (eA h 0 23) (((eI h 0 22)).toNatClampNeg) p1))) H := hP
  have hD : va_D A (wM m0 r cI cJ cZ cB cT (sA h 0 23 (upd (eA h 0 23) (((eI h 0 22)).toNatClampNeg) p1))) := hD
  refine lv_aload_n hx hb dX9_opensFrame_10 rfl (lv_at hl 0 rfl) ?_
  refine lv_dup hx hb dX9_opensFrame_11 rfl ?_
  refine va_get (D := G) (ci := 9) (v := .int (eI h 0 22)) (C := RX9) (T := TX9) (N := 53) hx hb hts iX9 hown hK hP 0 wM_at0 rfl 22 (by decide) (hts _ m_143) (fun _ h9 => h9) rfl dX9_opensFrame_12 ?_
  refine lv_iconst (v := 1) hx hb dX9_opensFrame_15 (by decide) ?_
  refine lv_iadd hx hb dX9_opensFrame_16 ?_
  refine va_put (D := G) (ci := 9) (v := .int ((eI h 0 22) + 1)) (ty := .int) (C := RX9) (T := TX9) (N := 53) hx hb hts iX9 tyX9 tyX9_ok nmX9 hown hK hP hD hS 0 wM_at0 rfl 22 (by decide) (hts _ m_143) (fun _ h9 => h9) rfl (tyX9_ok 22 (by decide)) rfl rfl (Nat.le_of_ble_eq_true rfl) dX9_opensFrame_17 (fun H locs hP hD hS => ?_)
  rw [wM_sI0_22] at hP hD
  obtain rfl := ob_one hF
  exact gw_vret () hx hb hr hlocks hP hD hS trivial dX9_opensFrame_20
def f_X9_top (h : HS) : Option (Int32 × HS) := (if 0 ≤ (((eI h 0 22) - 1)).toInt ∧ (((eI h 0 22) - 1)).toInt < 40 then (some (((eA h 0 23) ((((eI h 0 22) - 1)).toNatClampNeg)), h)) else none)
set_option maxHeartbeats 4000000 in
set_option maxRecDepth 100000 in
theorem c_X9_top (l : Launch) (G : va_G) (cI cJ cZ cB cT : ClassId) (m0 : Nat) (r : Nat → Nat) (h : HS)  (rr : Int32) (hh : HS) (hF : f_X9_top h = some (rr, hh)) : gMi l yX9_top (gws yX9_top cX9_top 1 (some .int)) 1 G (gT cI cJ cZ cB cT) [.ref m0] (wM m0 r cI cJ cZ cB cT h) (fun x (_ : Unit) => x = rr) (fun (_ : Unit) => (wM m0 r cI cJ cZ cB cT hh)) := by
  intro sz
  refine gM_start (y := yX9_top) (av := [.ref m0]) (ws := (wM m0 r cI cJ cZ cB cT h)) (Qf := fun A => va_Qi (fun x (_ : Unit) => x = rr) (gB G (fun (_ : Unit) => (wM m0 r cI cJ cZ cB cT hh)) A) A) (cc := cX9_top) (maxL := 1) (ret := (some .int)) (by decide) (Nat.le_of_ble_eq_true rfl) ?_
  intro p e s m args below meth c A ls H hx hb hr hts hown hin hlocks hml hP hK hD hA hS hl hE
  have hl : lv_has ls 1 [(0, .ref m0)] := hl
  unfold f_X9_top at hF
  refine lv_aload_n hx hb dX9_top_0 rfl (lv_at hl 0 rfl) ?_
  refine va_get (D := G) (ci := 9) (v := .ref (r 23)) (C := RX9) (T := TX9) (N := 53) hx hb hts iX9 hown hK hP 0 wM_at0 rfl 23 (by decide) (hts _ m_142) (fun _ h9 => h9) rfl dX9_top_1 ?_
  refine lv_aload_n hx hb dX9_top_4 rfl (lv_at hl 0 rfl) ?_
  refine va_get (D := G) (ci := 9) (v := .int (eI h 0 22)) (C := RX9) (T := TX9) (N := 53) hx hb hts iX9 hown hK hP 0 wM_at0 rfl 22 (by decide) (hts _ m_143) (fun _ h9 => h9) rfl dX9_top_5 ?_
  refine lv_iconst (v := 1) hx hb dX9_top_8 (by decide) ?_
  refine lv_isub hx hb dX9_top_9 ?_
  obtain ⟨hi_1, hF⟩ := ob_if hF
  refine va_iald (D := G) hx hb hK hP 12 0 wM_at12 rfl (vp_in_iff.mpr hi_1) dX9_top_10 ?_
  refine gw_topi (y := ((eA h 0 23) ((((eI h 0 22) - 1)).toNatClampNeg))) rfl ?_
  obtain ⟨rfl, rfl⟩ := ob_pair hF
  exact gw_iret () hx hb hr hlocks hP hD hS rfl dX9_top_11
def f_X9_opensSign (h : HS) (p1 : Int32) : Option (Int32 × HS) := (if (eI h 0 21) = 8 then (ob1 (f_X9_errs h 3) (fun h_4 => (some (0, h_4)))) else (ob1 (f_X9_opensFrame (sI h 0 21 ((eI h 0 21) + 1)) p1) (fun h_2 => (ob1 (f_X9_next h_2) (fun h_3 => (some (1, h_3)))))))
theorem e_X9_errs : yX9_errs.cls = RX9 ∧ yX9_errs.cls ≠ "java/lang/invoke/MethodHandle" ∧ yX9_errs.cls ≠ "java/lang/invoke/VarHandle" ∧ (parseMethodDescriptor yX9_errs.desc).map (fun d => d.parameters.length) = some 1 := by decide +kernel
theorem e_X9_next : yX9_next.cls = RX9 ∧ yX9_next.cls ≠ "java/lang/invoke/MethodHandle" ∧ yX9_next.cls ≠ "java/lang/invoke/VarHandle" ∧ (parseMethodDescriptor yX9_next.desc).map (fun d => d.parameters.length) = some 0 := by decide +kernel
theorem e_X9_opensFrame : yX9_opensFrame.cls = RX9 ∧ yX9_opensFrame.cls ≠ "java/lang/invoke/MethodHandle" ∧ yX9_opensFrame.cls ≠ "java/lang/invoke/VarHandle" ∧ (parseMethodDescriptor yX9_opensFrame.desc).map (fun d => d.parameters.length) = some 1 := by decide +kernel
set_option maxHeartbeats 4000000 in
set_option maxRecDepth 100000 in
theorem c_X9_opensSign (l : Launch) (G : va_G) (cI cJ cZ cB cT : ClassId) (m0 : Nat) (r : Nat → Nat) (h : HS) (p1 : Int32) (rr : Int32) (hh : HS) (hF : f_X9_opensSign h p1 = some (rr, hh)) : gMi l yX9_opensSign (gws yX9_opensSign cX9_opensSign 2 (some .boolean)) 4 G (gT cI cJ cZ cB cT) [.ref m0, .int p1] (wM m0 r cI cJ cZ cB cT h) (fun x (_ : Unit) => x = rr) (fun (_ : Unit) => (wM m0 r cI cJ cZ cB cT hh)) := by
  intro sz
  refine gM_start (y := yX9_opensSign) (av := [.ref m0, .int p1]) (ws := (wM m0 r cI cJ cZ cB cT h)) (Qf := fun A => va_Qi (fun x (_ : Unit) => x = rr) (gB G (fun (_ : Unit) => (wM m0 r cI cJ cZ cB cT hh)) A) A) (cc := cX9_opensSign) (maxL := 2) (ret := (some .boolean)) (by decide) (Nat.le_of_ble_eq_true rfl) ?_
  intro p e s m args below meth c A ls H hx hb hr hts hown hin hlocks hml hP hK hD hA hS hl hE
  have hl : lv_has ls 2 [(0, .ref m0), (1, .int p1)] := hl
  unfold f_X9_opensSign at hF
  refine lv_aload_n hx hb dX9_opensSign_0 rfl (lv_at hl 0 rfl) ?_
  refine va_get (D := G) (ci := 9) (v := .int (eI h 0 21)) (C := RX9) (T := TX9) (N := 53) hx hb hts iX9 hown hK hP 0 wM_at0 rfl 21 (by decide) (hts _ m_144) (fun _ h9 => h9) rfl dX9_opensSign_1 ?_
  refine lv_bipush (v := 8) hx hb dX9_opensSign_4 (by decide) ?_
  refine lv_icmp_ne (tgt := 16) hx hb dX9_opensSign_6 (by decide) (fun c_1 => ?_) (fun c_1 => ?_)
  · have hF := ob_neg c_1 hF
    refine lv_aload_n hx hb dX9_opensSign_16 rfl (lv_at hl 0 rfl) ?_
    refine lv_dup hx hb dX9_opensSign_17 rfl ?_
    refine va_get (D := G) (ci := 9) (v := .int (eI h 0 21)) (C := RX9) (T := TX9) (N := 53) hx hb hts iX9 hown hK hP 0 wM_at0 rfl 21 (by decide) (hts _ m_144) (fun _ h9 => h9) rfl dX9_opensSign_18 ?_
    refine lv_iconst (v := 1) hx hb dX9_opensSign_21 (by decide) ?_
    refine lv_iadd hx hb dX9_opensSign_22 ?_
    refine va_put (D := G) (ci := 9) (v := .int ((eI h 0 21) + 1)) (ty := .int) (C := RX9) (T := TX9) (N := 53) hx hb hts iX9 tyX9 tyX9_ok nmX9 hown hK hP hD hS 0 wM_at0 rfl 21 (by decide) (hts _ m_144) (fun _ h9 => h9) rfl (tyX9_ok 21 (by decide)) rfl rfl (Nat.le_of_ble_eq_true rfl) dX9_opensSign_23 (fun H locs hP hD hS => ?_)
    rw [wM_sI0_21] at hP hD
    refine lv_aload_n hx hb dX9_opensSign_26 rfl (lv_at hl 0 rfl) ?_
    refine lv_iload_n hx hb dX9_opensSign_27 rfl (lv_at hl 1 rfl) ?_
    obtain ⟨h_2, e_2, hF⟩ := ob1_some hF
    refine gx_callv (gx_runV (As := [.int p1]) (rest := []) ⟨hx, hb, hml, hown, hts⟩ (c_X9_opensFrame l G cI cJ cZ cB cT m0 r (sI h 0 21 ((eI h 0 21) + 1)) p1 h_2 e_2 H.size) (gG_V m_146 m_147 m_148 m_64 m_145) rfl e_X9_opensFrame ⟨Nat.le_of_ble_eq_true rfl, Nat.le_of_ble_eq_true rfl⟩ hK hP hD hE hS hA 0 wM_at0 rfl rfl hl.1 rfl (Nat.le_of_ble_eq_true rfl) dX9_opensSign_28 ⟨Nat.le_refl _, Nat.le_refl _⟩) hP hD hS hA (fun u_2 H locs hw_2 hP hD hS => ?_)
    refine lv_aload_n hx hb dX9_opensSign_31 rfl (lv_at hl 0 rfl) ?_
    obtain ⟨h_3, e_3, hF⟩ := ob1_some hF
    refine gx_callv (gx_runV (As := []) (rest := []) ⟨hx, hb, hml, hown, hts⟩ (c_X9_next l G cI cJ cZ cB cT m0 r h_2  h_3 e_3 H.size) (gG_V m_150 m_151 m_152 m_64 m_149) rfl e_X9_next ⟨Nat.le_of_ble_eq_true rfl, Nat.le_of_ble_eq_true rfl⟩ hK hP hD hE hS hA 0 wM_at0 rfl rfl hl.1 rfl (Nat.le_of_ble_eq_true rfl) dX9_opensSign_32 ⟨Nat.le_refl _, Nat.le_refl _⟩) hP hD hS hA (fun u_3 H locs hw_3 hP hD hS => ?_)
    refine lv_iconst (v := 1) hx hb dX9_opensSign_35 (by decide) ?_
    obtain ⟨rfl, rfl⟩ := ob_pair hF
    exact gw_zret () hx hb hr hlocks rfl hP hD hS rfl dX9_opensSign_36
  · have hF := ob_pos c_1 hF
    refine lv_aload_n hx hb dX9_opensSign_9 rfl (lv_at hl 0 rfl) ?_
    refine lv_iconst (v := 3) hx hb dX9_opensSign_10 (by decide) ?_
    obtain ⟨h_4, e_4, hF⟩ := ob1_some hF
    refine gx_callv (gx_runV (As := [.int 3]) (rest := []) ⟨hx, hb, hml, hown, hts⟩ (c_X9_errs l G cI cJ cZ cB cT m0 r h 3 h_4 e_4 H.size) (gG_V m_154 m_155 m_156 m_64 m_153) rfl e_X9_errs ⟨Nat.le_of_ble_eq_true rfl, Nat.le_of_ble_eq_true rfl⟩ hK hP hD hE hS hA 0 wM_at0 rfl rfl hl.1 rfl (Nat.le_of_ble_eq_true rfl) dX9_opensSign_11 ⟨Nat.le_refl _, Nat.le_refl _⟩) hP hD hS hA (fun u_4 H locs hw_4 hP hD hS => ?_)
    refine lv_iconst (v := 0) hx hb dX9_opensSign_14 (by decide) ?_
    obtain ⟨rfl, rfl⟩ := ob_pair hF
    exact gw_zret () hx hb hr hlocks rfl hP hD hS rfl dX9_opensSign_15
def f_X9_works_70 (h : HS) : Option HS := (some h)
def f_X9_works_0 : Nat → HS → Int32 → Option HS
  | 0, _, _ => none
  | n + 1, h, x1 => (if (eI h 0 25) ≤ 0 then (f_X9_works_70 h) else (if 0 ≤ (((eI h 0 25) - 1)).toInt ∧ (((eI h 0 25) - 1)).toInt < 80 then (if ((eA h 0 27) ((((eI h 0 25) - 1)).toNatClampNeg)) = (eI h 0 22) then (if 0 ≤ (((eI h 0 25) - 1)).toInt ∧ (((eI h 0 25) - 1)).toInt < 80 then (ob1 (f_X9_rank ((eA h 0 26) ((((eI h 0 25) - 1)).toNatClampNeg))) (fun r_5 => (if r_5 < x1 then (f_X9_works_70 h) else (if 0 ≤ (((eI h 0 25) - 1)).toInt ∧ (((eI h 0 25) - 1)).toInt < 80 then (ob1 (f_X9_emits (sI h 0 25 ((eI h 0 25) - 1)) ((eA h 0 26) ((((eI h 0 25) - 1)).toNatClampNeg)) 0) (fun h_8 => ((f_X9_works_0 n) h_8 x1))) else none)))) else none) else (f_X9_works_70 h)) else none))
theorem f_X9_works_0_s (n : Nat) (h : HS) (x1 : Int32) : f_X9_works_0 (n + 1) h x1 = (if (eI h 0 25) ≤ 0 then (f_X9_works_70 h) else (if 0 ≤ (((eI h 0 25) - 1)).toInt ∧ (((eI h 0 25) - 1)).toInt < 80 then (if ((eA h 0 27) ((((eI h 0 25) - 1)).toNatClampNeg)) = (eI h 0 22) then (if 0 ≤ (((eI h 0 25) - 1)).toInt ∧ (((eI h 0 25) - 1)).toInt < 80 then (ob1 (f_X9_rank ((eA h 0 26) ((((eI h 0 25) - 1)).toNatClampNeg))) (fun r_5 => (if r_5 < x1 then (f_X9_works_70 h) else (if 0 ≤ (((eI h 0 25) - 1)).toInt ∧ (((eI h 0 25) - 1)).toInt < 80 then (ob1 (f_X9_emits (sI h 0 25 ((eI h 0 25) - 1)) ((eA h 0 26) ((((eI h 0 25) - 1)).toNatClampNeg)) 0) (fun h_8 => ((f_X9_works_0 n) h_8 x1))) else none)))) else none) else (f_X9_works_70 h)) else none)) := rfl
def f_X9_works (h : HS) (p1 : Int32) : Option HS := (f_X9_works_0 8589934592 h p1)
theorem e_X9_emits : yX9_emits.cls = RX9 ∧ yX9_emits.cls ≠ "java/lang/invoke/MethodHandle" ∧ yX9_emits.cls ≠ "java/lang/invoke/VarHandle" ∧ (parseMethodDescriptor yX9_emits.desc).map (fun d => d.parameters.length) = some 2 := by decide +kernel
theorem e_X9_rank : yX9_rank.cls = RX9 ∧ yX9_rank.cls ≠ "java/lang/invoke/MethodHandle" ∧ yX9_rank.cls ≠ "java/lang/invoke/VarHandle" ∧ (parseMethodDescriptor yX9_rank.desc).map (fun d => d.parameters.length) = some 1 := by decide +kernel
set_option maxHeartbeats 4000000 in
set_option maxRecDepth 100000 in
theorem c_X9_works (l : Launch) (G : va_G) (cI cJ cZ cB cT : ClassId) (m0 : Nat) (r : Nat → Nat) (h : HS) (p1 : Int32) (hh : HS) (hF : f_X9_works h p1 = some hh) : gMv l yX9_works (gws yX9_works cX9_works 2 none) 2 G (gT cI cJ cZ cB cT) [.ref m0, .int p1] (wM m0 r cI cJ cZ cB cT h) (fun (_ : Unit) => True) (fun (_ : Unit) => (wM m0 r cI cJ cZ cB cT hh)) := by
  intro sz
  refine gM_start (y := yX9_works) (av := [.ref m0, .int p1]) (ws := (wM m0 r cI cJ cZ cB cT h)) (Qf := fun A => va_Qv (fun (_ : Unit) => True) (gB G (fun (_ : Unit) => (wM m0 r cI cJ cZ cB cT hh)) A) A) (cc := cX9_works) (maxL := 2) (ret := none) (by decide) (Nat.le_of_ble_eq_true rfl) ?_
  intro p e s m args below meth c A ls H hx hb hr hts hown hin hlocks hml hP hK hD hA hS hl hE
  have hl : lv_has ls 2 [(0, .ref m0), (1, .int p1)] := hl
  have hJ_70 : ∀ (h : HS), f_X9_works_70 h = some hh → ∀ (H : Heap) (locs : List Loc) (ls : Array Slot), va_P G vwCl (wM m0 r cI cJ cZ cB cT h) H → va_D A (wM m0 r cI cJ cZ cB cT h) → va_S A s.heap H locs → lv_has ls 2 [] → W p l e (gRm 2) s m args below meth c H locs 0 0 (MQ below (va_Qv (fun (_ : Unit) => True) (gB G (fun (_ : Unit) => (wM m0 r cI cJ cZ cB cT hh)) A) A) args s 0 0 A) (F0 m 70 ls []) := by
    intro h hF H locs ls hP hD hS hl
    unfold f_X9_works_70 at hF
    obtain rfl := ob_one hF
    exact gw_vret () hx hb hr hlocks hP hD hS trivial dX9_works_70
  have hJ_0 : ∀ (n_0 : Nat) (h : HS) (x1 : Int32), f_X9_works_0 n_0 h x1 = some hh → ∀ (H : Heap) (locs : List Loc) (ls : Array Slot), va_P G vwCl (wM m0 r cI cJ cZ cB cT h) H → va_D A (wM m0 r cI cJ cZ cB cT h) → va_S A s.heap H locs → lv_has ls 2 [(0, .ref m0), (1, .int x1)] → W p l e (gRm 2) s m args below meth c H locs 0 0 (MQ below (va_Qv (fun (_ : Unit) => True) (gB G (fun (_ : Unit) => (wM m0 r cI cJ cZ cB cT hh)) A) A) args s 0 0 A) (F0 m 0 ls []) := by
    intro n_0
    induction n_0 with
    | zero =>
      intro h x1 hF
      exact absurd hF (by simp [f_X9_works_0])
    | succ n_0 ih_0 =>
      intro h x1 hF H locs ls hP hD hS hl
      rw [f_X9_works_0_s] at hF
      refine lv_aload_n hx hb dX9_works_0 rfl (lv_at hl 0 rfl) ?_
      refine va_get (D := G) (ci := 9) (v := .int (eI h 0 25)) (C := RX9) (T := TX9) (N := 53) hx hb hts iX9 hown hK hP 0 wM_at0 rfl 25 (by decide) (hts _ m_157) (fun _ h9 => h9) rfl dX9_works_1 ?_
      refine lv_if_le (tgt := 70) hx hb dX9_works_4 (by decide) (fun c_1 => ?_) (fun c_1 => ?_)
      · have hF := ob_pos c_1 hF
        exact hJ_70 h hF H _ ls hP hD hS (lv_sub hl [] rfl)
      · have hF := ob_neg c_1 hF
        refine lv_aload_n hx hb dX9_works_7 rfl (lv_at hl 0 rfl) ?_
        refine va_get (D := G) (ci := 9) (v := .ref (r 27)) (C := RX9) (T := TX9) (N := 53) hx hb hts iX9 hown hK hP 0 wM_at0 rfl 27 (by decide) (hts _ m_158) (fun _ h9 => h9) rfl dX9_works_8 ?_
        refine lv_aload_n hx hb dX9_works_11 rfl (lv_at hl 0 rfl) ?_
        refine va_get (D := G) (ci := 9) (v := .int (eI h 0 25)) (C := RX9) (T := TX9) (N := 53) hx hb hts iX9 hown hK hP 0 wM_at0 rfl 25 (by decide) (hts _ m_157) (fun _ h9 => h9) rfl dX9_works_12 ?_
        refine lv_iconst (v := 1) hx hb dX9_works_15 (by decide) ?_
        refine lv_isub hx hb dX9_works_16 ?_
        obtain ⟨hi_2, hF⟩ := ob_if hF
        refine va_iald (D := G) hx hb hK hP 15 0 wM_at15 rfl (vp_in_iff.mpr hi_2) dX9_works_17 ?_
        refine gw_topi (y := ((eA h 0 27) ((((eI h 0 25) - 1)).toNatClampNeg))) rfl ?_
        refine lv_aload_n hx hb dX9_works_18 rfl (lv_at hl 0 rfl) ?_
        refine va_get (D := G) (ci := 9) (v := .int (eI h 0 22)) (C := RX9) (T := TX9) (N := 53) hx hb hts iX9 hown hK hP 0 wM_at0 rfl 22 (by decide) (hts _ m_143) (fun _ h9 => h9) rfl dX9_works_19 ?_
        refine lv_icmp_ne (tgt := 70) hx hb dX9_works_22 (by decide) (fun c_3 => ?_) (fun c_3 => ?_)
        · have hF := ob_neg c_3 hF
          exact hJ_70 h hF H _ ls hP hD hS (lv_sub hl [] rfl)
        · have hF := ob_pos c_3 hF
          refine lv_aload_n hx hb dX9_works_25 rfl (lv_at hl 0 rfl) ?_
          refine va_get (D := G) (ci := 9) (v := .ref (r 26)) (C := RX9) (T := TX9) (N := 53) hx hb hts iX9 hown hK hP 0 wM_at0 rfl 26 (by decide) (hts _ m_159) (fun _ h9 => h9) rfl dX9_works_26 ?_
          refine lv_aload_n hx hb dX9_works_29 rfl (lv_at hl 0 rfl) ?_
          refine va_get (D := G) (ci := 9) (v := .int (eI h 0 25)) (C := RX9) (T := TX9) (N := 53) hx hb hts iX9 hown hK hP 0 wM_at0 rfl 25 (by decide) (hts _ m_157) (fun _ h9 => h9) rfl dX9_works_30 ?_
          refine lv_iconst (v := 1) hx hb dX9_works_33 (by decide) ?_
          refine lv_isub hx hb dX9_works_34 ?_
          obtain ⟨hi_4, hF⟩ := ob_if hF
          refine va_iald (D := G) hx hb hK hP 14 0 wM_at14 rfl (vp_in_iff.mpr hi_4) dX9_works_35 ?_
          refine gw_topi (y := ((eA h 0 26) ((((eI h 0 25) - 1)).toNatClampNeg))) rfl ?_
          obtain ⟨r_5, e_5, hF⟩ := ob1_some hF
          refine gx_calli0 (gx_runS0 (As := [.int ((eA h 0 26) ((((eI h 0 25) - 1)).toNatClampNeg))]) (rest := []) ⟨hx, hb, hml, hown, hts⟩ (c_X9_rank l G cI cJ cZ cB cT   ((eA h 0 26) ((((eI h 0 25) - 1)).toNatClampNeg)) r_5 e_5 H.size) (gG_S m_161 m_162 m_64 m_160) rfl e_X9_rank ⟨Nat.le_of_ble_eq_true rfl, Nat.le_of_ble_eq_true rfl⟩ hK hE hS hA rfl hl.1 rfl (Nat.le_of_ble_eq_true rfl) dX9_works_36 ⟨Nat.le_refl _, Nat.le_refl _⟩) hP hD hS hA (fun x_5 u_5 H locs hw_5 hP hD hS => ?_)
          subst x_5
          refine lv_iload_n hx hb dX9_works_39 rfl (lv_at hl 1 rfl) ?_
          refine lv_icmp_lt (tgt := 70) hx hb dX9_works_40 (by decide) (fun c_6 => ?_) (fun c_6 => ?_)
          · have hF := ob_pos c_6 hF
            exact hJ_70 h hF H _ ls hP hD hS (lv_sub hl [] rfl)
          · have hF := ob_neg c_6 hF
            refine lv_aload_n hx hb dX9_works_43 rfl (lv_at hl 0 rfl) ?_
            refine lv_dup hx hb dX9_works_44 rfl ?_
            refine va_get (D := G) (ci := 9) (v := .int (eI h 0 25)) (C := RX9) (T := TX9) (N := 53) hx hb hts iX9 hown hK hP 0 wM_at0 rfl 25 (by decide) (hts _ m_157) (fun _ h9 => h9) rfl dX9_works_45 ?_
            refine lv_iconst (v := 1) hx hb dX9_works_48 (by decide) ?_
            refine lv_isub hx hb dX9_works_49 ?_
            refine va_put (D := G) (ci := 9) (v := .int ((eI h 0 25) - 1)) (ty := .int) (C := RX9) (T := TX9) (N := 53) hx hb hts iX9 tyX9 tyX9_ok nmX9 hown hK hP hD hS 0 wM_at0 rfl 25 (by decide) (hts _ m_157) (fun _ h9 => h9) rfl (tyX9_ok 25 (by decide)) rfl rfl (Nat.le_of_ble_eq_true rfl) dX9_works_50 (fun H locs hP hD hS => ?_)
            rw [wM_sI0_25] at hP hD
            refine lv_aload_n hx hb dX9_works_53 rfl (lv_at hl 0 rfl) ?_
            refine lv_aload_n hx hb dX9_works_54 rfl (lv_at hl 0 rfl) ?_
            refine va_get (D := G) (ci := 9) (v := .ref (r 26)) (C := RX9) (T := TX9) (N := 53) hx hb hts iX9 hown hK hP 0 wM_at0 rfl 26 (by decide) (hts _ m_159) (fun _ h9 => h9) rfl dX9_works_55 ?_
            refine lv_aload_n hx hb dX9_works_58 rfl (lv_at hl 0 rfl) ?_
            refine va_get (D := G) (ci := 9) (v := .int ((eI h 0 25) - 1)) (C := RX9) (T := TX9) (N := 53) hx hb hts iX9 hown hK hP 0 wM_at0 rfl 25 (by decide) (hts _ m_157) (fun _ h9 => h9) rfl dX9_works_59 ?_
            obtain ⟨hi_7, hF⟩ := ob_if hF
            refine va_iald (D := G) hx hb hK hP 14 0 wM_at14 rfl (vp_in_iff.mpr hi_7) dX9_works_62 ?_
            refine gw_topi (y := ((eA h 0 26) ((((eI h 0 25) - 1)).toNatClampNeg))) rfl ?_
            refine lv_iconst (v := 0) hx hb dX9_works_63 (by decide) ?_
            obtain ⟨h_8, e_8, hF⟩ := ob1_some hF
            refine gx_callv (gx_runV (As := [.int ((eA h 0 26) ((((eI h 0 25) - 1)).toNatClampNeg)), .int 0]) (rest := []) ⟨hx, hb, hml, hown, hts⟩ (c_X9_emits l G cI cJ cZ cB cT m0 r (sI h 0 25 ((eI h 0 25) - 1)) ((eA h 0 26) ((((eI h 0 25) - 1)).toNatClampNeg)) 0 h_8 e_8 H.size) (gG_V m_164 m_165 m_166 m_64 m_163) rfl e_X9_emits ⟨Nat.le_of_ble_eq_true rfl, Nat.le_of_ble_eq_true rfl⟩ hK hP hD hE hS hA 0 wM_at0 rfl rfl hl.1 rfl (Nat.le_of_ble_eq_true rfl) dX9_works_64 ⟨Nat.le_refl _, Nat.le_refl _⟩) hP hD hS hA (fun u_8 H locs hw_8 hP hD hS => ?_)
            refine lv_goto (tgt := 0) hx hb dX9_works_67 (by decide) ?_
            exact ih_0 h_8 x1 hF H _ ls hP hD hS (lv_sub hl [0, 1] rfl)
  unfold f_X9_works at hF
  exact hJ_0 8589934592 h p1 hF H _ ls hP hD hS (lv_sub hl [0, 1] rfl)
def f_X9_waitsFor (h : HS) (p1 : Int32) : Option HS := (ob1 (f_X9_rank p1) (fun r_1 => (ob1 (f_X9_works h r_1) (fun h_2 => (if 0 ≤ ((eI h_2 0 25)).toInt ∧ ((eI h_2 0 25)).toInt < 80 then (if 0 ≤ ((eI h_2 0 25)).toInt ∧ ((eI h_2 0 25)).toInt < 80 then (ob1 (f_X9_next (sI (sA (sA h_2 0 26 (upd (eA h_2 0 26) (((eI h_2 0 25)).toNatClampNeg) p1)) 0 27 (upd (eA h_2 0 27) (((eI h_2 0 25)).toNatClampNeg) (eI h_2 0 22))) 0 25 ((eI h_2 0 25) + 1))) (fun h_5 => (some h_5))) else none) else none)))))
theorem e_X9_works : yX9_works.cls = RX9 ∧ yX9_works.cls ≠ "java/lang/invoke/MethodHandle" ∧ yX9_works.cls ≠ "java/lang/invoke/VarHandle" ∧ (parseMethodDescriptor yX9_works.desc).map (fun d => d.parameters.length) = some 1 := by decide +kernel
set_option maxHeartbeats 4000000 in
set_option maxRecDepth 100000 in
theorem c_X9_waitsFor (l : Launch) (G : va_G) (cI cJ cZ cB cT : ClassId) (m0 : Nat) (r : Nat → Nat) (h : HS) (p1 : Int32) (hh : HS) (hF : f_X9_waitsFor h p1 = some hh) : gMv l yX9_waitsFor (gws yX9_waitsFor cX9_waitsFor 2 none) 4 G (gT cI cJ cZ cB cT) [.ref m0, .int p1] (wM m0 r cI cJ cZ cB cT h) (fun (_ : Unit) => True) (fun (_ : Unit) => (wM m0 r cI cJ cZ cB cT hh)) := by
  intro sz
  refine gM_start (y := yX9_waitsFor) (av := [.ref m0, .int p1]) (ws := (wM m0 r cI cJ cZ cB cT h)) (Qf := fun A => va_Qv (fun (_ : Unit) => True) (gB G (fun (_ : Unit) => (wM m0 r cI cJ cZ cB cT hh)) A) A) (cc := cX9_waitsFor) (maxL := 2) (ret := none) (by decide) (Nat.le_of_ble_eq_true rfl) ?_
  intro p e s m args below meth c A ls H hx hb hr hts hown hin hlocks hml hP hK hD hA hS hl hE
  have hl : lv_has ls 2 [(0, .ref m0), (1, .int p1)] := hl
  unfold f_X9_waitsFor at hF
  refine lv_aload_n hx hb dX9_waitsFor_0 rfl (lv_at hl 0 rfl) ?_
  refine lv_iload_n hx hb dX9_waitsFor_1 rfl (lv_at hl 1 rfl) ?_
  obtain ⟨r_1, e_1, hF⟩ := ob1_some hF
  refine gx_calli0 (gx_runS0 (As := [.int p1]) (rest := [.ref m0]) ⟨hx, hb, hml, hown, hts⟩ (c_X9_rank l G cI cJ cZ cB cT   p1 r_1 e_1 H.size) (gG_S m_161 m_162 m_64 m_160) rfl e_X9_rank ⟨Nat.le_of_ble_eq_true rfl, Nat.le_of_ble_eq_true rfl⟩ hK hE hS hA rfl hl.1 rfl (Nat.le_of_ble_eq_true rfl) dX9_waitsFor_2 ⟨Nat.le_refl _, Nat.le_refl _⟩) hP hD hS hA (fun x_1 u_1 H locs hw_1 hP hD hS => ?_)
  subst x_1
  obtain ⟨h_2, e_2, hF⟩ := ob1_some hF
  refine gx_callv (gx_runV (As := [.int r_1]) (rest := []) ⟨hx, hb, hml, hown, hts⟩ (c_X9_works l G cI cJ cZ cB cT m0 r h r_1 h_2 e_2 H.size) (gG_V m_168 m_169 m_170 m_64 m_167) rfl e_X9_works ⟨Nat.le_of_ble_eq_true rfl, Nat.le_of_ble_eq_true rfl⟩ hK hP hD hE hS hA 0 wM_at0 rfl rfl hl.1 rfl (Nat.le_of_ble_eq_true rfl) dX9_waitsFor_5 ⟨Nat.le_refl _, Nat.le_refl _⟩) hP hD hS hA (fun u_2 H locs hw_2 hP hD hS => ?_)
  refine lv_aload_n hx hb dX9_waitsFor_8 rfl (lv_at hl 0 rfl) ?_
  refine va_get (D := G) (ci := 9) (v := .ref (r 26)) (C := RX9) (T := TX9) (N := 53) hx hb hts iX9 hown hK hP 0 wM_at0 rfl 26 (by decide) (hts _ m_159) (fun _ h9 => h9) rfl dX9_waitsFor_9 ?_
  refine lv_aload_n hx hb dX9_waitsFor_12 rfl (lv_at hl 0 rfl) ?_
  refine va_get (D := G) (ci := 9) (v := .int (eI h_2 0 25)) (C := RX9) (T := TX9) (N := 53) hx hb hts iX9 hown hK hP 0 wM_at0 rfl 25 (by decide) (hts _ m_157) (fun _ h9 => h9) rfl dX9_waitsFor_13 ?_
  refine lv_iload_n hx hb dX9_waitsFor_16 rfl (lv_at hl 1 rfl) ?_
  obtain ⟨hi_3, hF⟩ := ob_if hF
  refine va_iast (D := G) hx hb hK hP hD hS 14 0 wM_at14 rfl (vp_in_iff.mpr hi_3) dX9_waitsFor_17 (fun H locs hP hD hS => ?_)
  rw [wM_sA14] at hP hD
  have hP : va_P G vwCl (wM m0 r cI cJ cZ cB cT (sA h_2 0 26 (upd (eA h_2 0 26) (((eI h_2 0 25)).toNatClampNeg) p1))) H := hP
  have hD : va_D A (wM m0 r cI cJ cZ cB cT (sA h_2 0 26 (upd (eA h_2 0 26) (((eI h_2 0 25)).toNatClampNeg) p1))) := hD
  refine lv_aload_n hx hb dX9_waitsFor_18 rfl (lv_at hl 0 rfl) ?_
  refine va_get (D := G) (ci := 9) (v := .ref (r 27)) (C := RX9) (T := TX9) (N := 53) hx hb hts iX9 hown hK hP 0 wM_at0 rfl 27 (by decide) (hts _ m_158) (fun _ h9 => h9) rfl dX9_waitsFor_19 ?_
  refine lv_aload_n hx hb dX9_waitsFor_22 rfl (lv_at hl 0 rfl) ?_
  refine va_get (D := G) (ci := 9) (v := .int (eI h_2 0 25)) (C := RX9) (T := TX9) (N := 53) hx hb hts iX9 hown hK hP 0 wM_at0 rfl 25 (by decide) (hts _ m_157) (fun _ h9 => h9) rfl dX9_waitsFor_23 ?_
  refine lv_aload_n hx hb dX9_waitsFor_26 rfl (lv_at hl 0 rfl) ?_
  refine va_get (D := G) (ci := 9) (v := .int (eI h_2 0 22)) (C := RX9) (T := TX9) (N := 53) hx hb hts iX9 hown hK hP 0 wM_at0 rfl 22 (by decide) (hts _ m_143) (fun _ h9 => h9) rfl dX9_waitsFor_27 ?_
  obtain ⟨hi_4, hF⟩ := ob_if hF
  refine va_iast (D := G) hx hb hK hP hD hS 15 0 wM_at15 rfl (vp_in_iff.mpr hi_4) dX9_waitsFor_30 (fun H locs hP hD hS => ?_)
  rw [wM_sA15] at hP hD
  have hP : va_P G vwCl (wM m0 r cI cJ cZ cB cT (sA (sA h_2 0 26 (upd (eA h_2 0 26) (((eI h_2 0 25)).toNatClampNeg) p1)) 0 27 (upd (eA h_2 0 27) (((eI h_2 0 25)).toNatClampNeg) (eI h_2 0 22)))) H := hP
  have hD : va_D A (wM m0 r cI cJ cZ cB cT (sA (sA h_2 0 26 (upd (eA h_2 0 26) (((eI h_2 0 25)).toNatClampNeg) p1)) 0 27 (upd (eA h_2 0 27) (((eI h_2 0 25)).toNatClampNeg) (eI h_2 0 22)))) := hD
  refine lv_aload_n hx hb dX9_waitsFor_31 rfl (lv_at hl 0 rfl) ?_
  refine lv_dup hx hb dX9_waitsFor_32 rfl ?_
  refine va_get (D := G) (ci := 9) (v := .int (eI h_2 0 25)) (C := RX9) (T := TX9) (N := 53) hx hb hts iX9 hown hK hP 0 wM_at0 rfl 25 (by decide) (hts _ m_157) (fun _ h9 => h9) rfl dX9_waitsFor_33 ?_
  refine lv_iconst (v := 1) hx hb dX9_waitsFor_36 (by decide) ?_
  refine lv_iadd hx hb dX9_waitsFor_37 ?_
  refine va_put (D := G) (ci := 9) (v := .int ((eI h_2 0 25) + 1)) (ty := .int) (C := RX9) (T := TX9) (N := 53) hx hb hts iX9 tyX9 tyX9_ok nmX9 hown hK hP hD hS 0 wM_at0 rfl 25 (by decide) (hts _ m_157) (fun _ h9 => h9) rfl (tyX9_ok 25 (by decide)) rfl rfl (Nat.le_of_ble_eq_true rfl) dX9_waitsFor_38 (fun H locs hP hD hS => ?_)
  rw [wM_sI0_25] at hP hD
  refine lv_aload_n hx hb dX9_waitsFor_41 rfl (lv_at hl 0 rfl) ?_
  obtain ⟨h_5, e_5, hF⟩ := ob1_some hF
  refine gx_callv (gx_runV (As := []) (rest := []) ⟨hx, hb, hml, hown, hts⟩ (c_X9_next l G cI cJ cZ cB cT m0 r (sI (sA (sA h_2 0 26 (upd (eA h_2 0 26) (((eI h_2 0 25)).toNatClampNeg) p1)) 0 27 (upd (eA h_2 0 27) (((eI h_2 0 25)).toNatClampNeg) (eI h_2 0 22))) 0 25 ((eI h_2 0 25) + 1))  h_5 e_5 H.size) (gG_V m_150 m_151 m_152 m_64 m_149) rfl e_X9_next ⟨Nat.le_of_ble_eq_true rfl, Nat.le_of_ble_eq_true rfl⟩ hK hP hD hE hS hA 0 wM_at0 rfl rfl hl.1 rfl (Nat.le_of_ble_eq_true rfl) dX9_waitsFor_42 ⟨Nat.le_refl _, Nat.le_refl _⟩) hP hD hS hA (fun u_5 H locs hw_5 hP hD hS => ?_)
  obtain rfl := ob_one hF
  exact gw_vret () hx hb hr hlocks hP hD hS trivial dX9_waitsFor_45
def f_X9_asks_28 (h : HS) : Option HS := (some h)
def f_X9_asks (h : HS) : Option HS := (ob2 (f_X9_isWord h 12) (fun r_1 h_1 => (if r_1 = 0 then (ob1 (f_X9_opensFrame h_1 4) (fun h_3 => (f_X9_asks_28 (sI h_3 0 28 1)))) else (ob2 (f_X9_opensSign h_1 3) (fun r_4 h_4 => (f_X9_asks_28 h_4))))))
theorem e_X9_isWord : yX9_isWord.cls = RX9 ∧ yX9_isWord.cls ≠ "java/lang/invoke/MethodHandle" ∧ yX9_isWord.cls ≠ "java/lang/invoke/VarHandle" ∧ (parseMethodDescriptor yX9_isWord.desc).map (fun d => d.parameters.length) = some 1 := by decide +kernel
theorem e_X9_opensSign : yX9_opensSign.cls = RX9 ∧ yX9_opensSign.cls ≠ "java/lang/invoke/MethodHandle" ∧ yX9_opensSign.cls ≠ "java/lang/invoke/VarHandle" ∧ (parseMethodDescriptor yX9_opensSign.desc).map (fun d => d.parameters.length) = some 1 := by decide +kernel
set_option maxHeartbeats 4000000 in
set_option maxRecDepth 100000 in
theorem c_X9_asks (l : Launch) (G : va_G) (cI cJ cZ cB cT : ClassId) (m0 : Nat) (r : Nat → Nat) (h : HS)  (hh : HS) (hF : f_X9_asks h = some hh) : gMv l yX9_asks (gws yX9_asks cX9_asks 2 none) 5 G (gT cI cJ cZ cB cT) [.ref m0] (wM m0 r cI cJ cZ cB cT h) (fun (_ : Unit) => True) (fun (_ : Unit) => (wM m0 r cI cJ cZ cB cT hh)) := by
  intro sz
  refine gM_start (y := yX9_asks) (av := [.ref m0]) (ws := (wM m0 r cI cJ cZ cB cT h)) (Qf := fun A => va_Qv (fun (_ : Unit) => True) (gB G (fun (_ : Unit) => (wM m0 r cI cJ cZ cB cT hh)) A) A) (cc := cX9_asks) (maxL := 2) (ret := none) (by decide) (Nat.le_of_ble_eq_true rfl) ?_
  intro p e s m args below meth c A ls H hx hb hr hts hown hin hlocks hml hP hK hD hA hS hl hE
  have hl : lv_has ls 2 [(0, .ref m0)] := hl
  have hJ_28 : ∀ (h : HS), f_X9_asks_28 h = some hh → ∀ (H : Heap) (locs : List Loc) (ls : Array Slot), va_P G vwCl (wM m0 r cI cJ cZ cB cT h) H → va_D A (wM m0 r cI cJ cZ cB cT h) → va_S A s.heap H locs → lv_has ls 2 [] → W p l e (gRm 5) s m args below meth c H locs 0 0 (MQ below (va_Qv (fun (_ : Unit) => True) (gB G (fun (_ : Unit) => (wM m0 r cI cJ cZ cB cT hh)) A) A) args s 0 0 A) (F0 m 28 ls []) := by
    intro h hF H locs ls hP hD hS hl
    unfold f_X9_asks_28 at hF
    obtain rfl := ob_one hF
    exact gw_vret () hx hb hr hlocks hP hD hS trivial dX9_asks_28
  unfold f_X9_asks at hF
  refine lv_aload_n hx hb dX9_asks_0 rfl (lv_at hl 0 rfl) ?_
  refine lv_bipush (v := 12) hx hb dX9_asks_1 (by decide) ?_
  obtain ⟨r_1, h_1, e_1, hF⟩ := ob2_some hF
  refine gx_calli (gx_runV (As := [.int 12]) (rest := []) ⟨hx, hb, hml, hown, hts⟩ (c_X9_isWord l G cI cJ cZ cB cT m0 r h 12 r_1 h_1 e_1 H.size) (gG_V m_172 m_173 m_174 m_64 m_171) rfl e_X9_isWord ⟨Nat.le_of_ble_eq_true rfl, Nat.le_of_ble_eq_true rfl⟩ hK hP hD hE hS hA 0 wM_at0 rfl rfl hl.1 rfl (Nat.le_of_ble_eq_true rfl) dX9_asks_3 ⟨Nat.le_refl _, Nat.le_refl _⟩) hP hD hS hA (fun x_1 u_1 H locs hw_1 hP hD hS => ?_)
  subst x_1
  refine lv_if_eq (tgt := 18) hx hb dX9_asks_6 (by decide) (fun c_2 => ?_) (fun c_2 => ?_)
  · have hF := ob_pos c_2 hF
    refine lv_aload_n hx hb dX9_asks_18 rfl (lv_at hl 0 rfl) ?_
    refine lv_iconst (v := 4) hx hb dX9_asks_19 (by decide) ?_
    obtain ⟨h_3, e_3, hF⟩ := ob1_some hF
    refine gx_callv (gx_runV (As := [.int 4]) (rest := []) ⟨hx, hb, hml, hown, hts⟩ (c_X9_opensFrame l G cI cJ cZ cB cT m0 r h_1 4 h_3 e_3 H.size) (gG_V m_146 m_147 m_148 m_64 m_145) rfl e_X9_opensFrame ⟨Nat.le_of_ble_eq_true rfl, Nat.le_of_ble_eq_true rfl⟩ hK hP hD hE hS hA 0 wM_at0 rfl rfl hl.1 rfl (Nat.le_of_ble_eq_true rfl) dX9_asks_20 ⟨Nat.le_refl _, Nat.le_refl _⟩) hP hD hS hA (fun u_3 H locs hw_3 hP hD hS => ?_)
    refine lv_aload_n hx hb dX9_asks_23 rfl (lv_at hl 0 rfl) ?_
    refine lv_iconst (v := 1) hx hb dX9_asks_24 (by decide) ?_
    refine va_put (D := G) (ci := 9) (v := .int 1) (ty := .int) (C := RX9) (T := TX9) (N := 53) hx hb hts iX9 tyX9 tyX9_ok nmX9 hown hK hP hD hS 0 wM_at0 rfl 28 (by decide) (hts _ m_175) (fun _ h9 => h9) rfl (tyX9_ok 28 (by decide)) rfl rfl (Nat.le_of_ble_eq_true rfl) dX9_asks_25 (fun H locs hP hD hS => ?_)
    rw [wM_sI0_28] at hP hD
    exact hJ_28 (sI h_3 0 28 1) hF H _ ls hP hD hS (lv_sub hl [] rfl)
  · have hF := ob_neg c_2 hF
    refine lv_aload_n hx hb dX9_asks_9 rfl (lv_at hl 0 rfl) ?_
    refine lv_iconst (v := 3) hx hb dX9_asks_10 (by decide) ?_
    obtain ⟨r_4, h_4, e_4, hF⟩ := ob2_some hF
    refine gx_calli (gx_runV (As := [.int 3]) (rest := []) ⟨hx, hb, hml, hown, hts⟩ (c_X9_opensSign l G cI cJ cZ cB cT m0 r h_1 3 r_4 h_4 e_4 H.size) (gG_V m_177 m_178 m_179 m_64 m_176) rfl e_X9_opensSign ⟨Nat.le_of_ble_eq_true rfl, Nat.le_of_ble_eq_true rfl⟩ hK hP hD hE hS hA 0 wM_at0 rfl rfl hl.1 rfl (Nat.le_of_ble_eq_true rfl) dX9_asks_11 ⟨Nat.le_refl _, Nat.le_refl _⟩) hP hD hS hA (fun x_4 u_4 H locs hw_4 hP hD hS => ?_)
    subst x_4
    refine lv_istore_n (lv' := [(1, .int r_4), (0, .ref m0)]) hx hb dX9_asks_14 rfl hl (by decide) rfl (fun ls hl => ?_)
    refine lv_goto (tgt := 28) hx hb dX9_asks_15 (by decide) ?_
    exact hJ_28 h_4 hF H _ ls hP hD hS (lv_sub hl [] rfl)
def f_X9_oneIsOver_0 : Nat → HS → Option HS
  | 0, _ => none
  | n + 1, h => (ob2 (f_X9_top h) (fun r_1 h_1 => (if r_1 = 7 then (ob1 (f_X9_emits (sI (sI h_1 0 22 ((eI h_1 0 22) - 1)) 0 21 ((eI h_1 0 21) - 1)) 402 0) (fun h_3 => ((f_X9_oneIsOver_0 n) h_3))) else (some (sI h_1 0 28 2)))))
theorem f_X9_oneIsOver_0_s (n : Nat) (h : HS) : f_X9_oneIsOver_0 (n + 1) h = (ob2 (f_X9_top h) (fun r_1 h_1 => (if r_1 = 7 then (ob1 (f_X9_emits (sI (sI h_1 0 22 ((eI h_1 0 22) - 1)) 0 21 ((eI h_1 0 21) - 1)) 402 0) (fun h_3 => ((f_X9_oneIsOver_0 n) h_3))) else (some (sI h_1 0 28 2))))) := rfl
def f_X9_oneIsOver (h : HS) : Option HS := (f_X9_oneIsOver_0 8589934592 h)
theorem e_X9_top : yX9_top.cls = RX9 ∧ yX9_top.cls ≠ "java/lang/invoke/MethodHandle" ∧ yX9_top.cls ≠ "java/lang/invoke/VarHandle" ∧ (parseMethodDescriptor yX9_top.desc).map (fun d => d.parameters.length) = some 0 := by decide +kernel
set_option maxHeartbeats 4000000 in
set_option maxRecDepth 100000 in
theorem c_X9_oneIsOver (l : Launch) (G : va_G) (cI cJ cZ cB cT : ClassId) (m0 : Nat) (r : Nat → Nat) (h : HS)  (hh : HS) (hF : f_X9_oneIsOver h = some hh) : gMv l yX9_oneIsOver (gws yX9_oneIsOver cX9_oneIsOver 1 none) 2 G (gT cI cJ cZ cB cT) [.ref m0] (wM m0 r cI cJ cZ cB cT h) (fun (_ : Unit) => True) (fun (_ : Unit) => (wM m0 r cI cJ cZ cB cT hh)) := by
  intro sz
  refine gM_start (y := yX9_oneIsOver) (av := [.ref m0]) (ws := (wM m0 r cI cJ cZ cB cT h)) (Qf := fun A => va_Qv (fun (_ : Unit) => True) (gB G (fun (_ : Unit) => (wM m0 r cI cJ cZ cB cT hh)) A) A) (cc := cX9_oneIsOver) (maxL := 1) (ret := none) (by decide) (Nat.le_of_ble_eq_true rfl) ?_
  intro p e s m args below meth c A ls H hx hb hr hts hown hin hlocks hml hP hK hD hA hS hl hE
  have hl : lv_has ls 1 [(0, .ref m0)] := hl
  have hJ_0 : ∀ (n_0 : Nat) (h : HS), f_X9_oneIsOver_0 n_0 h = some hh → ∀ (H : Heap) (locs : List Loc) (ls : Array Slot), va_P G vwCl (wM m0 r cI cJ cZ cB cT h) H → va_D A (wM m0 r cI cJ cZ cB cT h) → va_S A s.heap H locs → lv_has ls 1 [(0, .ref m0)] → W p l e (gRm 2) s m args below meth c H locs 0 0 (MQ below (va_Qv (fun (_ : Unit) => True) (gB G (fun (_ : Unit) => (wM m0 r cI cJ cZ cB cT hh)) A) A) args s 0 0 A) (F0 m 0 ls []) := by
    intro n_0
    induction n_0 with
    | zero =>
      intro h hF
      exact absurd hF (by simp [f_X9_oneIsOver_0])
    | succ n_0 ih_0 =>
      intro h hF H locs ls hP hD hS hl
      rw [f_X9_oneIsOver_0_s] at hF
      refine lv_aload_n hx hb dX9_oneIsOver_0 rfl (lv_at hl 0 rfl) ?_
      obtain ⟨r_1, h_1, e_1, hF⟩ := ob2_some hF
      refine gx_calli (gx_runV (As := []) (rest := []) ⟨hx, hb, hml, hown, hts⟩ (c_X9_top l G cI cJ cZ cB cT m0 r h  r_1 h_1 e_1 H.size) (gG_V m_181 m_182 m_183 m_64 m_180) rfl e_X9_top ⟨Nat.le_of_ble_eq_true rfl, Nat.le_of_ble_eq_true rfl⟩ hK hP hD hE hS hA 0 wM_at0 rfl rfl hl.1 rfl (Nat.le_of_ble_eq_true rfl) dX9_oneIsOver_1 ⟨Nat.le_refl _, Nat.le_refl _⟩) hP hD hS hA (fun x_1 u_1 H locs hw_1 hP hD hS => ?_)
      subst x_1
      refine lv_bipush (v := 7) hx hb dX9_oneIsOver_4 (by decide) ?_
      refine lv_icmp_ne (tgt := 40) hx hb dX9_oneIsOver_6 (by decide) (fun c_2 => ?_) (fun c_2 => ?_)
      · have hF := ob_neg c_2 hF
        refine lv_aload_n hx hb dX9_oneIsOver_40 rfl (lv_at hl 0 rfl) ?_
        refine lv_iconst (v := 2) hx hb dX9_oneIsOver_41 (by decide) ?_
        refine va_put (D := G) (ci := 9) (v := .int 2) (ty := .int) (C := RX9) (T := TX9) (N := 53) hx hb hts iX9 tyX9 tyX9_ok nmX9 hown hK hP hD hS 0 wM_at0 rfl 28 (by decide) (hts _ m_175) (fun _ h9 => h9) rfl (tyX9_ok 28 (by decide)) rfl rfl (Nat.le_of_ble_eq_true rfl) dX9_oneIsOver_42 (fun H locs hP hD hS => ?_)
        rw [wM_sI0_28] at hP hD
        obtain rfl := ob_one hF
        exact gw_vret () hx hb hr hlocks hP hD hS trivial dX9_oneIsOver_45
      · have hF := ob_pos c_2 hF
        refine lv_aload_n hx hb dX9_oneIsOver_9 rfl (lv_at hl 0 rfl) ?_
        refine lv_dup hx hb dX9_oneIsOver_10 rfl ?_
        refine va_get (D := G) (ci := 9) (v := .int (eI h_1 0 22)) (C := RX9) (T := TX9) (N := 53) hx hb hts iX9 hown hK hP 0 wM_at0 rfl 22 (by decide) (hts _ m_143) (fun _ h9 => h9) rfl dX9_oneIsOver_11 ?_
        refine lv_iconst (v := 1) hx hb dX9_oneIsOver_14 (by decide) ?_
        refine lv_isub hx hb dX9_oneIsOver_15 ?_
        refine va_put (D := G) (ci := 9) (v := .int ((eI h_1 0 22) - 1)) (ty := .int) (C := RX9) (T := TX9) (N := 53) hx hb hts iX9 tyX9 tyX9_ok nmX9 hown hK hP hD hS 0 wM_at0 rfl 22 (by decide) (hts _ m_143) (fun _ h9 => h9) rfl (tyX9_ok 22 (by decide)) rfl rfl (Nat.le_of_ble_eq_true rfl) dX9_oneIsOver_16 (fun H locs hP hD hS => ?_)
        rw [wM_sI0_22] at hP hD
        refine lv_aload_n hx hb dX9_oneIsOver_19 rfl (lv_at hl 0 rfl) ?_
        refine lv_dup hx hb dX9_oneIsOver_20 rfl ?_
        refine va_get (D := G) (ci := 9) (v := .int (eI h_1 0 21)) (C := RX9) (T := TX9) (N := 53) hx hb hts iX9 hown hK hP 0 wM_at0 rfl 21 (by decide) (hts _ m_144) (fun _ h9 => h9) rfl dX9_oneIsOver_21 ?_
        refine lv_iconst (v := 1) hx hb dX9_oneIsOver_24 (by decide) ?_
        refine lv_isub hx hb dX9_oneIsOver_25 ?_
        refine va_put (D := G) (ci := 9) (v := .int ((eI h_1 0 21) - 1)) (ty := .int) (C := RX9) (T := TX9) (N := 53) hx hb hts iX9 tyX9 tyX9_ok nmX9 hown hK hP hD hS 0 wM_at0 rfl 21 (by decide) (hts _ m_144) (fun _ h9 => h9) rfl (tyX9_ok 21 (by decide)) rfl rfl (Nat.le_of_ble_eq_true rfl) dX9_oneIsOver_26 (fun H locs hP hD hS => ?_)
        rw [wM_sI0_21] at hP hD
        refine lv_aload_n hx hb dX9_oneIsOver_29 rfl (lv_at hl 0 rfl) ?_
        refine lv_sipush (v := 402) hx hb dX9_oneIsOver_30 (by decide) ?_
        refine lv_iconst (v := 0) hx hb dX9_oneIsOver_33 (by decide) ?_
        obtain ⟨h_3, e_3, hF⟩ := ob1_some hF
        refine gx_callv (gx_runV (As := [.int 402, .int 0]) (rest := []) ⟨hx, hb, hml, hown, hts⟩ (c_X9_emits l G cI cJ cZ cB cT m0 r (sI (sI h_1 0 22 ((eI h_1 0 22) - 1)) 0 21 ((eI h_1 0 21) - 1)) 402 0 h_3 e_3 H.size) (gG_V m_164 m_165 m_166 m_64 m_163) rfl e_X9_emits ⟨Nat.le_of_ble_eq_true rfl, Nat.le_of_ble_eq_true rfl⟩ hK hP hD hE hS hA 0 wM_at0 rfl rfl hl.1 rfl (Nat.le_of_ble_eq_true rfl) dX9_oneIsOver_34 ⟨Nat.le_refl _, Nat.le_refl _⟩) hP hD hS hA (fun u_3 H locs hw_3 hP hD hS => ?_)
        refine lv_goto (tgt := 0) hx hb dX9_oneIsOver_37 (by decide) ?_
        exact ih_0 h_3 hF H _ ls hP hD hS (lv_sub hl [0] rfl)
  unfold f_X9_oneIsOver at hF
  exact hJ_0 8589934592 h hF H _ ls hP hD hS (lv_sub hl [0] rfl)
def f_X9_askIsOver_0 : Nat → HS → Option HS
  | 0, _ => none
  | n + 1, h => (ob2 (f_X9_top h) (fun r_1 h_1 => (if r_1 = 3 then (ob1 (f_X9_emits (sI (sI h_1 0 22 ((eI h_1 0 22) - 1)) 0 21 ((eI h_1 0 21) - 1)) 405 0) (fun h_3 => ((f_X9_askIsOver_0 n) h_3))) else (some (sI h_1 0 28 3)))))
theorem f_X9_askIsOver_0_s (n : Nat) (h : HS) : f_X9_askIsOver_0 (n + 1) h = (ob2 (f_X9_top h) (fun r_1 h_1 => (if r_1 = 3 then (ob1 (f_X9_emits (sI (sI h_1 0 22 ((eI h_1 0 22) - 1)) 0 21 ((eI h_1 0 21) - 1)) 405 0) (fun h_3 => ((f_X9_askIsOver_0 n) h_3))) else (some (sI h_1 0 28 3))))) := rfl
def f_X9_askIsOver (h : HS) : Option HS := (f_X9_askIsOver_0 8589934592 h)
set_option maxHeartbeats 4000000 in
set_option maxRecDepth 100000 in
theorem c_X9_askIsOver (l : Launch) (G : va_G) (cI cJ cZ cB cT : ClassId) (m0 : Nat) (r : Nat → Nat) (h : HS)  (hh : HS) (hF : f_X9_askIsOver h = some hh) : gMv l yX9_askIsOver (gws yX9_askIsOver cX9_askIsOver 1 none) 2 G (gT cI cJ cZ cB cT) [.ref m0] (wM m0 r cI cJ cZ cB cT h) (fun (_ : Unit) => True) (fun (_ : Unit) => (wM m0 r cI cJ cZ cB cT hh)) := by
  intro sz
  refine gM_start (y := yX9_askIsOver) (av := [.ref m0]) (ws := (wM m0 r cI cJ cZ cB cT h)) (Qf := fun A => va_Qv (fun (_ : Unit) => True) (gB G (fun (_ : Unit) => (wM m0 r cI cJ cZ cB cT hh)) A) A) (cc := cX9_askIsOver) (maxL := 1) (ret := none) (by decide) (Nat.le_of_ble_eq_true rfl) ?_
  intro p e s m args below meth c A ls H hx hb hr hts hown hin hlocks hml hP hK hD hA hS hl hE
  have hl : lv_has ls 1 [(0, .ref m0)] := hl
  have hJ_0 : ∀ (n_0 : Nat) (h : HS), f_X9_askIsOver_0 n_0 h = some hh → ∀ (H : Heap) (locs : List Loc) (ls : Array Slot), va_P G vwCl (wM m0 r cI cJ cZ cB cT h) H → va_D A (wM m0 r cI cJ cZ cB cT h) → va_S A s.heap H locs → lv_has ls 1 [(0, .ref m0)] → W p l e (gRm 2) s m args below meth c H locs 0 0 (MQ below (va_Qv (fun (_ : Unit) => True) (gB G (fun (_ : Unit) => (wM m0 r cI cJ cZ cB cT hh)) A) A) args s 0 0 A) (F0 m 0 ls []) := by
    intro n_0
    induction n_0 with
    | zero =>
      intro h hF
      exact absurd hF (by simp [f_X9_askIsOver_0])
    | succ n_0 ih_0 =>
      intro h hF H locs ls hP hD hS hl
      rw [f_X9_askIsOver_0_s] at hF
      refine lv_aload_n hx hb dX9_askIsOver_0 rfl (lv_at hl 0 rfl) ?_
      obtain ⟨r_1, h_1, e_1, hF⟩ := ob2_some hF
      refine gx_calli (gx_runV (As := []) (rest := []) ⟨hx, hb, hml, hown, hts⟩ (c_X9_top l G cI cJ cZ cB cT m0 r h  r_1 h_1 e_1 H.size) (gG_V m_181 m_182 m_183 m_64 m_180) rfl e_X9_top ⟨Nat.le_of_ble_eq_true rfl, Nat.le_of_ble_eq_true rfl⟩ hK hP hD hE hS hA 0 wM_at0 rfl rfl hl.1 rfl (Nat.le_of_ble_eq_true rfl) dX9_askIsOver_1 ⟨Nat.le_refl _, Nat.le_refl _⟩) hP hD hS hA (fun x_1 u_1 H locs hw_1 hP hD hS => ?_)
      subst x_1
      refine lv_iconst (v := 3) hx hb dX9_askIsOver_4 (by decide) ?_
      refine lv_icmp_ne (tgt := 39) hx hb dX9_askIsOver_5 (by decide) (fun c_2 => ?_) (fun c_2 => ?_)
      · have hF := ob_neg c_2 hF
        refine lv_aload_n hx hb dX9_askIsOver_39 rfl (lv_at hl 0 rfl) ?_
        refine lv_iconst (v := 3) hx hb dX9_askIsOver_40 (by decide) ?_
        refine va_put (D := G) (ci := 9) (v := .int 3) (ty := .int) (C := RX9) (T := TX9) (N := 53) hx hb hts iX9 tyX9 tyX9_ok nmX9 hown hK hP hD hS 0 wM_at0 rfl 28 (by decide) (hts _ m_175) (fun _ h9 => h9) rfl (tyX9_ok 28 (by decide)) rfl rfl (Nat.le_of_ble_eq_true rfl) dX9_askIsOver_41 (fun H locs hP hD hS => ?_)
        rw [wM_sI0_28] at hP hD
        obtain rfl := ob_one hF
        exact gw_vret () hx hb hr hlocks hP hD hS trivial dX9_askIsOver_44
      · have hF := ob_pos c_2 hF
        refine lv_aload_n hx hb dX9_askIsOver_8 rfl (lv_at hl 0 rfl) ?_
        refine lv_dup hx hb dX9_askIsOver_9 rfl ?_
        refine va_get (D := G) (ci := 9) (v := .int (eI h_1 0 22)) (C := RX9) (T := TX9) (N := 53) hx hb hts iX9 hown hK hP 0 wM_at0 rfl 22 (by decide) (hts _ m_143) (fun _ h9 => h9) rfl dX9_askIsOver_10 ?_
        refine lv_iconst (v := 1) hx hb dX9_askIsOver_13 (by decide) ?_
        refine lv_isub hx hb dX9_askIsOver_14 ?_
        refine va_put (D := G) (ci := 9) (v := .int ((eI h_1 0 22) - 1)) (ty := .int) (C := RX9) (T := TX9) (N := 53) hx hb hts iX9 tyX9 tyX9_ok nmX9 hown hK hP hD hS 0 wM_at0 rfl 22 (by decide) (hts _ m_143) (fun _ h9 => h9) rfl (tyX9_ok 22 (by decide)) rfl rfl (Nat.le_of_ble_eq_true rfl) dX9_askIsOver_15 (fun H locs hP hD hS => ?_)
        rw [wM_sI0_22] at hP hD
        refine lv_aload_n hx hb dX9_askIsOver_18 rfl (lv_at hl 0 rfl) ?_
        refine lv_dup hx hb dX9_askIsOver_19 rfl ?_
        refine va_get (D := G) (ci := 9) (v := .int (eI h_1 0 21)) (C := RX9) (T := TX9) (N := 53) hx hb hts iX9 hown hK hP 0 wM_at0 rfl 21 (by decide) (hts _ m_144) (fun _ h9 => h9) rfl dX9_askIsOver_20 ?_
        refine lv_iconst (v := 1) hx hb dX9_askIsOver_23 (by decide) ?_
        refine lv_isub hx hb dX9_askIsOver_24 ?_
        refine va_put (D := G) (ci := 9) (v := .int ((eI h_1 0 21) - 1)) (ty := .int) (C := RX9) (T := TX9) (N := 53) hx hb hts iX9 tyX9 tyX9_ok nmX9 hown hK hP hD hS 0 wM_at0 rfl 21 (by decide) (hts _ m_144) (fun _ h9 => h9) rfl (tyX9_ok 21 (by decide)) rfl rfl (Nat.le_of_ble_eq_true rfl) dX9_askIsOver_25 (fun H locs hP hD hS => ?_)
        rw [wM_sI0_21] at hP hD
        refine lv_aload_n hx hb dX9_askIsOver_28 rfl (lv_at hl 0 rfl) ?_
        refine lv_sipush (v := 405) hx hb dX9_askIsOver_29 (by decide) ?_
        refine lv_iconst (v := 0) hx hb dX9_askIsOver_32 (by decide) ?_
        obtain ⟨h_3, e_3, hF⟩ := ob1_some hF
        refine gx_callv (gx_runV (As := [.int 405, .int 0]) (rest := []) ⟨hx, hb, hml, hown, hts⟩ (c_X9_emits l G cI cJ cZ cB cT m0 r (sI (sI h_1 0 22 ((eI h_1 0 22) - 1)) 0 21 ((eI h_1 0 21) - 1)) 405 0 h_3 e_3 H.size) (gG_V m_164 m_165 m_166 m_64 m_163) rfl e_X9_emits ⟨Nat.le_of_ble_eq_true rfl, Nat.le_of_ble_eq_true rfl⟩ hK hP hD hE hS hA 0 wM_at0 rfl rfl hl.1 rfl (Nat.le_of_ble_eq_true rfl) dX9_askIsOver_33 ⟨Nat.le_refl _, Nat.le_refl _⟩) hP hD hS hA (fun u_3 H locs hw_3 hP hD hS => ?_)
        refine lv_goto (tgt := 0) hx hb dX9_askIsOver_36 (by decide) ?_
        exact ih_0 h_3 hF H _ ls hP hD hS (lv_sub hl [0] rfl)
  unfold f_X9_askIsOver at hF
  exact hJ_0 8589934592 h hF H _ ls hP hD hS (lv_sub hl [0] rfl)
def f_X9_begins_154 (h : HS) : Option HS := (some h)
def f_X9_begins_111 (h : HS) : Option HS := (ob2 (f_X9_isSign h 40) (fun r_12 h_12 => (if r_12 = 0 then (ob2 (f_X9_isSign h_12 45) (fun r_14 h_14 => (if r_14 = 0 then (ob1 (f_X9_errs h_14 1) (fun h_16 => (f_X9_begins_154 h_16))) else (ob2 (f_X9_opensSign h_14 7) (fun r_17 h_17 => (f_X9_begins_154 h_17)))))) else (ob2 (f_X9_opensSign h_12 6) (fun r_18 h_18 => (f_X9_begins_154 h_18))))))
def f_X9_begins_92 (h : HS) (x1 : Int32) : Option HS := (ob1 (f_X9_emits h 401 x1) (fun h_19 => (ob1 (f_X9_next h_19) (fun h_20 => (ob1 (f_X9_oneIsOver h_20) (fun h_21 => (f_X9_begins_154 h_21)))))))
def f_X9_begins (h : HS) : Option HS := (if (eI h 0 17) = 2 then (if (eI h 0 18) ≤ 9999 then (ob1 (f_X9_emits h 400 (eI h 0 18)) (fun h_8 => (ob1 (f_X9_next h_8) (fun h_9 => (ob1 (f_X9_oneIsOver h_9) (fun h_10 => (f_X9_begins_154 h_10))))))) else (ob1 (f_X9_errs h 2) (fun h_11 => (some h_11)))) else (if (eI h 0 17) = 1 then (if (eI h 0 18) ≤ 12 then (f_X9_begins_111 h) else (if (((eI h 0 18) - 12) - 1) ≤ 5 then (f_X9_begins_92 h (((eI h 0 18) - 12) - 1)) else (if (eI h 0 30) ≤ 1 then (f_X9_begins_92 h (((eI h 0 18) - 12) - 1)) else (ob1 (f_X9_errs h 5) (fun h_6 => (some h_6)))))) else (f_X9_begins_111 h)))
theorem e_X9_isSign : yX9_isSign.cls = RX9 ∧ yX9_isSign.cls ≠ "java/lang/invoke/MethodHandle" ∧ yX9_isSign.cls ≠ "java/lang/invoke/VarHandle" ∧ (parseMethodDescriptor yX9_isSign.desc).map (fun d => d.parameters.length) = some 1 := by decide +kernel
theorem e_X9_oneIsOver : yX9_oneIsOver.cls = RX9 ∧ yX9_oneIsOver.cls ≠ "java/lang/invoke/MethodHandle" ∧ yX9_oneIsOver.cls ≠ "java/lang/invoke/VarHandle" ∧ (parseMethodDescriptor yX9_oneIsOver.desc).map (fun d => d.parameters.length) = some 0 := by decide +kernel
set_option maxHeartbeats 4000000 in
set_option maxRecDepth 100000 in
theorem c_X9_begins (l : Launch) (G : va_G) (cI cJ cZ cB cT : ClassId) (m0 : Nat) (r : Nat → Nat) (h : HS)  (hh : HS) (hF : f_X9_begins h = some hh) : gMv l yX9_begins (gws yX9_begins cX9_begins 2 none) 5 G (gT cI cJ cZ cB cT) [.ref m0] (wM m0 r cI cJ cZ cB cT h) (fun (_ : Unit) => True) (fun (_ : Unit) => (wM m0 r cI cJ cZ cB cT hh)) := by
  intro sz
  refine gM_start (y := yX9_begins) (av := [.ref m0]) (ws := (wM m0 r cI cJ cZ cB cT h)) (Qf := fun A => va_Qv (fun (_ : Unit) => True) (gB G (fun (_ : Unit) => (wM m0 r cI cJ cZ cB cT hh)) A) A) (cc := cX9_begins) (maxL := 2) (ret := none) (by decide) (Nat.le_of_ble_eq_true rfl) ?_
  intro p e s m args below meth c A ls H hx hb hr hts hown hin hlocks hml hP hK hD hA hS hl hE
  have hl : lv_has ls 2 [(0, .ref m0)] := hl
  have hJ_154 : ∀ (h : HS), f_X9_begins_154 h = some hh → ∀ (H : Heap) (locs : List Loc) (ls : Array Slot), va_P G vwCl (wM m0 r cI cJ cZ cB cT h) H → va_D A (wM m0 r cI cJ cZ cB cT h) → va_S A s.heap H locs → lv_has ls 2 [] → W p l e (gRm 5) s m args below meth c H locs 0 0 (MQ below (va_Qv (fun (_ : Unit) => True) (gB G (fun (_ : Unit) => (wM m0 r cI cJ cZ cB cT hh)) A) A) args s 0 0 A) (F0 m 154 ls []) := by
    intro h hF H locs ls hP hD hS hl
    unfold f_X9_begins_154 at hF
    obtain rfl := ob_one hF
    exact gw_vret () hx hb hr hlocks hP hD hS trivial dX9_begins_154
  have hJ_111 : ∀ (h : HS), f_X9_begins_111 h = some hh → ∀ (H : Heap) (locs : List Loc) (ls : Array Slot), va_P G vwCl (wM m0 r cI cJ cZ cB cT h) H → va_D A (wM m0 r cI cJ cZ cB cT h) → va_S A s.heap H locs → lv_has ls 2 [(0, .ref m0)] → W p l e (gRm 5) s m args below meth c H locs 0 0 (MQ below (va_Qv (fun (_ : Unit) => True) (gB G (fun (_ : Unit) => (wM m0 r cI cJ cZ cB cT hh)) A) A) args s 0 0 A) (F0 m 111 ls []) := by
    intro h hF H locs ls hP hD hS hl
    unfold f_X9_begins_111 at hF
    refine lv_aload_n hx hb dX9_begins_111 rfl (lv_at hl 0 rfl) ?_
    refine lv_bipush (v := 40) hx hb dX9_begins_112 (by decide) ?_
    obtain ⟨r_12, h_12, e_12, hF⟩ := ob2_some hF
    refine gx_calli (gx_runV (As := [.int 40]) (rest := []) ⟨hx, hb, hml, hown, hts⟩ (c_X9_isSign l G cI cJ cZ cB cT m0 r h 40 r_12 h_12 e_12 H.size) (gG_V m_190 m_191 m_192 m_64 m_189) rfl e_X9_isSign ⟨Nat.le_of_ble_eq_true rfl, Nat.le_of_ble_eq_true rfl⟩ hK hP hD hE hS hA 0 wM_at0 rfl rfl hl.1 rfl (Nat.le_of_ble_eq_true rfl) dX9_begins_114 ⟨Nat.le_refl _, Nat.le_refl _⟩) hP hD hS hA (fun x_12 u_12 H locs hw_12 hP hD hS => ?_)
    subst x_12
    refine lv_if_eq (tgt := 130) hx hb dX9_begins_117 (by decide) (fun c_13 => ?_) (fun c_13 => ?_)
    · have hF := ob_pos c_13 hF
      refine lv_aload_n hx hb dX9_begins_130 rfl (lv_at hl 0 rfl) ?_
      refine lv_bipush (v := 45) hx hb dX9_begins_131 (by decide) ?_
      obtain ⟨r_14, h_14, e_14, hF⟩ := ob2_some hF
      refine gx_calli (gx_runV (As := [.int 45]) (rest := []) ⟨hx, hb, hml, hown, hts⟩ (c_X9_isSign l G cI cJ cZ cB cT m0 r h_12 45 r_14 h_14 e_14 H.size) (gG_V m_190 m_191 m_192 m_64 m_189) rfl e_X9_isSign ⟨Nat.le_of_ble_eq_true rfl, Nat.le_of_ble_eq_true rfl⟩ hK hP hD hE hS hA 0 wM_at0 rfl rfl hl.1 rfl (Nat.le_of_ble_eq_true rfl) dX9_begins_133 ⟨Nat.le_refl _, Nat.le_refl _⟩) hP hD hS hA (fun x_14 u_14 H locs hw_14 hP hD hS => ?_)
      subst x_14
      refine lv_if_eq (tgt := 149) hx hb dX9_begins_136 (by decide) (fun c_15 => ?_) (fun c_15 => ?_)
      · have hF := ob_pos c_15 hF
        refine lv_aload_n hx hb dX9_begins_149 rfl (lv_at hl 0 rfl) ?_
        refine lv_iconst (v := 1) hx hb dX9_begins_150 (by decide) ?_
        obtain ⟨h_16, e_16, hF⟩ := ob1_some hF
        refine gx_callv (gx_runV (As := [.int 1]) (rest := []) ⟨hx, hb, hml, hown, hts⟩ (c_X9_errs l G cI cJ cZ cB cT m0 r h_14 1 h_16 e_16 H.size) (gG_V m_154 m_155 m_156 m_64 m_153) rfl e_X9_errs ⟨Nat.le_of_ble_eq_true rfl, Nat.le_of_ble_eq_true rfl⟩ hK hP hD hE hS hA 0 wM_at0 rfl rfl hl.1 rfl (Nat.le_of_ble_eq_true rfl) dX9_begins_151 ⟨Nat.le_refl _, Nat.le_refl _⟩) hP hD hS hA (fun u_16 H locs hw_16 hP hD hS => ?_)
        exact hJ_154 h_16 hF H _ ls hP hD hS (lv_sub hl [] rfl)
      · have hF := ob_neg c_15 hF
        refine lv_aload_n hx hb dX9_begins_139 rfl (lv_at hl 0 rfl) ?_
        refine lv_bipush (v := 7) hx hb dX9_begins_140 (by decide) ?_
        obtain ⟨r_17, h_17, e_17, hF⟩ := ob2_some hF
        refine gx_calli (gx_runV (As := [.int 7]) (rest := []) ⟨hx, hb, hml, hown, hts⟩ (c_X9_opensSign l G cI cJ cZ cB cT m0 r h_14 7 r_17 h_17 e_17 H.size) (gG_V m_177 m_178 m_179 m_64 m_176) rfl e_X9_opensSign ⟨Nat.le_of_ble_eq_true rfl, Nat.le_of_ble_eq_true rfl⟩ hK hP hD hE hS hA 0 wM_at0 rfl rfl hl.1 rfl (Nat.le_of_ble_eq_true rfl) dX9_begins_142 ⟨Nat.le_refl _, Nat.le_refl _⟩) hP hD hS hA (fun x_17 u_17 H locs hw_17 hP hD hS => ?_)
        subst x_17
        refine lv_istore_n (lv' := [(1, .int r_17), (0, .ref m0)]) hx hb dX9_begins_145 rfl hl (by decide) rfl (fun ls hl => ?_)
        refine lv_goto (tgt := 154) hx hb dX9_begins_146 (by decide) ?_
        exact hJ_154 h_17 hF H _ ls hP hD hS (lv_sub hl [] rfl)
    · have hF := ob_neg c_13 hF
      refine lv_aload_n hx hb dX9_begins_120 rfl (lv_at hl 0 rfl) ?_
      refine lv_bipush (v := 6) hx hb dX9_begins_121 (by decide) ?_
      obtain ⟨r_18, h_18, e_18, hF⟩ := ob2_some hF
      refine gx_calli (gx_runV (As := [.int 6]) (rest := []) ⟨hx, hb, hml, hown, hts⟩ (c_X9_opensSign l G cI cJ cZ cB cT m0 r h_12 6 r_18 h_18 e_18 H.size) (gG_V m_177 m_178 m_179 m_64 m_176) rfl e_X9_opensSign ⟨Nat.le_of_ble_eq_true rfl, Nat.le_of_ble_eq_true rfl⟩ hK hP hD hE hS hA 0 wM_at0 rfl rfl hl.1 rfl (Nat.le_of_ble_eq_true rfl) dX9_begins_123 ⟨Nat.le_refl _, Nat.le_refl _⟩) hP hD hS hA (fun x_18 u_18 H locs hw_18 hP hD hS => ?_)
      subst x_18
      refine lv_istore_n (lv' := [(1, .int r_18), (0, .ref m0)]) hx hb dX9_begins_126 rfl hl (by decide) rfl (fun ls hl => ?_)
      refine lv_goto (tgt := 154) hx hb dX9_begins_127 (by decide) ?_
      exact hJ_154 h_18 hF H _ ls hP hD hS (lv_sub hl [] rfl)
  have hJ_92 : ∀ (h : HS) (x1 : Int32), f_X9_begins_92 h x1 = some hh → ∀ (H : Heap) (locs : List Loc) (ls : Array Slot), va_P G vwCl (wM m0 r cI cJ cZ cB cT h) H → va_D A (wM m0 r cI cJ cZ cB cT h) → va_S A s.heap H locs → lv_has ls 2 [(0, .ref m0), (1, .int x1)] → W p l e (gRm 5) s m args below meth c H locs 0 0 (MQ below (va_Qv (fun (_ : Unit) => True) (gB G (fun (_ : Unit) => (wM m0 r cI cJ cZ cB cT hh)) A) A) args s 0 0 A) (F0 m 92 ls []) := by
    intro h x1 hF H locs ls hP hD hS hl
    unfold f_X9_begins_92 at hF
    refine lv_aload_n hx hb dX9_begins_92 rfl (lv_at hl 0 rfl) ?_
    refine lv_sipush (v := 401) hx hb dX9_begins_93 (by decide) ?_
    refine lv_iload_n hx hb dX9_begins_96 rfl (lv_at hl 1 rfl) ?_
    obtain ⟨h_19, e_19, hF⟩ := ob1_some hF
    refine gx_callv (gx_runV (As := [.int 401, .int x1]) (rest := []) ⟨hx, hb, hml, hown, hts⟩ (c_X9_emits l G cI cJ cZ cB cT m0 r h 401 x1 h_19 e_19 H.size) (gG_V m_164 m_165 m_166 m_64 m_163) rfl e_X9_emits ⟨Nat.le_of_ble_eq_true rfl, Nat.le_of_ble_eq_true rfl⟩ hK hP hD hE hS hA 0 wM_at0 rfl rfl hl.1 rfl (Nat.le_of_ble_eq_true rfl) dX9_begins_97 ⟨Nat.le_refl _, Nat.le_refl _⟩) hP hD hS hA (fun u_19 H locs hw_19 hP hD hS => ?_)
    refine lv_aload_n hx hb dX9_begins_100 rfl (lv_at hl 0 rfl) ?_
    obtain ⟨h_20, e_20, hF⟩ := ob1_some hF
    refine gx_callv (gx_runV (As := []) (rest := []) ⟨hx, hb, hml, hown, hts⟩ (c_X9_next l G cI cJ cZ cB cT m0 r h_19  h_20 e_20 H.size) (gG_V m_150 m_151 m_152 m_64 m_149) rfl e_X9_next ⟨Nat.le_of_ble_eq_true rfl, Nat.le_of_ble_eq_true rfl⟩ hK hP hD hE hS hA 0 wM_at0 rfl rfl hl.1 rfl (Nat.le_of_ble_eq_true rfl) dX9_begins_101 ⟨Nat.le_refl _, Nat.le_refl _⟩) hP hD hS hA (fun u_20 H locs hw_20 hP hD hS => ?_)
    refine lv_aload_n hx hb dX9_begins_104 rfl (lv_at hl 0 rfl) ?_
    obtain ⟨h_21, e_21, hF⟩ := ob1_some hF
    refine gx_callv (gx_runV (As := []) (rest := []) ⟨hx, hb, hml, hown, hts⟩ (c_X9_oneIsOver l G cI cJ cZ cB cT m0 r h_20  h_21 e_21 H.size) (gG_V m_186 m_187 m_188 m_64 m_185) rfl e_X9_oneIsOver ⟨Nat.le_of_ble_eq_true rfl, Nat.le_of_ble_eq_true rfl⟩ hK hP hD hE hS hA 0 wM_at0 rfl rfl hl.1 rfl (Nat.le_of_ble_eq_true rfl) dX9_begins_105 ⟨Nat.le_refl _, Nat.le_refl _⟩) hP hD hS hA (fun u_21 H locs hw_21 hP hD hS => ?_)
    refine lv_goto (tgt := 154) hx hb dX9_begins_108 (by decide) ?_
    exact hJ_154 h_21 hF H _ ls hP hD hS (lv_sub hl [] rfl)
  unfold f_X9_begins at hF
  refine lv_aload_n hx hb dX9_begins_0 rfl (lv_at hl 0 rfl) ?_
  refine va_get (D := G) (ci := 9) (v := .int (eI h 0 17)) (C := RX9) (T := TX9) (N := 53) hx hb hts iX9 hown hK hP 0 wM_at0 rfl 17 (by decide) (hts _ m_131) (fun _ h9 => h9) rfl dX9_begins_1 ?_
  refine lv_iconst (v := 2) hx hb dX9_begins_4 (by decide) ?_
  refine lv_icmp_ne (tgt := 46) hx hb dX9_begins_5 (by decide) (fun c_1 => ?_) (fun c_1 => ?_)
  · have hF := ob_neg c_1 hF
    refine lv_aload_n hx hb dX9_begins_46 rfl (lv_at hl 0 rfl) ?_
    refine va_get (D := G) (ci := 9) (v := .int (eI h 0 17)) (C := RX9) (T := TX9) (N := 53) hx hb hts iX9 hown hK hP 0 wM_at0 rfl 17 (by decide) (hts _ m_131) (fun _ h9 => h9) rfl dX9_begins_47 ?_
    refine lv_iconst (v := 1) hx hb dX9_begins_50 (by decide) ?_
    refine lv_icmp_ne (tgt := 111) hx hb dX9_begins_51 (by decide) (fun c_2 => ?_) (fun c_2 => ?_)
    · have hF := ob_neg c_2 hF
      exact hJ_111 h hF H _ ls hP hD hS (lv_sub hl [0] rfl)
    · have hF := ob_pos c_2 hF
      refine lv_aload_n hx hb dX9_begins_54 rfl (lv_at hl 0 rfl) ?_
      refine va_get (D := G) (ci := 9) (v := .int (eI h 0 18)) (C := RX9) (T := TX9) (N := 53) hx hb hts iX9 hown hK hP 0 wM_at0 rfl 18 (by decide) (hts _ m_130) (fun _ h9 => h9) rfl dX9_begins_55 ?_
      refine lv_bipush (v := 12) hx hb dX9_begins_58 (by decide) ?_
      refine lv_icmp_le (tgt := 111) hx hb dX9_begins_60 (by decide) (fun c_3 => ?_) (fun c_3 => ?_)
      · have hF := ob_pos c_3 hF
        exact hJ_111 h hF H _ ls hP hD hS (lv_sub hl [0] rfl)
      · have hF := ob_neg c_3 hF
        refine lv_aload_n hx hb dX9_begins_63 rfl (lv_at hl 0 rfl) ?_
        refine va_get (D := G) (ci := 9) (v := .int (eI h 0 18)) (C := RX9) (T := TX9) (N := 53) hx hb hts iX9 hown hK hP 0 wM_at0 rfl 18 (by decide) (hts _ m_130) (fun _ h9 => h9) rfl dX9_begins_64 ?_
        refine lv_bipush (v := 12) hx hb dX9_begins_67 (by decide) ?_
        refine lv_isub hx hb dX9_begins_69 ?_
        refine lv_iconst (v := 1) hx hb dX9_begins_70 (by decide) ?_
        refine lv_isub hx hb dX9_begins_71 ?_
        refine lv_istore_n (lv' := [(1, .int (((eI h 0 18) - 12) - 1)), (0, .ref m0)]) hx hb dX9_begins_72 rfl hl (by decide) rfl (fun ls hl => ?_)
        refine lv_iload_n hx hb dX9_begins_73 rfl (lv_at hl 0 rfl) ?_
        refine lv_iconst (v := 5) hx hb dX9_begins_74 (by decide) ?_
        refine lv_icmp_le (tgt := 92) hx hb dX9_begins_75 (by decide) (fun c_4 => ?_) (fun c_4 => ?_)
        · have hF := ob_pos c_4 hF
          exact hJ_92 h (((eI h 0 18) - 12) - 1) hF H _ ls hP hD hS (lv_sub hl [1, 0] rfl)
        · have hF := ob_neg c_4 hF
          refine lv_aload_n hx hb dX9_begins_78 rfl (lv_at hl 1 rfl) ?_
          refine va_get (D := G) (ci := 9) (v := .int (eI h 0 30)) (C := RX9) (T := TX9) (N := 53) hx hb hts iX9 hown hK hP 0 wM_at0 rfl 30 (by decide) (hts _ m_184) (fun _ h9 => h9) rfl dX9_begins_79 ?_
          refine lv_iconst (v := 1) hx hb dX9_begins_82 (by decide) ?_
          refine lv_icmp_le (tgt := 92) hx hb dX9_begins_83 (by decide) (fun c_5 => ?_) (fun c_5 => ?_)
          · have hF := ob_pos c_5 hF
            exact hJ_92 h (((eI h 0 18) - 12) - 1) hF H _ ls hP hD hS (lv_sub hl [1, 0] rfl)
          · have hF := ob_neg c_5 hF
            refine lv_aload_n hx hb dX9_begins_86 rfl (lv_at hl 1 rfl) ?_
            refine lv_iconst (v := 5) hx hb dX9_begins_87 (by decide) ?_
            obtain ⟨h_6, e_6, hF⟩ := ob1_some hF
            refine gx_callv (gx_runV (As := [.int 5]) (rest := []) ⟨hx, hb, hml, hown, hts⟩ (c_X9_errs l G cI cJ cZ cB cT m0 r h 5 h_6 e_6 H.size) (gG_V m_154 m_155 m_156 m_64 m_153) rfl e_X9_errs ⟨Nat.le_of_ble_eq_true rfl, Nat.le_of_ble_eq_true rfl⟩ hK hP hD hE hS hA 0 wM_at0 rfl rfl hl.1 rfl (Nat.le_of_ble_eq_true rfl) dX9_begins_88 ⟨Nat.le_refl _, Nat.le_refl _⟩) hP hD hS hA (fun u_6 H locs hw_6 hP hD hS => ?_)
            obtain rfl := ob_one hF
            exact gw_vret () hx hb hr hlocks hP hD hS trivial dX9_begins_91
  · have hF := ob_pos c_1 hF
    refine lv_aload_n hx hb dX9_begins_8 rfl (lv_at hl 0 rfl) ?_
    refine va_get (D := G) (ci := 9) (v := .int (eI h 0 18)) (C := RX9) (T := TX9) (N := 53) hx hb hts iX9 hown hK hP 0 wM_at0 rfl 18 (by decide) (hts _ m_130) (fun _ h9 => h9) rfl dX9_begins_9 ?_
    refine lv_sipush (v := 9999) hx hb dX9_begins_12 (by decide) ?_
    refine lv_icmp_le (tgt := 24) hx hb dX9_begins_15 (by decide) (fun c_7 => ?_) (fun c_7 => ?_)
    · have hF := ob_pos c_7 hF
      refine lv_aload_n hx hb dX9_begins_24 rfl (lv_at hl 0 rfl) ?_
      refine lv_sipush (v := 400) hx hb dX9_begins_25 (by decide) ?_
      refine lv_aload_n hx hb dX9_begins_28 rfl (lv_at hl 0 rfl) ?_
      refine va_get (D := G) (ci := 9) (v := .int (eI h 0 18)) (C := RX9) (T := TX9) (N := 53) hx hb hts iX9 hown hK hP 0 wM_at0 rfl 18 (by decide) (hts _ m_130) (fun _ h9 => h9) rfl dX9_begins_29 ?_
      obtain ⟨h_8, e_8, hF⟩ := ob1_some hF
      refine gx_callv (gx_runV (As := [.int 400, .int (eI h 0 18)]) (rest := []) ⟨hx, hb, hml, hown, hts⟩ (c_X9_emits l G cI cJ cZ cB cT m0 r h 400 (eI h 0 18) h_8 e_8 H.size) (gG_V m_164 m_165 m_166 m_64 m_163) rfl e_X9_emits ⟨Nat.le_of_ble_eq_true rfl, Nat.le_of_ble_eq_true rfl⟩ hK hP hD hE hS hA 0 wM_at0 rfl rfl hl.1 rfl (Nat.le_of_ble_eq_true rfl) dX9_begins_32 ⟨Nat.le_refl _, Nat.le_refl _⟩) hP hD hS hA (fun u_8 H locs hw_8 hP hD hS => ?_)
      refine lv_aload_n hx hb dX9_begins_35 rfl (lv_at hl 0 rfl) ?_
      obtain ⟨h_9, e_9, hF⟩ := ob1_some hF
      refine gx_callv (gx_runV (As := []) (rest := []) ⟨hx, hb, hml, hown, hts⟩ (c_X9_next l G cI cJ cZ cB cT m0 r h_8  h_9 e_9 H.size) (gG_V m_150 m_151 m_152 m_64 m_149) rfl e_X9_next ⟨Nat.le_of_ble_eq_true rfl, Nat.le_of_ble_eq_true rfl⟩ hK hP hD hE hS hA 0 wM_at0 rfl rfl hl.1 rfl (Nat.le_of_ble_eq_true rfl) dX9_begins_36 ⟨Nat.le_refl _, Nat.le_refl _⟩) hP hD hS hA (fun u_9 H locs hw_9 hP hD hS => ?_)
      refine lv_aload_n hx hb dX9_begins_39 rfl (lv_at hl 0 rfl) ?_
      obtain ⟨h_10, e_10, hF⟩ := ob1_some hF
      refine gx_callv (gx_runV (As := []) (rest := []) ⟨hx, hb, hml, hown, hts⟩ (c_X9_oneIsOver l G cI cJ cZ cB cT m0 r h_9  h_10 e_10 H.size) (gG_V m_186 m_187 m_188 m_64 m_185) rfl e_X9_oneIsOver ⟨Nat.le_of_ble_eq_true rfl, Nat.le_of_ble_eq_true rfl⟩ hK hP hD hE hS hA 0 wM_at0 rfl rfl hl.1 rfl (Nat.le_of_ble_eq_true rfl) dX9_begins_40 ⟨Nat.le_refl _, Nat.le_refl _⟩) hP hD hS hA (fun u_10 H locs hw_10 hP hD hS => ?_)
      refine lv_goto (tgt := 154) hx hb dX9_begins_43 (by decide) ?_
      exact hJ_154 h_10 hF H _ ls hP hD hS (lv_sub hl [] rfl)
    · have hF := ob_neg c_7 hF
      refine lv_aload_n hx hb dX9_begins_18 rfl (lv_at hl 0 rfl) ?_
      refine lv_iconst (v := 2) hx hb dX9_begins_19 (by decide) ?_
      obtain ⟨h_11, e_11, hF⟩ := ob1_some hF
      refine gx_callv (gx_runV (As := [.int 2]) (rest := []) ⟨hx, hb, hml, hown, hts⟩ (c_X9_errs l G cI cJ cZ cB cT m0 r h 2 h_11 e_11 H.size) (gG_V m_154 m_155 m_156 m_64 m_153) rfl e_X9_errs ⟨Nat.le_of_ble_eq_true rfl, Nat.le_of_ble_eq_true rfl⟩ hK hP hD hE hS hA 0 wM_at0 rfl rfl hl.1 rfl (Nat.le_of_ble_eq_true rfl) dX9_begins_20 ⟨Nat.le_refl _, Nat.le_refl _⟩) hP hD hS hA (fun u_11 H locs hw_11 hP hD hS => ?_)
      obtain rfl := ob_one hF
      exact gw_vret () hx hb hr hlocks hP hD hS trivial dX9_begins_23
